section PT
variable {p : Program} {l : Launch} {e : Env} {R : Room} {s : State} {m : MethodId} {args : Array Value} {below : List Frame} {meth : Method} {c : Code} {Q : State → Prop}
variable {cc : ByteArray} {D : va_G} {A : Nat → Prop} {kc0 ks0 n0 : Nat} {ad0 : pz_R → Nat} {own : String}
variable {σ σ' : pz_S} {L L' : pz_L} {st st' : List pz_V} {pc pc' : Nat}
set_option maxHeartbeats 4000000 in
theorem pz_step_ok {fin : Bool} {i : Instr} {n a b : Nat} (hx : p.tables.exec = Jvm.exec) (hb : c.code = cc) (hown : s.vm.findClass own = some m.cls) (hts : ∀ w ∈ wsL_law, w.before args s = true) (hA : ∀ q, s.heap.size ≤ q → A q)
    (hAI : Cond.arrayClass .int ∈ wsL_law) (hAL : Cond.arrayClass .long ∈ wsL_law) (hAB : Cond.arrayClass .boolean ∈ wsL_law) (hAO : va_AO RX6 s) (hAOA : va_AOA .int s) (hlk : pz_lk own i a b) (hfin : fin = true → meth.name = "<init>" ∧ own = pz_C a)
    (hdg : decode cc pc = .ok (i, n)) (hn : n = pz_il i ∨ ∃ d lo hi offs, i = .tableswitch d lo hi offs) (hs : pz_step fin i a b pc L st σ = some (pc', L', st', σ'))
    (hcap : pz_kc σ' ≤ kc0 + R.cells ∧ pz_ks σ' ≤ ks0 + R.slots) (hn0 : n0 ≤ σ.1) (kk : pz_W p l e R s m args below meth c Q D A kc0 ks0 n0 ad0 (pc') (L') (st') (σ')) : pz_W p l e R s m args below meth c Q D A kc0 ks0 n0 ad0 (pc) (L) (st) (σ) := by
  unfold pz_step at hs
  split at hs
  · rename_i k
    obtain rfl : n = 1 := hn.elim (fun h => h) (fun ⟨_, _, _, _, h⟩ => by cases h)
    exact pz_push_ok (v := .inl (Int32.ofInt k)) (x := .int (Int32.ofInt k)) (fun _ => rfl) (fun _ => trivial) (fun h => lv_iconst hx hb hdg rfl h) hs kk
  · rename_i k
    obtain rfl : n = 2 := hn.elim (fun h => h) (fun ⟨_, _, _, _, h⟩ => by cases h)
    exact pz_push_ok (v := .inl (Int8.ofInt k).toInt32) (x := .int (Int8.ofInt k).toInt32) (fun _ => rfl) (fun _ => trivial) (fun h => lv_bipush hx hb hdg rfl h) hs kk
  · rename_i k
    obtain rfl : n = 3 := hn.elim (fun h => h) (fun ⟨_, _, _, _, h⟩ => by cases h)
    exact pz_push_ok (v := .inl (Int16.ofInt k).toInt32) (x := .int (Int16.ofInt k).toInt32) (fun _ => rfl) (fun _ => trivial) (fun h => lv_sipush hx hb hdg rfl h) hs kk
  · rename_i k
    obtain rfl : n = 1 := hn.elim (fun h => h) (fun ⟨_, _, _, _, h⟩ => by cases h)
    exact pz_push_ok (v := .inr (.inl (Int64.ofNat (k : Nat)))) (x := .long (Int64.ofNat (k : Nat))) (fun _ => rfl) (fun _ => trivial) (fun h => lv_lconst hx hb hdg rfl h) hs kk
  · rename_i k
    obtain rfl : n = 2 := hn.elim (fun h => h) (fun ⟨_, _, _, _, h⟩ => by cases h)
    exact pz_push_ok (v := .inl (Int32.ofNat a)) (x := .int (Int32.ofNat a)) (fun _ => rfl) (fun _ => trivial) (fun h => lv_ldc hx hb hown (hts _ hlk) hdg h) hs kk
  · rename_i k
    obtain rfl : n = 3 := hn.elim (fun h => h) (fun ⟨_, _, _, _, h⟩ => by cases h)
    exact pz_push_ok (v := .inl (Int32.ofNat a)) (x := .int (Int32.ofNat a)) (fun _ => rfl) (fun _ => trivial) (fun h => lv_ldcw hx hb hown (hts _ hlk) hdg h) hs kk
  · rename_i k
    obtain rfl : n = 3 := hn.elim (fun h => h) (fun ⟨_, _, _, _, h⟩ => by cases h)
    exact pz_push_ok (v := .inr (.inl (pz_lcs.getD a 0))) (x := .long (pz_lcs.getD a 0)) (fun _ => rfl) (fun _ => trivial) (fun h => lv_ldc2 hx hb hown (hts _ hlk) hdg h) hs kk
  · rename_i k
    obtain rfl : n = 2 := hn.elim (fun h => h) (fun ⟨_, _, _, _, h⟩ => by cases h)
    exact pz_ldi_ok (fun h k9 => lv_iload hx hb hdg h k9) hs kk
  · rename_i k
    obtain rfl : n = 1 := hn.elim (fun h => h) (fun ⟨_, _, _, _, h⟩ => by cases h)
    exact pz_ldi_ok (fun h k9 => lv_iload_n hx hb hdg rfl h k9) hs kk
  · rename_i k
    obtain rfl : n = 2 := hn.elim (fun h => h) (fun ⟨_, _, _, _, h⟩ => by cases h)
    exact pz_ldl_ok (fun h k9 => lv_lload hx hb hdg h k9) hs kk
  · rename_i k
    obtain rfl : n = 1 := hn.elim (fun h => h) (fun ⟨_, _, _, _, h⟩ => by cases h)
    exact pz_ldl_ok (fun h k9 => lv_lload_n hx hb hdg rfl h k9) hs kk
  · rename_i k
    obtain rfl : n = 2 := hn.elim (fun h => h) (fun ⟨_, _, _, _, h⟩ => by cases h)
    exact pz_lda_ok (fun h k9 => lv_aload hx hb hdg h k9) hs kk
  · rename_i k
    obtain rfl : n = 1 := hn.elim (fun h => h) (fun ⟨_, _, _, _, h⟩ => by cases h)
    exact pz_lda_ok (fun h k9 => lv_aload_n hx hb hdg rfl h k9) hs kk
  · rename_i k
    obtain rfl : n = 2 := hn.elim (fun h => h) (fun ⟨_, _, _, _, h⟩ => by cases h)
    exact pz_sti_ok (fun h hi k9 => lv_istore hx hb hdg h hi rfl k9) hs kk
  · rename_i k
    obtain rfl : n = 1 := hn.elim (fun h => h) (fun ⟨_, _, _, _, h⟩ => by cases h)
    exact pz_sti_ok (fun h hi k9 => lv_istore_n hx hb hdg rfl h hi rfl k9) hs kk
  · rename_i k
    obtain rfl : n = 2 := hn.elim (fun h => h) (fun ⟨_, _, _, _, h⟩ => by cases h)
    exact pz_stl_ok (fun h hi k9 => lv_lstore hx hb hdg h hi rfl k9) hs kk
  · rename_i k
    obtain rfl : n = 1 := hn.elim (fun h => h) (fun ⟨_, _, _, _, h⟩ => by cases h)
    exact pz_stl_ok (fun h hi k9 => lv_lstore_n hx hb hdg rfl h hi rfl k9) hs kk
  · rename_i k
    obtain rfl : n = 2 := hn.elim (fun h => h) (fun ⟨_, _, _, _, h⟩ => by cases h)
    exact pz_sta_ok (fun h hi k9 => lv_astore hx hb hdg h hi rfl k9) hs kk
  · rename_i k
    obtain rfl : n = 1 := hn.elim (fun h => h) (fun ⟨_, _, _, _, h⟩ => by cases h)
    exact pz_sta_ok (fun h hi k9 => lv_astore_n hx hb hdg rfl h hi rfl k9) hs kk
  · rename_i k q
    obtain rfl : n = 3 := hn.elim (fun h => h) (fun ⟨_, _, _, _, h⟩ => by cases h)
    exact pz_inc_ok hx hb hdg hs kk
  · obtain rfl : n = 1 := hn.elim (fun h => h) (fun ⟨_, _, _, _, h⟩ => by cases h)
    exact pz_bin_ok (fun k9 => lv_iadd hx hb hdg k9) hs kk
  · obtain rfl : n = 1 := hn.elim (fun h => h) (fun ⟨_, _, _, _, h⟩ => by cases h)
    exact pz_bin_ok (fun k9 => lv_isub hx hb hdg k9) hs kk
  · obtain rfl : n = 1 := hn.elim (fun h => h) (fun ⟨_, _, _, _, h⟩ => by cases h)
    exact pz_bin_ok (fun k9 => lv_imul hx hb hdg k9) hs kk
  · obtain rfl : n = 1 := hn.elim (fun h => h) (fun ⟨_, _, _, _, h⟩ => by cases h)
    exact pz_bin_ok (fun k9 => lv_iand hx hb hdg k9) hs kk
  · obtain rfl : n = 1 := hn.elim (fun h => h) (fun ⟨_, _, _, _, h⟩ => by cases h)
    exact pz_bin_ok (fun k9 => lv_ior hx hb hdg k9) hs kk
  · obtain rfl : n = 1 := hn.elim (fun h => h) (fun ⟨_, _, _, _, h⟩ => by cases h)
    exact pz_bin_ok (fun k9 => lv_ixor hx hb hdg k9) hs kk
  · obtain rfl : n = 1 := hn.elim (fun h => h) (fun ⟨_, _, _, _, h⟩ => by cases h)
    exact pz_bin_ok (fun k9 => lv_ishl hx hb hdg k9) hs kk
  · obtain rfl : n = 1 := hn.elim (fun h => h) (fun ⟨_, _, _, _, h⟩ => by cases h)
    exact pz_bin_ok (fun k9 => lv_ishr hx hb hdg k9) hs kk
  · obtain rfl : n = 1 := hn.elim (fun h => h) (fun ⟨_, _, _, _, h⟩ => by cases h)
    exact pz_dv_ok (fun hy k9 => lv_idiv hx hb hdg hy k9) hs kk
  · obtain rfl : n = 1 := hn.elim (fun h => h) (fun ⟨_, _, _, _, h⟩ => by cases h)
    exact pz_dv_ok (fun hy k9 => lv_irem hx hb hdg hy k9) hs kk
  · obtain rfl : n = 1 := hn.elim (fun h => h) (fun ⟨_, _, _, _, h⟩ => by cases h)
    exact pz_un_ok (f := fun x => .inl (-x)) (fun _ _ => trivial) (fun k9 => lv_ineg hx hb hdg k9) hs kk
  · obtain rfl : n = 1 := hn.elim (fun h => h) (fun ⟨_, _, _, _, h⟩ => by cases h)
    exact pz_un_ok (f := fun x => .inr (.inl x.toInt64)) (fun _ _ => trivial) (fun k9 => lv_i2l hx hb hdg rfl k9) hs kk
  · obtain rfl : n = 1 := hn.elim (fun h => h) (fun ⟨_, _, _, _, h⟩ => by cases h)
    exact pz_un_ok (f := fun x => .inl (x.toUInt32 % 65536).toInt32) (fun _ _ => trivial) (fun k9 => lv_i2c hx hb hdg rfl k9) hs kk
  · obtain rfl : n = 1 := hn.elim (fun h => h) (fun ⟨_, _, _, _, h⟩ => by cases h)
    split at hs
    · cases hs
      intro ad ls H locs cells slots ha E hl hL hS
      exact lv_l2i hx hb hdg rfl (kk ad ls H locs cells slots ha E hl hL (pz_okS_c trivial (pz_okS_t hS)))
    · cases hs
  · obtain rfl : n = 1 := hn.elim (fun h => h) (fun ⟨_, _, _, _, h⟩ => by cases h)
    exact pz_lbin_ok (fun k9 => lv_ladd hx hb hdg k9) hs kk
  · obtain rfl : n = 1 := hn.elim (fun h => h) (fun ⟨_, _, _, _, h⟩ => by cases h)
    exact pz_lbin_ok (fun k9 => lv_lsub hx hb hdg k9) hs kk
  · obtain rfl : n = 1 := hn.elim (fun h => h) (fun ⟨_, _, _, _, h⟩ => by cases h)
    exact pz_lbin_ok (fun k9 => lv_lmul hx hb hdg k9) hs kk
  · obtain rfl : n = 1 := hn.elim (fun h => h) (fun ⟨_, _, _, _, h⟩ => by cases h)
    exact pz_ldv_ok (fun hy k9 => lv_ldiv hx hb hdg hy k9) hs kk
  · obtain rfl : n = 1 := hn.elim (fun h => h) (fun ⟨_, _, _, _, h⟩ => by cases h)
    exact pz_ldv_ok (fun hy k9 => lv_lrem hx hb hdg hy k9) hs kk
  · obtain rfl : n = 1 := hn.elim (fun h => h) (fun ⟨_, _, _, _, h⟩ => by cases h)
    split at hs
    · cases hs
      intro ad ls H locs cells slots ha E hl hL hS
      exact W.lcmp hx hb hdg (kk ad ls H locs cells slots ha E hl hL (pz_okS_c trivial (pz_okS_t (pz_okS_t hS))))
    · cases hs
  · obtain rfl : n = 1 := hn.elim (fun h => h) (fun ⟨_, _, _, _, h⟩ => by cases h)
    exact pz_dup_ok hx hb hdg hs kk
  · obtain rfl : n = 1 := hn.elim (fun h => h) (fun ⟨_, _, _, _, h⟩ => by cases h)
    exact pz_pop_ok hx hb hdg hs kk
  · obtain rfl : n = 1 := hn.elim (fun h => h) (fun ⟨_, _, _, _, h⟩ => by cases h)
    exact pz_dupx1_ok hx hb hdg hs kk
  · obtain rfl : n = 1 := hn.elim (fun h => h) (fun ⟨_, _, _, _, h⟩ => by cases h)
    exact pz_dupx2_ok hx hb hdg hs kk
  · obtain rfl : n = 1 := hn.elim (fun h => h) (fun ⟨_, _, _, _, h⟩ => by cases h)
    exact pz_dup2_ok hx hb hdg hs kk
  · rename_i off
    obtain rfl : n = 3 := hn.elim (fun h => h) (fun ⟨_, _, _, _, h⟩ => by cases h)
    exact pz_if_ok (fun ht kt kf => lv_if_eq hx hb hdg ht (fun h => kt (by simp [h])) (fun h => kf (by simp [h]))) hs kk
  · rename_i off
    obtain rfl : n = 3 := hn.elim (fun h => h) (fun ⟨_, _, _, _, h⟩ => by cases h)
    exact pz_if_ok (fun ht kt kf => lv_if_ne hx hb hdg ht (fun h => kt (by simp [h])) (fun h => kf (by simp [h]))) hs kk
  · rename_i off
    obtain rfl : n = 3 := hn.elim (fun h => h) (fun ⟨_, _, _, _, h⟩ => by cases h)
    exact pz_if_ok (fun ht kt kf => lv_if_lt hx hb hdg ht (fun h => kt (by simp [h])) (fun h => kf (by simp [h]))) hs kk
  · rename_i off
    obtain rfl : n = 3 := hn.elim (fun h => h) (fun ⟨_, _, _, _, h⟩ => by cases h)
    exact pz_if_ok (fun ht kt kf => lv_if_ge hx hb hdg ht (fun h => kt (by simp [h])) (fun h => kf (by simp [h]))) hs kk
  · rename_i off
    obtain rfl : n = 3 := hn.elim (fun h => h) (fun ⟨_, _, _, _, h⟩ => by cases h)
    exact pz_if_ok (fun ht kt kf => lv_if_gt hx hb hdg ht (fun h => kt (by simp [h])) (fun h => kf (by simp [h]))) hs kk
  · rename_i off
    obtain rfl : n = 3 := hn.elim (fun h => h) (fun ⟨_, _, _, _, h⟩ => by cases h)
    exact pz_if_ok (fun ht kt kf => lv_if_le hx hb hdg ht (fun h => kt (by simp [h])) (fun h => kf (by simp [h]))) hs kk
  · rename_i off
    obtain rfl : n = 3 := hn.elim (fun h => h) (fun ⟨_, _, _, _, h⟩ => by cases h)
    exact pz_ic_ok (fun ht kt kf => lv_icmp_eq hx hb hdg ht (fun h => kt (by simp [h])) (fun h => kf (by simp [h]))) hs kk
  · rename_i off
    obtain rfl : n = 3 := hn.elim (fun h => h) (fun ⟨_, _, _, _, h⟩ => by cases h)
    exact pz_ic_ok (fun ht kt kf => lv_icmp_ne hx hb hdg ht (fun h => kt (by simp [h])) (fun h => kf (by simp [h]))) hs kk
  · rename_i off
    obtain rfl : n = 3 := hn.elim (fun h => h) (fun ⟨_, _, _, _, h⟩ => by cases h)
    exact pz_ic_ok (fun ht kt kf => lv_icmp_lt hx hb hdg ht (fun h => kt (by simp [h])) (fun h => kf (by simp [h]))) hs kk
  · rename_i off
    obtain rfl : n = 3 := hn.elim (fun h => h) (fun ⟨_, _, _, _, h⟩ => by cases h)
    exact pz_ic_ok (fun ht kt kf => lv_icmp_ge hx hb hdg ht (fun h => kt (by simp [h])) (fun h => kf (by simp [h]))) hs kk
  · rename_i off
    obtain rfl : n = 3 := hn.elim (fun h => h) (fun ⟨_, _, _, _, h⟩ => by cases h)
    exact pz_ic_ok (fun ht kt kf => lv_icmp_gt hx hb hdg ht (fun h => kt (by simp [h])) (fun h => kf (by simp [h]))) hs kk
  · rename_i off
    obtain rfl : n = 3 := hn.elim (fun h => h) (fun ⟨_, _, _, _, h⟩ => by cases h)
    exact pz_ic_ok (fun ht kt kf => lv_icmp_le hx hb hdg ht (fun h => kt (by simp [h])) (fun h => kf (by simp [h]))) hs kk
  · rename_i off
    obtain rfl : n = 3 := hn.elim (fun h => h) (fun ⟨_, _, _, _, h⟩ => by cases h)
    split at hs
    · cases hs
    · rename_i ho
      cases hs
      intro ad ls H locs cells slots ha E hl hL hS
      exact lv_goto hx hb hdg (pz_tgt ho) (kk ad ls H locs cells slots ha E hl hL hS)
  · rename_i d lo hi offs
    exact pz_sw_ok hx hb hdg hs kk
  · rename_i k
    obtain rfl : n = 3 := hn.elim (fun h => h) (fun ⟨_, _, _, _, h⟩ => by cases h)
    exact pz_get_ok hx hb hown hts hlk hdg hs kk
  · rename_i k
    obtain rfl : n = 3 := hn.elim (fun h => h) (fun ⟨_, _, _, _, h⟩ => by cases h)
    exact pz_put_ok hx hb hown hts hlk (fun h => ⟨(hfin h).1, ((pz_kd_ok _ hlk.1 _ hlk.2.1).2).trans (hfin h).2.symm⟩) hdg hs kk
  · obtain rfl : n = 1 := hn.elim (fun h => h) (fun ⟨_, _, _, _, h⟩ => by cases h)
    exact pz_ilo_ok (Or.inl rfl) hx hb ⟨fun _ => hdg, fun h => absurd h (by decide)⟩ hs kk
  · obtain rfl : n = 1 := hn.elim (fun h => h) (fun ⟨_, _, _, _, h⟩ => by cases h)
    exact pz_ilo_ok (Or.inr rfl) hx hb ⟨fun h => absurd h (by decide), fun _ => hdg⟩ hs kk
  · obtain rfl : n = 1 := hn.elim (fun h => h) (fun ⟨_, _, _, _, h⟩ => by cases h)
    exact pz_llo_ok hx hb hdg hs kk
  · obtain rfl : n = 1 := hn.elim (fun h => h) (fun ⟨_, _, _, _, h⟩ => by cases h)
    exact pz_alo_ok hx hb hdg hs kk
  · obtain rfl : n = 1 := hn.elim (fun h => h) (fun ⟨_, _, _, _, h⟩ => by cases h)
    exact pz_isto_ok hx hb hdg hs kk
  · obtain rfl : n = 1 := hn.elim (fun h => h) (fun ⟨_, _, _, _, h⟩ => by cases h)
    exact pz_bsto_ok hx hb hdg hs kk
  · obtain rfl : n = 1 := hn.elim (fun h => h) (fun ⟨_, _, _, _, h⟩ => by cases h)
    exact pz_lsto_ok hx hb hdg hs kk
  · obtain rfl : n = 1 := hn.elim (fun h => h) (fun ⟨_, _, _, _, h⟩ => by cases h)
    exact pz_asto_ok hx hb hdg hs kk
  · obtain rfl : n = 1 := hn.elim (fun h => h) (fun ⟨_, _, _, _, h⟩ => by cases h)
    exact pz_len_ok hx hb hdg hs kk
  · obtain rfl : n = 2 := hn.elim (fun h => h) (fun ⟨_, _, _, _, h⟩ => by cases h)
    refine pz_newa_ok hs hcap hn0 rfl (.inl fun _ => 0) (fun ad N => ?_) (fun hK hP hD hS hn hN hc hsl k9 => va_newa (atype := .int) (ty := .int) hx hb (hts _ hAI) rfl hK hP hD hS hA (a0 := (_, .inl fun _ => 0)) (fun cA => rfl) hn rfl (Nat.le_trans (Nat.mul_le_mul_right _ hN) (Nat.le_of_ble_eq_true rfl)) hc hsl hdg k9) kk
    have e9 : pz_mm (pz_al σ 50 1 N 1 N (fun _ _ => none)) σ.1 = fun _ _ => 0 := pz_uf_eq
    exact congrArg (Sum.inl) (congrFun e9 0)
  · obtain rfl : n = 2 := hn.elim (fun h => h) (fun ⟨_, _, _, _, h⟩ => by cases h)
    refine pz_newa_ok hs hcap hn0 rfl (.inr (.inl fun _ => 0)) (fun ad N => ?_) (fun hK hP hD hS hn hN hc hsl k9 => va_newa (atype := .long) (ty := .long) hx hb (hts _ hAL) rfl hK hP hD hS hA (a0 := (_, .inr (.inl fun _ => 0))) (fun cA => rfl) hn rfl (Nat.le_trans (Nat.mul_le_mul_right _ hN) (Nat.le_of_ble_eq_true rfl)) hc hsl hdg k9) kk
    have e9 : pz_ml (pz_al σ 51 1 N 1 N (fun _ _ => none)) σ.1 = fun _ _ => 0 := pz_uf_eq
    exact congrArg (fun z => Sum.inr (Sum.inl z)) (congrFun e9 0)
  · obtain rfl : n = 2 := hn.elim (fun h => h) (fun ⟨_, _, _, _, h⟩ => by cases h)
    refine pz_newa_ok hs hcap hn0 rfl (.inl fun _ => 0) (fun ad N => ?_) (fun hK hP hD hS hn hN hc hsl k9 => va_newa (atype := .boolean) (ty := .boolean) hx hb (hts _ hAB) rfl hK hP hD hS hA (a0 := (_, .inl fun _ => 0)) (fun cA => rfl) hn rfl (Nat.le_trans (Nat.mul_le_mul_right _ hN) (Nat.le_of_ble_eq_true rfl)) hc hsl hdg k9) kk
    have e9 : pz_mm (pz_al σ 52 1 N 1 N (fun _ _ => none)) σ.1 = fun _ _ => 0 := pz_uf_eq
    exact congrArg (Sum.inl) (congrFun e9 0)
  · rename_i k
    obtain rfl : n = 3 := hn.elim (fun h => h) (fun ⟨_, _, _, _, h⟩ => by cases h)
    refine pz_newa_ok hs hcap hn0 rfl (.inr (.inr (.inr (.inr fun _ => none)))) (fun ad N => ?_) (fun hK hP hD hS hn hN hc hsl k9 => va_newq hx hb hown (hts _ hlk) hAO hK hP hD hS hA hn rfl (Nat.le_trans (Nat.mul_le_mul_right _ hN) (Nat.le_of_ble_eq_true rfl)) hc hsl hdg k9) kk
    have e9 : pz_rr (pz_al σ 54 1 N 1 N (fun _ _ => none)) σ.1 = fun _ _ => none := pz_uf_eq
    refine congrArg (fun z => Sum.inr (Sum.inr (Sum.inr (Sum.inr z)))) (funext fun j => ?_)
    rw [e9]
    rfl
  · rename_i k d
    obtain rfl : n = 4 := hn.elim (fun h => h) (fun ⟨_, _, _, _, h⟩ => by cases h)
    obtain ⟨rfl, hl2⟩ := hlk
    exact pz_mnew_ok hx hb hown hts hA hAI hAOA hl2 hdg hs hcap hn0 kk
  · rename_i k
    obtain rfl : n = 3 := hn.elim (fun h => h) (fun ⟨_, _, _, _, h⟩ => by cases h)
    split at hs
    · rename_i h6
      exact pz_new_ok h6 hx hb hown hts hA (hlk h6) hdg hs hcap hn0 kk
    · cases hs
  · cases hs
end PT
