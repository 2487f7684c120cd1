/-! the cases of gas() and tasks() -/
/- yX9_fault -/
def zg_151 : Int × Int := ((-2), 0)
theorem sg_151 {Z : qz_Z} {ν : qz_N} (hZ : zI none Z) (hF : zF Z) : ∃ (Z1 : qz_Z) (ν1 : qz_N) (v E : Int), (v, E) = zg_151 ∧ qf_151 [.inr (.inr (some (4, 0, 0))), .inr (.inr (some (68, 0, 0)))] (zm Z ν) = some (zm Z1 ν1, zoX v E) ∧ (fun Z1 ν1 => zI none Z1 ∧ zK [] Z Z1 ∧ zN ν ν1) Z1 ν1 := by
  obtain ⟨P, hP⟩ := zx (zg_151)
  refine zc_X (Q := fun Z1 ν1 => zI none Z1 ∧ zK [] Z Z1 ∧ zN ν ν1) hP (fw_151  _ _ ?_)
  replace hP : zE P (zg_151) := hP
  unfold zg_151 at hP
  refine wz_l0 sb_151_1 (fb_151_1 (i3 0) (i3 0) _ _ _ _ (zconso rfl (zconso rfl (zconso (zvo (show (0 : Int32) = i3 0 from rfl)) (zconso (zvo (show (0 : Int32) = i3 0 from rfl)) rfl)))) ?_)
  refine wz_i0 (Eq.trans (i3Le (show (120 : Int32) = i3 120 from rfl) (rfl : i3 0 = i3 0) (by omega) (by omega) (by omega) (by omega)) (decide_eq_false (by omega))) ?_
  refine wz_i0 (Eq.trans (i3L (rfl : i3 0 = i3 0) (show (0 : Int32) = i3 0 from rfl) (by omega) (by omega) (by omega) (by omega)) (decide_eq_false (by omega))) ?_
  refine wz_i1 (Eq.trans (i3Le (Eq.trans (zm_rd (Z := Z) (ν := ν) (k := 4) (show ((0 : Nat) : Int) = 0 from rfl) (show ((0 : Nat) : Int) = 0 from rfl) (show ((1 : Nat) : Int) = 1 from rfl)) (congrArg i3 ((hF 4 0 1 (by decide)).trans ((show frz 4 0 1 = 0 from by decide))))) (rfl : i3 0 = i3 0) (by omega) (by omega) (by omega) (by omega)) (decide_eq_true (by omega))) ?_
  refine wz_lk0 (wz_sk0 ?_)
  refine fc_151_2 (i3 0) _ _ _ _ (zconso rfl (zconso rfl (zconso (zvo (rfl : i3 0 = i3 0)) (zconso rfl rfl)))) ?_
  refine wz_i0 (Eq.trans (i3NE (Eq.trans (zm_rd (Z := Z) (ν := ν) (k := 4) (show ((0 : Nat) : Int) = 0 from rfl) (show ((0 : Nat) : Int) = 0 from rfl) (show ((1 : Nat) : Int) = 1 from rfl)) (congrArg i3 ((hF 4 0 1 (by decide)).trans ((show frz 4 0 1 = 0 from by decide))))) (show (0 : Int32) = i3 0 from rfl) (by omega) (by omega) (by omega) (by omega)) (decide_eq_false (by omega))) ?_
  exact zlX hP (show (-2 : Int32) = i3 (-2) from rfl) ⟨hZ, zK_r, zN_r⟩

theorem wrap_e {hs : List (Nat × Nat)} {f fw : qz_Fn} {as ws : List qz_V} {Z : qz_Z} {ν : qz_N} {WS : List Nat} {P0 : Int × Int} {KV : wz_R → qz_M → Int32 → Prop}
    (hn : ν.2.2.1 0 = (60, 1, 7) ∧ 1 ≤ ν.2.2.2.1) (hr : ν.2.1 1 0 0 36 = some (102, 0, 0)) (hc : ν.2.2.2.2.1 ≤ 80000 ∧ ν.2.2.2.2.2 ≤ 1000000) (hF : zFm Z)
    (hf : ∀ R, wz_cI f as (zm Z ν) (KV R) (fun μ1 e => Hn hs μ1 e R) → wz_call fw ws (zm Z ν) R)
    (hsg : ∃ (Z1 : qz_Z) (ν1 : qz_N) (v E : Int), (v, E) = P0 ∧ f as (zm Z ν) = some (zm Z1 ν1, zoX v E) ∧ (fun Z1 ν1 => zI none Z1 ∧ zK WS Z Z1 ∧ zN ν ν1) Z1 ν1)
    (hE : ∀ v E, (v, E) = P0 → E ≠ 0 ∧ ∃ p ∈ hs, E = (p.1 : Int)) (hW : WS.all (fun k => !frm k && !Nat.beq k 200) = true) :
    ∃ (Z2 : qz_Z) (ν2 : qz_N) (v E : Int), (v, E) = P0 ∧ fw ws (zm Z ν) = some (zm Z2 ν2, .inl (some (.inl (i3 (tcL hs E))))) ∧ zW Z ν v E Z2 ν2 := by
  obtain ⟨Z1, ν1, v, E, hP, hq, hI, hK, hN⟩ := hsg
  have hS := zSt_to hn hr ⟨by omega, by omega⟩ hF hI hK hN hW
  obtain ⟨hE0, p, hp, hpe⟩ := hE v E hP
  have hx : zoX v E = .inr E.toNat := if_neg hE0
  rw [hx] at hq
  have key : ∀ (hs : List (Nat × Nat)), (∃ p ∈ hs, E = (p.1 : Int)) → Hn hs (zm Z1 ν1) E.toNat (fun μ o => μ = qz_al (zm Z1 ν1) 99 0 0 0 0 ∧ o = .inl (some (.inl (i3 (tcL hs E))))) := by
    intro hs
    induction hs with
    | nil => rintro ⟨p, hp, _⟩; cases hp
    | cons q t ih =>
      rintro ⟨p, hp, hpe⟩
      unfold Hn
      by_cases h : E = (q.1 : Int)
      · refine wz_i1 (by rw [h, Int.toNat_natCast]; exact Nat.beq_refl _) (fun μ' e => ⟨e, ?_⟩)
        show _ = Sum.inl (some (Sum.inl (i3 (if E = (q.1 : Int) then (q.2 : Int) else tcL t E))))
        rw [if_pos h]
      · refine wz_i0 ?_ ?_
        · cases hb : Nat.beq q.1 E.toNat
          · rfl
          · have := Nat.eq_of_beq_eq_true hb
            omega
        · have e : tcL (q :: t) E = tcL t E := if_neg h
          rw [e]
          refine ih ⟨p, ?_, hpe⟩
          rcases List.mem_cons.mp hp with rfl | hp
          · exact absurd hpe h
          · exact hp
  have h1 := hf _ (wz_cI_E hq (key hs ⟨p, hp, hpe⟩))
  have h2 := wz_call_eq h1
  refine ⟨zzr Z1 ν1.2.2.2.1, (qz_alr (zm Z1 ν1) 99 0 0 0 0 (fun _ => none)).2, v, E, hP, h2.trans (by rw [zm_al (t := 99) (c := 0) (l := 0) (k := 0) (s := 0)]), fun q => absurd q hE0, ?_, fun j => ?_⟩
  · obtain ⟨s1, s2, s3, s4, s5, s6⟩ := hS.1
    refine ⟨zzr_I s1, fun k i j hk => ?_, ⟨?_, Nat.le_succ_of_le s3.2⟩, ?_, s5, s6⟩
    · have hk2 : k ≠ 200 := fun q => by subst q; cases hk
      exact (if_neg (fun q => hk2 q.1)).trans (s2 k i j hk)
    · show (if 0 = ν1.2.2.2.1 then _ else ν1.2.2.1 0) = _
      rw [if_neg (by have := s3.2; omega)]
      exact s3.1
    · exact (if_neg (fun q => absurd q.1 (by decide)) : (if 1 = 200 ∧ 0 = ν1.2.2.2.1 then (none : Option qz_R) else ν1.2.1 1 0 0 36) = ν1.2.1 1 0 0 36).trans s4
  · have s3 := hS.1.2.2.1.2
    exact (if_neg (fun q => by have := q.2; omega)).trans (hS.2 j)
theorem lw_gas {Z : qz_Z} {ν : qz_N} (h : zNew Z ν) {a1 : Int} (g1 : -2147483648 ≤ a1 ∧ a1 ≤ 2147483647) {a2 : Int} (g2 : -2147483648 ≤ a2 ∧ a2 ≤ 2147483647) : ∃ (Z2 : qz_Z) (ν2 : qz_N) (v E : Int), (v, E) = zg_202 a1 a2 ∧ qf_584 [.inr (.inr (some (0, 0, 0))), .inl (i3 a1), .inl (i3 a2), .inr (.inr (some (71, 0, 0)))] (zm Z ν) = some (zm Z2 ν2, .inl (some (.inl (i3 (tcL [(24, 1)] E))))) ∧ zW Z ν v E Z2 ν2 := by
  refine wrap_e (hs := [(24, 1)]) (WS := []) h.2.2.1 h.2.2.2.1 h.2.2.2.2 (zF_m h.2.1) (fun R hR => fv_584 (i3 a1) (i3 a2) _ R hR) (sg_202 h.1 h.2.1 g1 g2) (fun v E he => ?_) (by decide)
  unfold zg_202 at he
  cases he
  exact ⟨by decide, (24, 1), by decide, rfl⟩
theorem lc_9 {Z : qz_Z} {ν : qz_N} (h : zNew Z ν) {k : wz_K} {R : wz_R} (hk : ∀ Z3 ν3 v2 v4, zEnd ν3 → k 55 ([some (.inr (.inr (some (200, 0, 0)))), some (.inr (.inr (some (0, 0, 0)))), some (.inr (.inr (some (1, 0, 0)))), some (.inr (.inr (some (71, 0, 0)))), some (.inl (0 : Int32)), some (.inl v2), some (.inl v4), none], [], zm Z3 ν3)) : gx_9 k R (gx_L 0, [], zm Z ν) := by
  refine fk_9 0 (zm Z ν) k R ?_
  have st := zNew_S h
  refine wz_i1 (zS_t st) (wz_i0 (zS_o st (by decide)) ?_)
  refine wz_i1 (zS_t st) (wz_i0 (zS_o st (by decide)) ?_)
  have g1 := zI_f h.1 200 0 0 1
  refine wz_if (fun _ => ?_) (fun _ => ?_)
  · obtain ⟨Z2, ν2, v, E, hP, hq, hE0, st2, hs2⟩ := lw_gas h g1 (a2 := 0) (by decide)
    refine wz_cI_of hq ?_
    refine wz_i1 (zS_t st2) (wz_i0 (zS_o st2 (by decide)) ?_)
    refine wz_i1 (zS_t st2) (wz_i0 (zS_o st2 (by decide)) ?_)
    have f1 := zI_f st2.1 200 0 0 1
    have hE : E = 24 := by unfold zg_202 at hP; cases hP; rfl
    subst hE
    refine wz_if (fun _ => ?_) (fun _ => ?_)
    · obtain ⟨Z3, ν3, w, t, hP2, hq2, ht, hI3, hK3, hN3⟩ := sg_344 st2.1 st2.2.1 f1 (a2 := 0) (by decide)
      refine wz_cI_of hq2 ?_
      have c1 : t = 1 := by unfold zg_344 at hP2; split at hP2 <;> (cases hP2; rfl)
      have hend : zEnd ν3 := ⟨⟨(hN3.2.2.1 0 (by have := st2.2.2.1.2; omega)).trans st2.2.2.1.1, by have := st2.2.2.1.2; have := hN3.2.2.2.1; omega⟩, by have := st2.2.2.2.2.1; have := hN3.2.2.2.2.1; omega, by have := st2.2.2.2.2.2; have := hN3.2.2.2.2.2; omega⟩
      refine wz_i1 (decide_eq_true (show i3 (Z3 1 0 0 2) = i3 (tcL [(24, 1)] 24) by rw [ht, c1]; rfl)) ?_
      exact wz_i1 (by decide) (hk _ _ _ _ hend)
    · obtain ⟨Z3, ν3, w, t, hP2, hq2, ht, hI3, hK3, hN3⟩ := sg_344 st2.1 st2.2.1 f1 (a2 := 1) (by decide)
      refine wz_cI_of hq2 ?_
      have c1 : t = 1 := by unfold zg_344 at hP2; split at hP2 <;> (cases hP2; rfl)
      have hend : zEnd ν3 := ⟨⟨(hN3.2.2.1 0 (by have := st2.2.2.1.2; omega)).trans st2.2.2.1.1, by have := st2.2.2.1.2; have := hN3.2.2.2.1; omega⟩, by have := st2.2.2.2.2.1; have := hN3.2.2.2.2.1; omega, by have := st2.2.2.2.2.2; have := hN3.2.2.2.2.2; omega⟩
      refine wz_i1 (decide_eq_true (show i3 (Z3 1 0 0 2) = i3 (tcL [(24, 1)] 24) by rw [ht, c1]; rfl)) ?_
      exact wz_i1 (by decide) (hk _ _ _ _ hend)
  · obtain ⟨Z2, ν2, v, E, hP, hq, hE0, st2, hs2⟩ := lw_gas h g1 (a2 := 1) (by decide)
    refine wz_cI_of hq ?_
    refine wz_i1 (zS_t st2) (wz_i0 (zS_o st2 (by decide)) ?_)
    refine wz_i1 (zS_t st2) (wz_i0 (zS_o st2 (by decide)) ?_)
    have f1 := zI_f st2.1 200 0 0 1
    have hE : E = 24 := by unfold zg_202 at hP; cases hP; rfl
    subst hE
    refine wz_if (fun _ => ?_) (fun _ => ?_)
    · obtain ⟨Z3, ν3, w, t, hP2, hq2, ht, hI3, hK3, hN3⟩ := sg_344 st2.1 st2.2.1 f1 (a2 := 0) (by decide)
      refine wz_cI_of hq2 ?_
      have c1 : t = 1 := by unfold zg_344 at hP2; split at hP2 <;> (cases hP2; rfl)
      have hend : zEnd ν3 := ⟨⟨(hN3.2.2.1 0 (by have := st2.2.2.1.2; omega)).trans st2.2.2.1.1, by have := st2.2.2.1.2; have := hN3.2.2.2.1; omega⟩, by have := st2.2.2.2.2.1; have := hN3.2.2.2.2.1; omega, by have := st2.2.2.2.2.2; have := hN3.2.2.2.2.2; omega⟩
      refine wz_i1 (decide_eq_true (show i3 (Z3 1 0 0 2) = i3 (tcL [(24, 1)] 24) by rw [ht, c1]; rfl)) ?_
      exact wz_i1 (by decide) (hk _ _ _ _ hend)
    · obtain ⟨Z3, ν3, w, t, hP2, hq2, ht, hI3, hK3, hN3⟩ := sg_344 st2.1 st2.2.1 f1 (a2 := 1) (by decide)
      refine wz_cI_of hq2 ?_
      have c1 : t = 1 := by unfold zg_344 at hP2; split at hP2 <;> (cases hP2; rfl)
      have hend : zEnd ν3 := ⟨⟨(hN3.2.2.1 0 (by have := st2.2.2.1.2; omega)).trans st2.2.2.1.1, by have := st2.2.2.1.2; have := hN3.2.2.2.1; omega⟩, by have := st2.2.2.2.2.1; have := hN3.2.2.2.2.1; omega, by have := st2.2.2.2.2.2; have := hN3.2.2.2.2.2; omega⟩
      refine wz_i1 (decide_eq_true (show i3 (Z3 1 0 0 2) = i3 (tcL [(24, 1)] 24) by rw [ht, c1]; rfl)) ?_
      exact wz_i1 (by decide) (hk _ _ _ _ hend)
theorem lc_56 {Z : qz_Z} {ν : qz_N} (h : zNew Z ν) {k : wz_K} {R : wz_R} (hk : ∀ Z3 ν3, zEnd ν3 → k 8 ([some (.inr (.inr (some (200, 0, 0)))), some (.inr (.inr (some (0, 0, 0)))), some (.inr (.inr (some (1, 0, 0)))), some (.inr (.inr (some (71, 0, 0)))), some (.inl (0 : Int32)), none, none, none], [], zm Z3 ν3)) : gx_56 k R (gx_L 0, [], zm Z ν) := by
  refine fk_56 0 (zm Z ν) k R ?_
  obtain ⟨Z1, ν1, v, E, hP, hq, hI, hK, hN⟩ := sg_151 h.1 h.2.1
  unfold zg_151 at hP
  cases hP
  refine wz_cI_of (v := i3 (-2)) hq ?_
  refine wz_i1 (by decide) ?_
  obtain ⟨Z2, hZ2⟩ := zx (zu Z1 4 0 0 1 0)
  have hI2 := zI_0 hI hZ2 (by decide) (Or.inl (by decide))
  intro μ9 e9
  replace e9 := e9.trans (zm_wI (Z := Z1) (ν := ν1) hZ2 (show ((0 : Nat) : Int) = 0 from rfl) (show ((0 : Nat) : Int) = 0 from rfl) (show ((1 : Nat) : Int) = 1 from rfl) (show (0 : Int32) = i3 0 from rfl))
  subst e9
  have hF2 : zFm Z2 := fun k i j hk => (zu_ne hZ2 (fun q => by rw [q.1] at hk; cases hk)).trans ((hK k rfl 0 i j).trans (zF_m h.2.1 k i j hk))
  obtain ⟨Z3, ν3, w, t, hP2, hq2, ht, hI3, hK3, hN3⟩ := sg_535 (ν := ν1) hI2 hF2
  unfold zg_535 at hP2
  cases hP2
  refine wz_cI_of hq2 ?_
  refine wz_i1 (by decide) (hk _ _ ?_)
  have s := h.2.2
  refine ⟨⟨(hN3.2.2.1 0 (by have := hN.2.2.2.1; have := s.1.2; omega)).trans ((hN.2.2.1 0 (by have := s.1.2; omega)).trans s.1.1), ?_⟩, ?_, ?_⟩
  · have := s.1.2; have := hN.2.2.2.1; have := hN3.2.2.2.1; omega
  · have := s.2.2.1; have := hN.2.2.2.2.1; have := hN3.2.2.2.2.1; omega
  · have := s.2.2.2; have := hN.2.2.2.2.2; have := hN3.2.2.2.2.2; omega
