/-! A SEASON -/
abbrev seO (a1 a2 : Int) : Prop := (0 ≤ a1 ∧ a1 ≤ 65535) ∧ (1 ≤ a2 ∧ a2 ≤ 12)
def zg_238 (a1 a2 : Int) : Int × Int := if seO a1 a2 then (a2, 0) else (0, 13)
def zg_497 (a1 a2 : Int) : Int × Int := if seO a1 a2 then (a2, 0) else (0, 1)
theorem zi_s {Z Z1 Z2 : qz_Z} {n : Nat} {x y : Int} (h : zI none Z) (h1 : Z1 = zu Z 200 n 0 2 x) (h2 : Z2 = zu Z1 200 n 0 1 y) (hx : 0 ≤ x ∧ x ≤ 65535) (hy : 1 ≤ y ∧ y ≤ 12) : zI (some (some (n : Int))) Z2 := by
  have g1 := zI_200 h h1 (by omega)
  have g2 := zI_200 g1 h2 (by omega)
  refine ⟨g2.1, g2.2.1, fun m hm => ?_, fun hm => by cases hm⟩
  cases hm
  rw [zu_at h2, zu_ne h2 (by omega), zu_at h1]
  exact ⟨hx, hy⟩
theorem sg_238 {Z : qz_Z} {ν : qz_N} (h : zNew Z ν) {a1 : Int} (g1 : -2147483648 ≤ a1 ∧ a1 ≤ 2147483647) {a2 : Int} (g2 : -2147483648 ≤ a2 ∧ a2 ≤ 2147483647) : ∃ (Z1 : qz_Z) (ν1 : qz_N) (v E : Int), (v, E) = zg_238 a1 a2 ∧ qf_238 [.inr (.inr (some (0, 0, 0))), .inl (i3 a1), .inl (i3 a2)] (zm Z ν) = some (zm Z1 ν1, zoX v E) ∧ zSt Z1 ν1 ∧ (Z1 200 0 0 1 = Z 200 0 0 1 ∧ Z1 200 0 0 2 = Z 200 0 0 2) := by
  unfold zg_238
  have st := zNew_S h
  by_cases hO : seO a1 a2
  · rw [if_pos hO]
    obtain ⟨o1, o2⟩ := hO
    have main : wz_call qf_238 [.inr (.inr (some (0, 0, 0))), .inl (i3 a1), .inl (i3 a2)] (zm Z ν) (fun μ2 o2 => ∃ Z1 ν1, μ2 = zm Z1 ν1 ∧ o2 = .inl (some (.inl (i3 a2))) ∧ zSt Z1 ν1 ∧ (Z1 200 0 0 1 = Z 200 0 0 1 ∧ Z1 200 0 0 2 = Z 200 0 0 2)) := by
      refine fw_238 _ _ _ _ ?_
      refine wz_inR_y (rfl : i3 a1 = i3 a1) (show (0 : Int32) = i3 0 from rfl) (show (65535 : Int32) = i3 65535 from rfl) (by omega) (by omega) (by omega) (by omega) (by omega) (by omega) o1 ?_
      refine wz_inR_y (rfl : i3 a2 = i3 a2) (show (1 : Int32) = i3 1 from rfl) (show (12 : Int32) = i3 12 from rfl) (by omega) (by omega) (by omega) (by omega) (by omega) (by omega) o2 ?_
      refine wz_i0 (Eq.trans (i3NE (Eq.trans (zm_rd (Z := Z) (ν := ν) (k := 11) (show ((0 : Nat) : Int) = 0 from rfl) (show ((0 : Nat) : Int) = 0 from rfl) (show ((15 : Nat) : Int) = 15 from rfl)) (congrArg i3 ((h.2.1 11 0 15 (by decide)).trans ((show frz 11 0 15 = 0 from by decide))))) (show (0 : Int32) = i3 0 from rfl) (by omega) (by omega) (by omega) (by omega)) (decide_eq_false (by omega))) ?_
      refine wz_inT_y (show (1 : Int32) = i3 1 from rfl) (by omega) (by omega) (by omega) ?_
      refine dc_J (zcons rfl (zcons (zvi (show (26 : Int32) = i3 26 from rfl)) (zcons (zvi (rfl : i3 a1 = i3 a1)) (zcons (zvi (rfl : i3 a2 = i3 a2)) (zcons (zvi (show (0 : Int32) = i3 0 from rfl)) (zcons (zvi (show (0 : Int32) = i3 0 from rfl)) (zcons (zvi (show (0 : Int32) = i3 0 from rfl)) (zcons (zvi (show (0 : Int32) = i3 0 from rfl)) rfl)))))))) (dc_I (ws := [3, 11, 12, 13, 14, 40, 41, 42, 43, 44, 45, 46, 47, 48, 49, 50, 51, 52, 53, 54, 61, 68]) (Z0 := Z) h.2.1 h.1 zK_r (by decide) (by omega) (by omega) (by omega) (by omega) (by omega) (by omega) (by omega) (fun Zp hI hF hA hK => ?_))
      refine fw_121 _ _ _ _ ?_
      have r0 : ∀ ν9, qz_im (zm Zp ν9) 68 0 0 0 = i3 26 := fun ν9 => Eq.trans (zm_rd (k := 68) rfl rfl rfl) (congrArg i3 hA.1)
      refine wz_i1 rfl ?_
      refine wz_i0 (i3O (n := 7) (show (0 : Int32) = i3 0 from rfl) (by omega) (by omega) (by omega)) ?_
      refine wz_i0 (Eq.trans (i3To (r0 ν) (by omega) (by omega)) (decide_eq_false (by omega))) ?_
      repeat refine wz_i0 (Eq.trans (i3T (r0 ν) (by omega) (by omega)) (decide_eq_false (by omega))) ?_
      refine wz_i1 (Eq.trans (i3T (r0 ν) (by omega) (by omega)) (decide_eq_true (by omega))) ?_
      intro μ1 e1
      rw [zal] at e1
      subst e1
      obtain ⟨n, hn⟩ := zx ν.2.2.2.1
      have hn1 : 1 ≤ n := by have := h.2.2.1.2; omega
      have en : qz_na (zm Zp ν) = n := hn.symm
      rw [en]
      obtain ⟨Z3, hZ3⟩ := zx (zzr Zp n)
      obtain ⟨ν3, hν3⟩ := zx (nal ν 2 1 0 1 3)
      rw [show zm (zzr Zp ν.2.2.2.1) (nal ν 2 1 0 1 3) = zm Z3 ν3 by rw [hZ3, hν3, hn]]
      have d3 : ν3.2.2.1 n = (2, 1, 0) := by subst hν3 hn; exact nal_at
      have t3 : ∀ Z9, qz_tag (zm Z9 ν3) (200, n, 0) = 2 := fun Z9 => zt_tag d3 (by decide)
      have p1 : qz_im (zm Z3 ν3) 68 0 0 1 = i3 a1 := Eq.trans (zm_rd (k := 68) rfl rfl rfl) (congrArg i3 (by rw [hZ3]; exact (zzr_ne (fun q => absurd q.1 (by decide))).trans hA.2.1))
      have p2 : qz_im (zm Z3 ν3) 68 0 0 2 = i3 a2 := Eq.trans (zm_rd (k := 68) rfl rfl rfl) (congrArg i3 (by rw [hZ3]; exact (zzr_ne (fun q => absurd q.1 (by decide))).trans hA.2.2.1))
      refine wz_i1 rfl (wz_i0 (i3O (n := 7) (show (1 : Int32) = i3 1 from rfl) (by omega) (by omega) (by omega)) ?_)
      refine wz_i1 rfl (wz_i0 (i3O (n := 7) (show (2 : Int32) = i3 2 from rfl) (by omega) (by omega) (by omega)) ?_)
      refine wz_i1 (by rw [t3]; rfl) ?_
      obtain ⟨Z4, hZ4⟩ := zx (zu Z3 200 n 0 2 a1)
      obtain ⟨Z5, hZ5⟩ := zx (zu Z4 200 n 0 1 a2)
      obtain ⟨ν5, hν5⟩ := zx (nwr ν3 200 n 0 0 (some (10, 0, 0)))
      have d5 : ν5.2.2.1 n = (2, 1, 0) := by subst hν5; exact d3
      have t5 : ∀ Z9, qz_tag (zm Z9 ν5) (200, n, 0) = 2 := fun Z9 => zt_tag d5 (by decide)
      have q143 : qf_143 [.inr (.inr (some (200, n, 0))), .inr (.inr (some (10, 0, 0))), .inl (i3 a1), .inl (i3 a2)] (zm Z3 ν3) = some (zm Z5 ν5, .inl none) := by
        refine wz_call_eq (fw_143 n 0 (i3 a1) (i3 a2) (zm Z3 ν3) _ ?_)
        refine wz_i1 (by rw [t3]; rfl) ?_
        intro μ6 e6
        rw [zm_wR, ← hν5] at e6
        subst e6
        refine wz_i1 (by rw [t5]; rfl) ?_
        intro μ7 e7
        replace e7 := e7.trans (zm_wI (ν := ν5) hZ4 rfl rfl rfl rfl)
        subst e7
        refine wz_i1 (by rw [t5]; rfl) ?_
        intro μ8 e8
        replace e8 := e8.trans (zm_wI (ν := ν5) hZ5 rfl rfl rfl rfl)
        subst e8
        exact ⟨rfl, rfl⟩
      refine wz_cV_of (zas (zcons rfl (zcons rfl (zcons (zvi p1) (zcons (zvi p2) rfl)))) q143) ?_
      refine wz_i1 (by rw [t5]; rfl) ?_
      have I5 : zI (some (some (n : Int))) Z5 := zi_s (by rw [hZ3]; exact zzr_I hI) hZ4 hZ5 o1 o2
      have K5 : ∀ k (b i j : Int), ¬ (k = 200 ∧ b = n) → Z5 k b i j = Zp k b i j := fun k b i j hk => (zu_ne hZ5 (fun q => hk ⟨q.1, q.2.1⟩)).trans ((zu_ne hZ4 (fun q => hk ⟨q.1, q.2.1⟩)).trans (by rw [hZ3]; exact zzr_ne hk))
      have c11 : ∀ j, frp 11 j = true → frz 11 0 j = 0 → Z5 11 0 0 j = 0 := fun j hj h0 => (K5 11 0 0 j (by omega)).trans ((hF 11 0 j hj).trans h0)
      obtain ⟨Z6, P, -, hq, hI6, hK6, -, -, hP, hs1, hs2⟩ := sp_144 (ν := ν5) I5 0 t5 (fun _ => by
          show ν5.2.1 200 n 0 0 = _
          rw [hν5]; exact nwr_at) (c11 0 (by decide) (by decide)) (c11 1 (by decide) (by decide)) (c11 2 (by decide) (by decide)) (c11 3 (by decide) (by decide)) (c11 4 (by decide) (by decide)) (c11 5 (by decide) (by decide)) (c11 7 (by decide) (by decide)) (c11 8 (by decide) (by decide)) (c11 9 (by decide) (by decide)) (by omega)
      have ePa : P = a2 := hP.trans (zu_at hZ5)
      subst ePa
      refine wz_cI_of hq ?_
      have nn : ∀ m, m < n → ν5.2.2.1 m = ν.2.2.1 m := fun m hm => by
        subst hν5 hν3
        exact nal_ne (by omega)
      refine ⟨Z6, ν5, rfl, rfl, ⟨⟨hI6.1, hI6.2.1, fun m hm => (by cases hm), fun hm => (by cases hm)⟩, fun k i j hk => ?_, ⟨(nn 0 (by omega)).trans h.2.2.1.1, ?_⟩, ?_, ?_, ?_⟩, ?_, ?_⟩
      · have hk2 : ∀ ws : List Nat, ws.all (fun k => !frm k) = true → ws.contains k = false := fun ws hws => by
          cases hc : ws.contains k
          · rfl
          · have h2 := List.all_eq_true.mp hws k (List.contains_iff_mem.mp hc)
            rw [hk] at h2
            cases h2
        refine (hK6 k (hk2 _ (by decide)) 0 i j).trans ((K5 k 0 i j (by omega)).trans ((hK k (hk2 _ (by decide)) 0 i j).trans (zF_m h.2.1 k i j hk)))
      · subst hν5 hν3
        exact Nat.le_succ_of_le h.2.2.1.2
      · subst hν5 hν3
        exact (nwr_ne (by omega)).trans ((nal_r (by decide)).trans h.2.2.2.1)
      · subst hν5 hν3
        have := h.2.2.2.2.1
        show ν.2.2.2.2.1 + 1 ≤ _
        omega
      · subst hν5 hν3
        have := h.2.2.2.2.2
        show ν.2.2.2.2.2 + 3 ≤ _
        omega
      · exact hs1.trans ((K5 200 0 0 1 (by omega)).trans (hK 200 (by decide) 0 0 1))
      · exact hs2.trans ((K5 200 0 0 2 (by omega)).trans (hK 200 (by decide) 0 0 2))
    obtain ⟨μ', o, e, Z1, ν1, rfl, rfl, hh⟩ := main
    exact ⟨Z1, ν1, _, _, rfl, e, hh⟩
  · rw [if_neg hO]
    have hS := zSt_to (WS := []) (ν1 := nkk ν 1 6) h.2.2.1 h.2.2.2.1 ⟨by have := h.2.2.2.2.1; omega, by have := h.2.2.2.2.2; omega⟩ (zF_m h.2.1) h.1 zK_r (zN_k rfl) (by decide)
    refine ⟨Z, nkk ν 1 6, _, _, rfl, wz_call_eq (fw_238 _ _ _ _ ?_), hS.1, rfl, rfl⟩
    refine wz_inR (rfl : i3 a1 = i3 a1) (show (0 : Int32) = i3 0 from rfl) (show (65535 : Int32) = i3 65535 from rfl) (by omega) (by omega) (by omega) (by omega) (by omega) (by omega) (fun o1 => ?_) (fun _ => ⟨rfl, rfl⟩)
    exact wz_inR_n (rfl : i3 a2 = i3 a2) (show (1 : Int32) = i3 1 from rfl) (show (12 : Int32) = i3 12 from rfl) (by omega) (by omega) (by omega) (by omega) (by omega) (by omega) (fun o2 => hO ⟨o1, o2⟩) ⟨rfl, rfl⟩
theorem sg_497 {Z : qz_Z} {ν : qz_N} (hS : zSt Z ν) {a1 : Int} (g1 : -2147483648 ≤ a1 ∧ a1 ≤ 2147483647) {a2 : Int} (g2 : -2147483648 ≤ a2 ∧ a2 ≤ 2147483647) : ∃ (Z1 : qz_Z) (v t : Int), (v, t) = zg_497 a1 a2 ∧ qf_497 [.inr (.inr (some (1, 0, 0))), .inl (i3 a1), .inl (i3 a2)] (zm Z ν) = some (zm Z1 ν, .inl (some (.inl (i3 v)))) ∧ Z1 1 0 0 2 = t := by
  unfold zg_497
  have c0 : (0 : Int32) = i3 0 := rfl
  have c1 : (1 : Int32) = i3 1 := rfl
  have c12 : (12 : Int32) = i3 12 := rfl
  have c65 : (65535 : Int32) = i3 65535 := rfl
  by_cases hO : seO a1 a2
  · rw [if_pos hO]
    obtain ⟨o1, o2⟩ := hO
    have main : wz_call qf_497 [.inr (.inr (some (1, 0, 0))), .inl (i3 a1), .inl (i3 a2)] (zm Z ν) (fun μ2 o2 => ∃ Z1, μ2 = zm Z1 ν ∧ o2 = .inl (some (.inl (i3 a2))) ∧ Z1 1 0 0 2 = 0) := by
      refine fw_497 _ _ _ _ ?_
      refine wz_i0 (Eq.trans (i3L (rfl : i3 a1 = i3 a1) c0 (by omega) (by omega) (by omega) (by omega)) (decide_eq_false (by omega))) ?_
      refine wz_i0 (Eq.trans (i3L c65 (rfl : i3 a1 = i3 a1) (by omega) (by omega) (by omega) (by omega)) (decide_eq_false (by omega))) ?_
      refine wz_i0 (Eq.trans (i3L (rfl : i3 a2 = i3 a2) c1 (by omega) (by omega) (by omega) (by omega)) (decide_eq_false (by omega))) ?_
      refine wz_i0 (Eq.trans (i3L c12 (rfl : i3 a2 = i3 a2) (by omega) (by omega) (by omega) (by omega)) (decide_eq_false (by omega))) ?_
      obtain ⟨Z2, hZ2⟩ := zx (zu Z 1 0 0 2 0)
      intro μ1 e1
      replace e1 := e1.trans (zm_wI (ν := ν) hZ2 rfl rfl rfl c0)
      subst e1
      have I2 := zI_0 hS.1 hZ2 (by decide) (.inr (by decide))
      have f1 : ∀ j, j ≠ 2 → Z2 1 0 0 j = frz 1 0 j := fun j hj => (zu_ne hZ2 (fun q => hj q.2.2.2)).trans (hS.2.1 1 0 j (by decide))
      refine wz_i0 (Eq.trans (i3NE (Eq.trans (zm_rd (Z := Z2) (ν := ν) (k := 1) rfl rfl rfl) (congrArg i3 ((f1 37 (by decide)).trans (show frz 1 0 37 = 0 from by decide)))) c0 (by omega) (by omega) (by omega) (by omega)) (decide_eq_false (by omega))) ?_
      obtain ⟨Z3, hZ3⟩ := zx (zu Z2 1 0 0 2 0)
      intro μ2 e2
      replace e2 := e2.trans (zm_wI (ν := ν) hZ3 rfl rfl rfl c0)
      subst e2
      have I3 := zI_0 I2 hZ3 (by decide) (.inr (by decide))
      have f3 : ∀ j, j ≠ 2 → Z3 1 0 0 j = frz 1 0 j := fun j hj => (zu_ne hZ3 (fun q => hj q.2.2.2)).trans (f1 j hj)
      have f32 : ∀ j, Z3 2 0 0 j = frz 2 0 j := fun j => (zu_ne hZ3 (fun q => absurd q.1 (by decide))).trans ((zu_ne hZ2 (fun q => absurd q.1 (by decide))).trans (hS.2.1 2 0 j (by decide)))
      refine wz_i0 (Eq.trans (i3NE (Eq.trans (zm_rd (Z := Z3) (ν := ν) (k := 1) rfl rfl rfl) (congrArg i3 ((f3 35 (by decide)).trans (show frz 1 0 35 = 0 from by decide)))) c0 (by omega) (by omega) (by omega) (by omega)) (decide_eq_false (by omega))) ?_
      obtain ⟨Z4, -, q4, I4, K4, w40, w41, w42⟩ := sp_557 (ν := ν) I3 (a1 := -1) (by omega) (by rw [f3 34 (by decide)]; decide)
      refine wz_cV_of q4 ?_
      obtain ⟨Z5, -, q5, I5, K5, w50, w51⟩ := sp_563 (ν := ν) I4 (a1 := 28) (by omega) (a2 := a1) (by omega) (a3 := a2) (by omega) (a4 := 0) (by omega) (a5 := 0) (by omega) (a6 := 0) (by omega) (a7 := 0) (by omega) (by rw [w42, f3 37 (by decide)]; decide) (fun _ => hS.2.2.2.1)
      refine wz_cV_of q5 ?_
      have f52 : ∀ j, Z5 2 0 0 j = frz 2 0 j := fun j => (K5 2 (by decide) 0 0 j).trans ((K4 2 (by decide) 0 0 j).trans (f32 j))
      obtain ⟨Z6, -, q6, I6, K6, w60, w61⟩ := sp_566 (ν := ν) I5 (a1 := a1) o1 (a2 := a2) o2 ((f52 100).trans (by decide)) ((f52 101).trans (by decide)) ((f52 102).trans (by decide)) ((f52 1200).trans (by decide)) ((f52 1400).trans (by decide)) ((f52 3000).trans (by decide)) ((f52 3500).trans (by decide))
      refine wz_cV_of q6 ?_
      exact ⟨Z6, rfl, zo _ _ (Eq.trans (zm_rd (Z := Z6) (ν := ν) (k := 2) rfl rfl rfl) (congrArg i3 w60)), w61⟩
    obtain ⟨μ', o, e, Z1, rfl, rfl, hh⟩ := main
    exact ⟨Z1, _, _, rfl, e, hh⟩
  · rw [if_neg hO]
    obtain ⟨Z2, hZ2⟩ := zx (zu Z 1 0 0 2 1)
    refine ⟨Z2, _, _, rfl, wz_call_eq (fw_497 _ _ _ _ ?_), zu_at hZ2⟩
    have hn : wz_wr (qz_wI (zm Z ν) (1, 0, 0) 2 (1 : Int32)) (fun μ9 => μ9 = zm Z2 ν ∧ (.inl (some (.inl (0 : Int32))) : qz_Oc) = .inl (some (.inl (i3 0)))) := by
      intro μ9 e9
      exact ⟨e9.trans (zm_wI (Z := Z) (ν := ν) hZ2 rfl rfl rfl c1), rfl⟩
    refine wz_br (i3L (rfl : i3 a1 = i3 a1) c0 (by omega) (by omega) (by omega) (by omega)) (fun _ => hn) (fun h1 => ?_)
    refine wz_br (i3L c65 (rfl : i3 a1 = i3 a1) (by omega) (by omega) (by omega) (by omega)) (fun _ => hn) (fun h2 => ?_)
    refine wz_br (i3L (rfl : i3 a2 = i3 a2) c1 (by omega) (by omega) (by omega) (by omega)) (fun _ => hn) (fun h3 => ?_)
    refine wz_i1 (Eq.trans (i3L c12 (rfl : i3 a2 = i3 a2) (by omega) (by omega) (by omega) (by omega)) (decide_eq_true ?_)) hn
    exact Int.not_le.mp (fun q => hO ⟨⟨by omega, by omega⟩, ⟨by omega, by omega⟩⟩)
theorem lc_57 {Z : qz_Z} {ν : qz_N} (h : zNew Z ν) {k : wz_K} {R : wz_R} (hk : ∀ Z3 ν3 v2 v4, zEnd ν3 → k 7 ([some (.inr (.inr (some (200, 0, 0)))), some (.inr (.inr (some (0, 0, 0)))), some (.inr (.inr (some (1, 0, 0)))), some (.inr (.inr (some (71, 0, 0)))), some (.inl (0 : Int32)), some (.inl v2), some (.inl v4), none], [], zm Z3 ν3)) : gx_57 k R (gx_L 0, [], zm Z ν) := by
  refine fk_57 0 (zm Z ν) k R ?_
  have st := zNew_S h
  refine wz_i1 (zS_t st) (wz_i0 (zS_o st (by decide)) ?_)
  refine wz_i1 (zS_t st) (wz_i0 (zS_o st (by decide)) ?_)
  have g1 := zI_f h.1 200 0 0 1
  have g2 := zI_f h.1 200 0 0 2
  have lw : ∃ (Z2 : qz_Z) (ν2 : qz_N) (v E : Int), (v, E) = zg_238 (Z 200 0 0 1) (Z 200 0 0 2) ∧ qf_616 [.inr (.inr (some (0, 0, 0))), .inl (i3 (Z 200 0 0 1)), .inl (i3 (Z 200 0 0 2)), .inr (.inr (some (71, 0, 0)))] (zm Z ν) = some (zm Z2 ν2, .inl (some (.inl (i3 (tcL [(13, 1), (15, 2)] E))))) ∧ (E = 0 → ν2.1 71 0 0 0 = (i3 v).toInt64) ∧ zSt Z2 ν2 ∧ (Z2 200 0 0 1 = Z 200 0 0 1 ∧ Z2 200 0 0 2 = Z 200 0 0 2) := by
    refine wrap_3 (hs := [(13, 1), (15, 2)]) (fun Z1 _ => Z1 200 0 0 1 = Z 200 0 0 1 ∧ Z1 200 0 0 2 = Z 200 0 0 2) (fun _ _ _ _ h => h) (fun _ _ s h => ⟨(zs_X2 s 1).trans h.1, (zs_X2 s 2).trans h.2⟩) (fun R hR => fv_616 _ _ _ R hR) (sg_238 h g1 g2) (fun v E he => ?_) (by decide)
    unfold zg_238 at he
    split at he <;> cases he
    · exact .inl rfl
    · exact .inr ⟨(13, 1), by decide, rfl⟩
  obtain ⟨Z2, ν2, v, E, hP, hq, hE0, st2, hs1, hs2⟩ := lw
  refine wz_cI_of hq ?_
  refine wz_i1 (zS_t st2) (wz_i0 (zS_o st2 (by decide)) ?_)
  refine wz_i1 (zS_t st2) (wz_i0 (zS_o st2 (by decide)) ?_)
  obtain ⟨Z3, w, t, hP2, hq2, ht⟩ := sg_497 st2 (zI_f st2.1 200 0 0 1) (zI_f st2.1 200 0 0 2)
  refine wz_cI_of hq2 ?_
  rw [hs1, hs2] at hP2
  unfold zg_238 at hP
  unfold zg_497 at hP2
  have hend : zEnd ν2 := zD_end st2 zD_r (by decide) (by decide)
  by_cases hO : seO (Z 200 0 0 1) (Z 200 0 0 2)
  · rw [if_pos hO] at hP hP2
    cases hP
    cases hP2
    refine wz_i1 (decide_eq_true (show i3 (Z3 1 0 0 2) = i3 (tcL [(13, 1), (15, 2)] 0) by rw [ht]; rfl)) ?_
    refine wz_i0 (by decide) (wz_i1 (decide_eq_true ?_) (hk _ _ _ _ hend))
    have e1 : qz_lm (zm Z3 ν2) 71 0 0 0 = (i3 (Z 200 0 0 2)).toInt64 := hE0 rfl
    rw [e1]
    exact lg_self _
  · rw [if_neg hO] at hP hP2
    cases hP
    cases hP2
    refine wz_i1 (decide_eq_true (show i3 (Z3 1 0 0 2) = i3 (tcL [(13, 1), (15, 2)] 13) by rw [ht]; rfl)) ?_
    exact wz_i1 (by decide) (hk _ _ _ _ hend)
