/-! TASKS of the reference: one by one (550). -/
/-- a task is read at the place, and done -/
def yO (f : Int → Int) (e : Int) (Z : qz_Z) : qz_Z := yDo (zT Z (yT f e (Z 1 0 0 50) (fun j => Z 113 0 0 j)).1 (yT f e (Z 1 0 0 50) (fun j => Z 113 0 0 j)).2.1) (f (Z 1 0 0 50))
def yD (f : Int → Int) (e : Int) : Nat → qz_Z → Int → Int → qz_Z × Int
  | 0, Z, d, _ => (Z, d)
  | m + 1, Z, d, g => if g = 0 then (Z, d) else if e ≤ Z 1 0 0 50 then (Z, d) else if (yT f e (Z 1 0 0 50) (fun j => Z 113 0 0 j)).2.2 = 0 then yD f e m (yO f e Z) (d + 0) 0 else if yO f e Z 1 0 0 2 ≠ 0 then yD f e m (yO f e Z) (d + 0) 0 else yD f e m (yO f e Z) (d + 1) 1
theorem yD_s {f : Int → Int} {e : Int} {m : Nat} {Z : qz_Z} {d g : Int} : yD f e (m + 1) Z d g = if g = 0 then (Z, d) else if e ≤ Z 1 0 0 50 then (Z, d) else if (yT f e (Z 1 0 0 50) (fun j => Z 113 0 0 j)).2.2 = 0 then yD f e m (yO f e Z) (d + 0) 0 else if yO f e Z 1 0 0 2 ≠ 0 then yD f e m (yO f e Z) (d + 0) 0 else yD f e m (yO f e Z) (d + 1) 1 := rfl
set_option maxRecDepth 20000 in
theorem sp_550 {s : zSM} {Z : qz_Z} {ν : qz_N} {r : qz_R} {len : Nat} {a e : Int} (hZ : zM s Z) (hq : zRq ν r len) (r2 : r.1 ≠ 2) (hl : len ≤ 900000) (gq : Z 1 0 0 35 = 1) (ha : 0 ≤ a ∧ a ≤ e) (he : e ≤ len ∧ e ≤ a + 120) (hM : s.2 + 15006 ≤ 1000000000) : qf_550 [.inr (.inr (some (1, 0, 0))), .inr (.inr (some r)), .inl (i3 a), .inl (i3 e)] (zm Z ν) = some (zm (zu (yD (fun a => Z r.1 r.2.1 r.2.2 a) e 122 (zu Z 1 0 0 50 a) 0 1).1 1 0 0 2 0) ν, .inl (some (.inl (i3 (yD (fun a => Z r.1 r.2.1 r.2.2 a) e 122 (zu Z 1 0 0 50 a) 0 1).2)))) := by
  refine wz_call_eq (fw_550 r (i3 a) (i3 e) _ _ ?_)
  refine wz_wIo (j' := 50) (e := a) rfl rfl ?_
  obtain ⟨F, hFe⟩ : ∃ F, F = yD (fun a => Z r.1 r.2.1 r.2.2 a) e 122 (zu Z 1 0 0 50 a) 0 1 := ⟨_, rfl⟩
  rw [← hFe]
  have m0 : zM s (zu Z 1 0 0 50 a) := zM_u hZ rfl (by decide) (lo := -2147483648) (hi := 2147483647) rfl ⟨by omega, by omega⟩ ⟨by decide, by decide⟩ (.inr (by decide)) rfl
  refine wz_lp sb_550_1 (fun m x => ∃ (Zc : qz_Z) (d g : Int), qz_fg [true, true, false, true, true, true, false, false] x.1 = [some (.inr (.inr (some (1, 0, 0)))), some (.inr (.inr (some r))), none, some (.inl (i3 e)), some (.inl (i3 d)), some (.inl (i3 g)), none, none] ∧ x.2 = ([], zm Zc ν) ∧ zM (zb s (123 * (122 - m))) Zc ∧ Zc 1 0 0 35 = 1 ∧ (∀ j, Zc r.1 r.2.1 r.2.2 j = Z r.1 r.2.1 r.2.2 j) ∧ 0 ≤ Zc 1 0 0 50 ∧ Zc 1 0 0 50 ≤ e + 6 ∧ (g = 0 ∨ g = 1 ∧ Zc 1 0 0 50 ≤ e ∧ e - Zc 1 0 0 50 < (m : Int)) ∧ 1 ≤ m ∧ m ≤ 122 ∧ yD (fun a => Z r.1 r.2.1 r.2.2 a) e m Zc d g = F) ?_ 65536 122 _ (by omega) ⟨zu Z 1 0 0 50 a, 0, 1, (zconso rfl (zconso rfl (zconso rfl (zconso rfl (zconso (zvo (show (0 : Int32) = i3 0 from rfl)) (zconso (zvo (show (1 : Int32) = i3 1 from rfl)) rfl)))))), rfl, zmw (zm0 m0) (Nat.zero_le _), (zu_ne rfl (fun q => absurd q.2.2.2 (by decide))).trans gq, fun j => zu_ne rfl (fun q => hq.1.1 q.1), by rw [zu_at rfl]; omega, by rw [zu_at rfl]; omega, .inr ⟨rfl, by rw [zu_at rfl]; omega, by rw [zu_at rfl]; omega⟩, by omega, by omega, hFe.symm⟩
  rintro m ⟨L, st, μ⟩ ⟨Zc, d, g, hL, hx, hZc, g35, hrr, h0, h1, hg, hm1, hm2, hF⟩
  cases hx
  obtain ⟨m2, rfl⟩ : ∃ m2, m = m2 + 1 := ⟨m - 1, by omega⟩
  rw [yD_s] at hF
  have k50 : (zm Zc ν).1 1 0 0 50 = i3 (Zc 1 0 0 50) := zm_f (j' := 50) rfl rfl
  refine fb_550_1 r (i3 e) (i3 d) (i3 g) _ _ _ _ hL ?_
  have stop : (Zc, d) = F → gc_550_2 wz_k0 (fun μ2 o2 => μ2 = zm (zu F.1 1 0 0 2 0) ν ∧ o2 = .inl (some (.inl (i3 F.2)))) ([some (.inr (.inr (some (1, 0, 0)))), some (.inr (.inr (some r))), none, some (.inl (i3 e)), some (.inl (i3 d)), some (.inl (i3 g)), none, none], [], zm Zc ν) := fun hE => by
    refine fc_550_2 (i3 d) _ _ _ _ (by rfl) ?_
    refine wz_wIo (j' := 2) (e := 0) rfl rfl ?_
    rw [← hE]
    exact ⟨rfl, rfl⟩
  refine wz_br (i3E (rfl : i3 g = i3 g) (show (0 : Int32) = i3 0 from rfl) (by omega) (by omega) (by omega) (by omega)) (fun q1 => stop (by rw [← hF, if_pos q1])) (fun q1 => ?_)
  rw [if_neg q1] at hF
  have hg' : Zc 1 0 0 50 ≤ e ∧ e - Zc 1 0 0 50 < ((m2 + 1 : Nat) : Int) := by omega
  refine wz_br (i3Le (rfl : i3 e = i3 e) k50 (by omega) (by omega) (by omega) (by omega)) (fun q2 => stop (by rw [← hF, if_pos q2])) (fun q2 => ?_)
  rw [if_neg q2] at hF
  obtain ⟨t1, t2⟩ := hq.2.2 Zc
  refine wz_i1 (by rw [t1]; rfl) ?_
  refine wz_i0 (by rw [t2]; exact i3O (n := len) k50 (by omega) (by omega) (by omega)) ?_
  have ef : (fun a => Zc r.1 r.2.1 r.2.2 a) = (fun a => Z r.1 r.2.1 r.2.2 a) := funext hrr
  have ht : yTr (fun j => Zc 113 0 0 j) := fun j => zM_k hZc 113 0 0 j (lo := -1) (hi := 99999) (by decide) rfl
  have c9 := sp_568 (Z := Zc) (ν := ν) (r := r) (e := e) (p := Zc 1 0 0 50) (t := fun j => Zc 113 0 0 j) hq hZc.1.1.2.1 ⟨by omega, he.1⟩ hl ⟨h0, by omega⟩
  have b := yT_b (f := (fun a => Z r.1 r.2.1 r.2.2 a)) (e := e) (p := Zc 1 0 0 50) (t := fun j => Zc 113 0 0 j) (by omega)
  have tr := yT_r (f := (fun a => Z r.1 r.2.1 r.2.2 a)) (e := e) (p := Zc 1 0 0 50) ht
  rw [zT_id, ef] at c9
  have hO : yO (fun a => Z r.1 r.2.1 r.2.2 a) e Zc = yDo (zT Zc (yT (fun a => Z r.1 r.2.1 r.2.2 a) e (Zc 1 0 0 50) (fun j => Zc 113 0 0 j)).1 (yT (fun a => Z r.1 r.2.1 r.2.2 a) e (Zc 1 0 0 50) (fun j => Zc 113 0 0 j)).2.1) (Z r.1 r.2.1 r.2.2 (Zc 1 0 0 50)) := rfl
  generalize yT (fun a => Z r.1 r.2.1 r.2.2 a) e (Zc 1 0 0 50) (fun j => Zc 113 0 0 j) = T at hF b c9 tr hO
  have mT : zM (zb s (123 * (122 - (m2 + 1)))) (zT Zc T.1 T.2.1) := zM_T hZc ⟨by omega, by omega⟩ tr
  have T35 : zT Zc T.1 T.2.1 1 0 0 35 = 1 := (zT_ne (by decide) (fun q => absurd q.2 (by decide))).trans g35
  have hM2 : (zb s (123 * (122 - (m2 + 1)))).2 + 123 ≤ 1000000000 := by
    show s.2 + 123 * (122 - (m2 + 1)) + 123 ≤ 1000000000
    omega
  have rl := hZ.1.1.2.1 r.1 r.2.1 r.2.2 (Zc 1 0 0 50)
  have c1 := sp_551 (ν := ν) (l := Z r.1 r.2.1 r.2.2 (Zc 1 0 0 50)) mT T35 hM2 rl
  have mD := (yDo_m (l := Z r.1 r.2.1 r.2.2 (Zc 1 0 0 50)) ν mT T35 hM2).1
  have kD := yDo_k (Z := zT Zc T.1 T.2.1) (l := Z r.1 r.2.1 r.2.2 (Zc 1 0 0 50))
  rw [← hO] at c1 mD kD
  have mD' : zM (zb s (123 * (122 - m2))) (yO (fun a => Z r.1 r.2.1 r.2.2 a) e Zc) := zmt mD (by omega)
  have O50 : yO (fun a => Z r.1 r.2.1 r.2.2 a) e Zc 1 0 0 50 = T.1 := (kD 1 0 0 50 (by decide) (fun q => absurd q.2 (by decide))).trans zT_50
  have O35 : yO (fun a => Z r.1 r.2.1 r.2.2 a) e Zc 1 0 0 35 = 1 := (kD 1 0 0 35 (by decide) (fun q => absurd q.2 (by decide))).trans T35
  have Or : ∀ j, yO (fun a => Z r.1 r.2.1 r.2.2 a) e Zc r.1 r.2.1 r.2.2 j = Z r.1 r.2.1 r.2.2 j := fun j => (kD _ _ _ _ r2 (fun q => hq.1.1 q.1)).trans ((zT_ne hq.1.2 (fun q => hq.1.1 q.1)).trans (hrr j))
  generalize yO (fun a => Z r.1 r.2.1 r.2.2 a) e Zc = O at hF c1 mD' O50 O35 Or
  have dl : (zm Zc ν).1 r.1 r.2.1 r.2.2 ((zm Zc ν).1 1 0 0 50).toNatClampNeg = i3 (Z r.1 r.2.1 r.2.2 (Zc 1 0 0 50)) := by
    have x := zm_rd (Z := Zc) (ν := ν) (k := r.1) (b := r.2.1) (i := r.2.2) (j := ((zm Zc ν).1 1 0 0 50).toNatClampNeg) rfl rfl (i3I (y := Zc 1 0 0 50) k50 rfl h0 (by omega))
    rw [hrr] at x
    exact x
  refine wz_cI_of c9 ?_
  refine wz_cV_of (zas (zcons rfl (zcons (zvi dl) rfl)) c1) ?_
  refine wz_br (i3E (rfl : i3 T.2.2 = i3 T.2.2) (show (0 : Int32) = i3 0 from rfl) (by omega) (by omega) (by omega) (by omega)) (fun q3 => ?_) (fun q3 => ?_)
  · rw [if_pos q3] at hF
    exact wz_k1 ⟨m2, by omega, O, d + 0, 0, (zconso rfl (zconso rfl (zconso rfl (zconso rfl (zconso (zvo (i3A (rfl : i3 d = i3 d) (show (0 : Int32) = i3 0 from rfl))) (zconso (zvo (show (0 : Int32) = i3 0 from rfl)) rfl)))))), rfl, mD', O35, Or, by omega, by omega, .inl rfl, by omega, by omega, hF⟩
  rw [if_neg q3] at hF
  have o2 : (zm O ν).1 1 0 0 2 = i3 (O 1 0 0 2) := zm_f (j' := 2) rfl rfl
  have ro := mD'.1.1.2.1 1 0 0 2
  refine wz_br (i3NE o2 (show (0 : Int32) = i3 0 from rfl) ro.1 ro.2 (by omega) (by omega)) (fun q4 => ?_) (fun q4 => ?_)
  · rw [if_pos q4] at hF
    exact wz_k1 ⟨m2, by omega, O, d + 0, 0, (zconso rfl (zconso rfl (zconso rfl (zconso rfl (zconso (zvo (i3A (rfl : i3 d = i3 d) (show (0 : Int32) = i3 0 from rfl))) (zconso (zvo (show (0 : Int32) = i3 0 from rfl)) rfl)))))), rfl, mD', O35, Or, by omega, by omega, .inl rfl, by omega, by omega, hF⟩
  · rw [if_neg q4] at hF
    exact wz_k1 ⟨m2, by omega, O, d + 1, 1, (zconso rfl (zconso rfl (zconso rfl (zconso rfl (zconso (zvo (i3A (rfl : i3 d = i3 d) (show (1 : Int32) = i3 1 from rfl))) (zconso (zvo (show (1 : Int32) = i3 1 from rfl)) rfl)))))), rfl, mD', O35, Or, by omega, by omega, .inr ⟨rfl, by omega, by omega⟩, by omega, by omega, hF⟩
