/-! TASKS of the reference: the first fault of the slate (552). -/
def yF (f : Int → Int) (e : Int) : Nat → Int → (Int → Int) → Int × (Int → Int) × Int
  | 0, p, t => (p, t, -1)
  | m + 1, p, t => if e ≤ p then (p, t, -1) else if (yT f e p t).2.2 ≠ 0 then yF f e m (yT f e p t).1 (yT f e p t).2.1 else ((yT f e p t).1, (yT f e p t).2.1, (yT f e p t).1)
theorem yF_s {f : Int → Int} {e : Int} {m : Nat} {p : Int} {t : Int → Int} : yF f e (m + 1) p t = if e ≤ p then (p, t, -1) else if (yT f e p t).2.2 ≠ 0 then yF f e m (yT f e p t).1 (yT f e p t).2.1 else ((yT f e p t).1, (yT f e p t).2.1, (yT f e p t).1) := rfl
/-- the fault: the place, what is told, where it can't be (-1: nowhere) -/
def yFt (f : Int → Int) (e : Int) (t : Int → Int) : Int × (Int → Int) × Int := if e ≠ 0 then yF f e 121 0 t else (0, t, 0)
set_option maxRecDepth 20000 in
theorem sp_552 {Z : qz_Z} {ν : qz_N} {e p0 : Int} {t : Int → Int} (hZ : zi32 Z) (he : 0 ≤ e ∧ e ≤ 120) : qf_552 [.inr (.inr (some (1, 0, 0))), .inr (.inr (some (112, 0, 0))), .inl (i3 e)] (zm (zT Z p0 t) ν) = some (zm (zT Z (yFt (fun a => Z 112 0 0 a) e t).1 (yFt (fun a => Z 112 0 0 a) e t).2.1) ν, .inl (some (.inl (i3 (yFt (fun a => Z 112 0 0 a) e t).2.2)))) := by
  have k50 : ∀ p t, (zm (zT Z p t) ν).1 1 0 0 50 = i3 p := fun p t => zm_f (j' := 50) rfl zT_50
  refine wz_call_eq (fw_552 (i3 e) _ _ ?_)
  refine wz_wIo (j' := 50) (e := 0) rfl rfl ?_
  rw [zT_p]
  refine wz_br (i3NE (rfl : i3 e = i3 e) (show (0 : Int32) = i3 0 from rfl) (by omega) (by omega) (by omega) (by omega)) (fun q => ?_) (fun q => ?_)
  · obtain ⟨F, hFe⟩ : ∃ F, F = yF (fun a => Z 112 0 0 a) e 121 0 t := ⟨_, rfl⟩
    rw [show yFt (fun a => Z 112 0 0 a) e t = F from (if_pos q).trans hFe.symm]
    refine wz_lp sb_552_1 (fun m x => ∃ (p1 : Int) (t' : Int → Int), qz_fg [true, true, true] x.1 = [some (.inr (.inr (some (1, 0, 0)))), some (.inr (.inr (some (112, 0, 0)))), some (.inl (i3 e))] ∧ x.2 = ([], zm (zT Z p1 t') ν) ∧ 0 ≤ p1 ∧ p1 ≤ e ∧ yF (fun a => Z 112 0 0 a) e m p1 t' = F ∧ e - p1 < (m : Int)) ?_ 65536 121 _ (by omega) ⟨0, t, (zconso rfl (zconso rfl (zconso rfl rfl))), rfl, by omega, by omega, hFe.symm, by omega⟩
    rintro m ⟨L, st, μ⟩ ⟨p1, t', hL, hx, h0, h1, hF, hm⟩
    cases hx
    obtain ⟨m2, rfl⟩ : ∃ m2, m = m2 + 1 := ⟨m - 1, by omega⟩
    rw [yF_s] at hF
    refine fb_552_1 (i3 e) _ _ _ _ hL ?_
    refine wz_br (i3Le (rfl : i3 e = i3 e) (k50 p1 t') (by omega) (by omega) (by omega) (by omega)) (fun q1 => ?_) (fun q1 => ?_)
    · rw [if_pos q1] at hF
      refine fc_552_3 _ _ _ _ (by rfl) ?_
      rw [← hF]
      exact ⟨rfl, rfl⟩
    rw [if_neg q1] at hF
    have c9 := sp_568 (Z := Z) (ν := ν) (r := (112, 0, 0)) (e := e) (p := p1) (t := t') zRq_s hZ ⟨he.1, he.2⟩ (by decide) ⟨h0, by omega⟩
    have b := yT_b (f := (fun a => Z 112 0 0 a)) (e := e) (p := p1) (t := t') (by omega)
    replace c9 : qf_568 [.inr (.inr (some (1, 0, 0))), .inr (.inr (some (112, 0, 0))), .inl (i3 e)] (zm (zT Z p1 t') ν) = some (zm (zT Z (yT (fun a => Z 112 0 0 a) e p1 t').1 (yT (fun a => Z 112 0 0 a) e p1 t').2.1) ν, .inl (some (.inl (i3 (yT (fun a => Z 112 0 0 a) e p1 t').2.2)))) := c9
    generalize yT (fun a => Z 112 0 0 a) e p1 t' = T at hF b c9
    refine wz_cI_of c9 ?_
    refine wz_br (i3NE (rfl : i3 T.2.2 = i3 T.2.2) (show (0 : Int32) = i3 0 from rfl) (by omega) (by omega) (by omega) (by omega)) (fun q2 => ?_) (fun q2 => ?_)
    · rw [if_pos q2] at hF
      exact wz_k1 ⟨m2, by omega, T.1, T.2.1, (zconso rfl (zconso rfl (zconso rfl rfl))), rfl, by omega, by omega, hF, by omega⟩
    · rw [if_neg q2] at hF
      refine fc_552_2 _ _ _ _ (by rfl) ?_
      rw [← hF]
      exact ⟨rfl, congrArg (fun v => Sum.inl (some (Sum.inl v))) (k50 _ _)⟩
  · rw [show yFt (fun a => Z 112 0 0 a) e t = (0, t, 0) from if_neg q]
    exact ⟨rfl, rfl⟩
