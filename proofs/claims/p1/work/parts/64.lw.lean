/-! the law up to its loop -/
set_option maxRecDepth 10000 in
theorem fl_law0 (μ : qz_M) (k : wz_K) (R : wz_R)
    (h : wz_wr (qz_al μ 4 1 0 1 7) (fun μ1 => (bif Nat.beq (qz_tag μ1 (200, qz_na μ, 0)) 4 && true then (wz_cV qf_210 [.inr (.inr (some (200, qz_na μ, 0)))] μ1 (fun μ2 => wz_wr (qz_al μ2 5 1 0 1 52) (fun μ3 => (bif Nat.beq (qz_tag μ3 (200, qz_na μ2, 0)) 5 && true then (wz_cV qf_376 [.inr (.inr (some (200, qz_na μ2, 0)))] μ3 (fun μ4 => wz_wr (qz_al μ4 51 1 1 1 1) (fun μ5 => k 0 ([some (.inr (.inr (some (200, 0, 0)))), some (.inr (.inr (some (200, qz_na μ, 0)))), some (.inr (.inr (some (200, qz_na μ2, 0)))), some (.inr (.inr (some (200, qz_na μ4, 0)))), some (.inl (0 : Int32)), none, none, none], [], μ5))) (fun μ4 e => False)) else False))) (fun μ2 e => False)) else False))) :
    gw_law0 k R ([some (.inr (.inr (some (200, 0, 0)))), none, none, none, none, none, none, none], [], μ) := h
theorem sp_law0 {L : Nat} {f : Nat → Int32} {μ : qz_M} {c s : Nat} (h : gd L f μ 1 [] c s) : ∃ μ', qf_law0 ([some (.inr (.inr (some (200, 0, 0)))), none, none, none, none, none, none, none], [], μ) = some (.inl (0, [some (.inr (.inr (some (200, 0, 0)))), some (.inr (.inr (some (200, 1, 0)))), some (.inr (.inr (some (200, 540, 0)))), some (.inr (.inr (some (200, 575, 0)))), some (.inl (0 : Int32)), none, none, none], [], μ')) ∧ ge L f mo_s μ' 576 mo_l (c + 5234) (s + 127732) := by
  have H : gw_law0 (fun n x => n = 0 ∧ x.1 = [some (.inr (.inr (some (200, 0, 0)))), some (.inr (.inr (some (200, 1, 0)))), some (.inr (.inr (some (200, 540, 0)))), some (.inr (.inr (some (200, 575, 0)))), some (.inl (0 : Int32)), none, none, none] ∧ x.2.1 = [] ∧ ge L f mo_s x.2.2 576 mo_l (c + 5234) (s + 127732)) (fun _ _ => False) ([some (.inr (.inr (some (200, 0, 0)))), none, none, none, none, none, none, none], [], μ) := by
    refine fl_law0 μ _ _ ?_
    have e0 := h.1
    rintro μ1 rfl
    rw [e0]
    replace h := gd_al (t := 4) (w := 0) h rfl (by decide) (by decide) rfl 1 7 rfl
    refine wz_i1 (by rw [d4_tag (t := 4) (ct := 1) (ln := 0) h (by decide) rfl (by decide)]; rfl) ?_
    obtain ⟨μ2, o, e, rfl, h⟩ := sp_mh h
    refine wz_cV_of e ?_
    have e2 := h.1
    rintro μ3 rfl
    rw [e2]
    replace h := gd_al (t := 5) (w := 0) h rfl (by decide) (by decide) rfl 1 52 rfl
    refine wz_i1 (by rw [d4_tag (t := 5) (ct := 1) (ln := 0) h (by decide) rfl (by decide)]; rfl) ?_
    obtain ⟨μ4, o, e, rfl, h⟩ := sp_mo h
    refine wz_cV_of e ?_
    have e4 := h.1
    rintro μ5 rfl
    rw [e4]
    replace h := d4_al (t := 51) (ct := 1) (ln := 1) (C := 1) (SS := 1) h rfl (fun j => rfl) (fun i j => rfl) (by decide)
    exact ⟨rfl, rfl, rfl, h.1, h.2.1, h.2.2.1.trans (by omega), h.2.2.2.trans (by omega)⟩
  obtain ⟨e, e1, hh⟩ := sw_law0 _ _ _ H
  match e, e1, hh with
  | .inl (n, L', st, μ'), e1, hh =>
    obtain ⟨rfl, q2, q3, hh⟩ := hh
    have q2 : L' = _ := q2
    have q3 : st = _ := q3
    subst q2 q3
    exact ⟨μ', e1, hh⟩
  | .inr _, e1, hh => exact hh.elim
