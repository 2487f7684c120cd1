/-! TASKS of the reference: a task (568), the first fault (552). -/
theorem ynl_b {f : Int → Int} {e : Int} : ∀ (m : Nat) (p x v : Int), p ≤ (ynl f e m p x v).1 ∧ (ynl f e m p x v).1 ≤ p + m
  | 0, p, x, v => ⟨Int.le_refl _, by show p ≤ p + 0; omega⟩
  | m + 1, p, x, v => by
    have g := ynl_b (f := f) (e := e) m (p + 1) (x + 1) (10 * v + f p - 48)
    rw [ynl_s]
    split
    · exact ⟨Int.le_refl _, by show p ≤ p + ((m + 1 : Nat) : Int); omega⟩
    split
    · exact ⟨Int.le_refl _, by show p ≤ p + ((m + 1 : Nat) : Int); omega⟩
    split
    · exact ⟨Int.le_refl _, by show p ≤ p + ((m + 1 : Nat) : Int); omega⟩
    split
    · exact ⟨Int.le_refl _, by show p ≤ p + ((m + 1 : Nat) : Int); omega⟩
    · exact ⟨by omega, by omega⟩
theorem yNn_b {f : Int → Int} {e p : Int} : (p ≤ (yNn f e p).1 ∧ (yNn f e p).1 ≤ p + 6) ∧ ((yNn f e p).2.2 = 0 ∨ (yNn f e p).2.2 = 1) := by
  refine ⟨ynl_b 6 p 0 0, ?_⟩
  show (if (ynl f e 6 p 0 0).2.1 ≤ 0 then (0 : Int) else 1) = 0 ∨ (if (ynl f e 6 p 0 0).2.1 ≤ 0 then (0 : Int) else 1) = 1
  split
  · exact .inl rfl
  · exact .inr rfl
theorem yN_b {f : Int → Int} {e l k p : Int} : (p ≤ (yN f e l k p).1 ∧ (yN f e l k p).1 ≤ p + 6) ∧ ((yN f e l k p).2.2 = 0 ∨ (yN f e l k p).2.2 = 1) := by
  unfold yN
  repeat' split
  all_goals first
    | exact yNn_b
    | exact ⟨⟨by show p ≤ p + 1; omega, by show p + 1 ≤ p + 6; omega⟩, .inr rfl⟩
theorem yNb_b {l : Int} : 0 ≤ yNb l ∧ yNb l ≤ 4 := by
  unfold yNb
  repeat' split
  all_goals decide
/-- the numbers of a task from the k-th on -/
def yTl (f : Int → Int) (e l n : Int) : Nat → Int → Int → (Int → Int) → Int × (Int → Int) × Int
  | 0, p, _, t => (p, t, 1)
  | m + 1, p, k, t => if n ≤ k then (p, t, 1) else if (yN f e l k p).2.2 ≠ 0 then (if e ≤ (yN f e l k p).1 then ((yN f e l k p).1, zup t k (yN f e l k p).2.1, 0) else if n - 1 ≤ k then (if f (yN f e l k p).1 = 59 then yTl f e l n m ((yN f e l k p).1 + 1) (k + 1) (zup t k (yN f e l k p).2.1) else ((yN f e l k p).1, zup t k (yN f e l k p).2.1, 0)) else (if f (yN f e l k p).1 = 44 then yTl f e l n m ((yN f e l k p).1 + 1) (k + 1) (zup t k (yN f e l k p).2.1) else ((yN f e l k p).1, zup t k (yN f e l k p).2.1, 0))) else ((yN f e l k p).1, zup t k (yN f e l k p).2.1, 0)
theorem yTl_s {f : Int → Int} {e l n : Int} {m : Nat} {p k : Int} {t : Int → Int} : yTl f e l n (m + 1) p k t = if n ≤ k then (p, t, 1) else if (yN f e l k p).2.2 ≠ 0 then (if e ≤ (yN f e l k p).1 then ((yN f e l k p).1, zup t k (yN f e l k p).2.1, 0) else if n - 1 ≤ k then (if f (yN f e l k p).1 = 59 then yTl f e l n m ((yN f e l k p).1 + 1) (k + 1) (zup t k (yN f e l k p).2.1) else ((yN f e l k p).1, zup t k (yN f e l k p).2.1, 0)) else (if f (yN f e l k p).1 = 44 then yTl f e l n m ((yN f e l k p).1 + 1) (k + 1) (zup t k (yN f e l k p).2.1) else ((yN f e l k p).1, zup t k (yN f e l k p).2.1, 0))) else ((yN f e l k p).1, zup t k (yN f e l k p).2.1, 0) := rfl
/-- a task: the place behind it, what is told, whether it can be -/
def yT (f : Int → Int) (e p : Int) (t : Int → Int) : Int × (Int → Int) × Int := if yNb (f p) ≠ 0 then yTl f e (f p) (yNb (f p)) 5 (p + 1) 0 t else (p, t, 0)
theorem yTl_b {f : Int → Int} {e l n : Int} : ∀ (m : Nat) (p k : Int) (t : Int → Int), p ≤ e → (p ≤ (yTl f e l n m p k t).1 ∧ (yTl f e l n m p k t).1 ≤ e + 6) ∧ ((yTl f e l n m p k t).2.2 = 0 ∨ (yTl f e l n m p k t).2.2 = 1 ∧ (yTl f e l n m p k t).1 ≤ e)
  | 0, p, k, t, h => ⟨⟨Int.le_refl _, by show p ≤ e + 6; omega⟩, .inr ⟨rfl, h⟩⟩
  | m + 1, p, k, t, h => by
    obtain ⟨⟨b1, b2⟩, b3⟩ := yN_b (f := f) (e := e) (l := l) (k := k) (p := p)
    rw [yTl_s]
    split
    · exact ⟨⟨Int.le_refl _, by show p ≤ e + 6; omega⟩, .inr ⟨rfl, h⟩⟩
    split
    · split
      · exact ⟨⟨b1, by show (yN f e l k p).1 ≤ e + 6; omega⟩, .inl rfl⟩
      split
      · split
        · have g := yTl_b (f := f) (e := e) (l := l) (n := n) m ((yN f e l k p).1 + 1) (k + 1) (zup t k (yN f e l k p).2.1) (by omega)
          exact ⟨⟨by omega, g.1.2⟩, g.2⟩
        · exact ⟨⟨b1, by show (yN f e l k p).1 ≤ e + 6; omega⟩, .inl rfl⟩
      · split
        · have g := yTl_b (f := f) (e := e) (l := l) (n := n) m ((yN f e l k p).1 + 1) (k + 1) (zup t k (yN f e l k p).2.1) (by omega)
          exact ⟨⟨by omega, g.1.2⟩, g.2⟩
        · exact ⟨⟨b1, by show (yN f e l k p).1 ≤ e + 6; omega⟩, .inl rfl⟩
    · exact ⟨⟨b1, by show (yN f e l k p).1 ≤ e + 6; omega⟩, .inl rfl⟩
theorem yT_b {f : Int → Int} {e p : Int} {t : Int → Int} (h : p < e) : (p ≤ (yT f e p t).1 ∧ (yT f e p t).1 ≤ e + 6) ∧ ((yT f e p t).2.2 = 0 ∨ (yT f e p t).2.2 = 1 ∧ p < (yT f e p t).1 ∧ (yT f e p t).1 ≤ e) := by
  unfold yT
  split
  · have g := yTl_b (f := f) (e := e) (l := f p) (n := yNb (f p)) 5 (p + 1) 0 t (by omega)
    refine ⟨⟨by omega, g.1.2⟩, ?_⟩
    rcases g.2 with q | q
    · exact .inl q
    · exact .inr ⟨q.1, by omega, q.2⟩
  · exact ⟨⟨Int.le_refl _, by show p ≤ e + 6; omega⟩, .inl rfl⟩
set_option maxRecDepth 20000 in
theorem sp_568 {Z : qz_Z} {ν : qz_N} {r : qz_R} {len : Nat} {e p : Int} {t : Int → Int} (hq : zRq ν r len) (hZ : zi32 Z) (he : 0 ≤ e ∧ e ≤ len) (hl : len ≤ 900000) (hp : 0 ≤ p ∧ p < e) : qf_568 [.inr (.inr (some (1, 0, 0))), .inr (.inr (some r)), .inl (i3 e)] (zm (zT Z p t) ν) = some (zm (zT Z (yT (fun a => Z r.1 r.2.1 r.2.2 a) e p t).1 (yT (fun a => Z r.1 r.2.1 r.2.2 a) e p t).2.1) ν, .inl (some (.inl (i3 (yT (fun a => Z r.1 r.2.1 r.2.2 a) e p t).2.2)))) := by
  have k50 : ∀ p t, (zm (zT Z p t) ν).1 1 0 0 50 = i3 p := fun p t => zm_f (j' := 50) rfl zT_50
  have rg := hZ r.1 r.2.1 r.2.2
  have d : ∀ p t, 0 ≤ p → p ≤ 1000000 → qz_im (zm (zT Z p t) ν) r.1 r.2.1 r.2.2 (qz_im (zm (zT Z p t) ν) 1 0 0 50).toNatClampNeg = i3 (Z r.1 r.2.1 r.2.2 p) := fun p t h0 h1 => by
    have d := zm_rd (Z := zT Z p t) (ν := ν) (k := r.1) (b := r.2.1) (i := r.2.2) (j := ((zm (zT Z p t) ν).1 1 0 0 50).toNatClampNeg) rfl rfl (i3I (y := p) (k50 p t) rfl h0 (by omega))
    rw [zT_ne hq.1.2 (fun q => hq.1.1 q.1)] at d
    exact d
  obtain ⟨t1, t2⟩ := hq.2.2 (zT Z p t)
  have nb := yNb_b (l := Z r.1 r.2.1 r.2.2 p)
  refine wz_call_eq (fw_568 r (i3 e) _ _ ?_)
  refine wz_i1 (by rw [t1]; rfl) ?_
  refine wz_i0 (by rw [t2]; exact i3O (n := len) (k50 p t) (by omega) (by omega) (by omega)) ?_
  rw [d p t hp.1 (by omega)]
  refine wz_cI_of (sp_560 (rg p)) ?_
  rw [show yT (fun a => Z r.1 r.2.1 r.2.2 a) e p t = if yNb (Z r.1 r.2.1 r.2.2 p) ≠ 0 then yTl (fun a => Z r.1 r.2.1 r.2.2 a) e (Z r.1 r.2.1 r.2.2 p) (yNb (Z r.1 r.2.1 r.2.2 p)) 5 (p + 1) 0 t else (p, t, 0) from rfl]
  refine wz_br (i3NE (rfl : i3 (yNb (Z r.1 r.2.1 r.2.2 p)) = i3 _) (show (0 : Int32) = i3 0 from rfl) (by omega) (by omega) (by omega) (by omega)) (fun q => ?_) (fun q => ?_)
  · rw [if_pos q]
    refine wz_wIo (j' := 50) (e := p + 1) rfl (i3A (k50 p t) (show (1 : Int32) = i3 1 from rfl)) ?_
    rw [zT_p]
    generalize hn : yNb (Z r.1 r.2.1 r.2.2 p) = n at nb q ⊢
    have rl := rg p
    generalize hlt : Z r.1 r.2.1 r.2.2 p = l at rl ⊢
    obtain ⟨F, hFe⟩ : ∃ F, F = yTl (fun a => Z r.1 r.2.1 r.2.2 a) e l n 5 (p + 1) 0 t := ⟨_, rfl⟩
    have hFe' : yTl (fun a => Z r.1 r.2.1 r.2.2 a) e l n 5 (p + 1) 0 t = F := hFe.symm
    show wz_loop qb_568_1 65536 (wz_sk gc_568_2 wz_k0 (fun μ2 o2 => μ2 = zm (zT Z (yTl (fun a => Z r.1 r.2.1 r.2.2 a) e l n 5 (p + 1) 0 t).1 (yTl (fun a => Z r.1 r.2.1 r.2.2 a) e l n 5 (p + 1) 0 t).2.1) ν ∧ o2 = .inl (some (.inl (i3 (yTl (fun a => Z r.1 r.2.1 r.2.2 a) e l n 5 (p + 1) 0 t).2.2))))) (fun μ2 o2 => μ2 = zm (zT Z (yTl (fun a => Z r.1 r.2.1 r.2.2 a) e l n 5 (p + 1) 0 t).1 (yTl (fun a => Z r.1 r.2.1 r.2.2 a) e l n 5 (p + 1) 0 t).2.1) ν ∧ o2 = .inl (some (.inl (i3 (yTl (fun a => Z r.1 r.2.1 r.2.2 a) e l n 5 (p + 1) 0 t).2.2)))) _
    rw [hFe']
    refine wz_lp sb_568_1 (fun m x => ∃ (p1 k : Int) (t' : Int → Int), qz_fg [true, true, true, true, true, true] x.1 = [some (.inr (.inr (some (1, 0, 0)))), some (.inr (.inr (some r))), some (.inl (i3 e)), some (.inl (i3 l)), some (.inl (i3 n)), some (.inl (i3 k))] ∧ x.2 = ([], zm (zT Z p1 t') ν) ∧ 0 ≤ p1 ∧ p1 ≤ e ∧ 0 ≤ k ∧ k ≤ n ∧ yTl (fun a => Z r.1 r.2.1 r.2.2 a) e l n m p1 k t' = F ∧ n - k < (m : Int)) ?_ 65536 5 _ (by omega) ⟨p + 1, 0, t, (zconso rfl (zconso rfl (zconso rfl (zconso rfl (zconso rfl (zconso (zvo (show (0 : Int32) = i3 0 from rfl)) rfl)))))), rfl, by omega, by omega, by omega, by omega, hFe', by omega⟩
    rintro m ⟨L, st, μ⟩ ⟨p1, k, t', hL, hx, h0, h1, h2, h3, hF, hm⟩
    cases hx
    obtain ⟨m2, rfl⟩ : ∃ m2, m = m2 + 1 := ⟨m - 1, by omega⟩
    rw [yTl_s] at hF
    refine fb_568_1 r (i3 e) (i3 l) (i3 n) (i3 k) _ _ _ _ hL ?_
    refine wz_br (i3Le (rfl : i3 n = i3 n) (rfl : i3 k = i3 k) (by omega) (by omega) (by omega) (by omega)) (fun q1 => ?_) (fun q1 => ?_)
    · rw [if_pos q1] at hF
      refine fc_568_2 _ _ _ _ (by rfl) ?_
      rw [← hF]
      exact ⟨rfl, rfl⟩
    rw [if_neg q1] at hF
    obtain ⟨⟨b1, b2⟩, b3⟩ := yN_b (f := (fun a => Z r.1 r.2.1 r.2.2 a)) (e := e) (l := l) (k := k) (p := p1)
    have c9 := sp_559 (Z := Z) (ν := ν) (r := r) (e := e) (l := l) (k := k) (p := p1) (t := t') hq hZ he rl ⟨h2, by omega⟩ ⟨h0, by omega⟩
    generalize hN : yN (fun a => Z r.1 r.2.1 r.2.2 a) e l k p1 = N at hF b1 b2 b3 c9
    refine wz_cI_of c9 ?_
    refine wz_br (i3NE (rfl : i3 N.2.2 = i3 N.2.2) (show (0 : Int32) = i3 0 from rfl) (by omega) (by omega) (by omega) (by omega)) (fun q2 => ?_) (fun q2 => ?_)
    · rw [if_pos q2] at hF
      refine wz_br (i3Le (rfl : i3 e = i3 e) (k50 _ _) (by omega) (by omega) (by omega) (by omega)) (fun q3 => ?_) (fun q3 => ?_)
      · rw [if_pos q3] at hF
        rw [← hF]
        exact ⟨rfl, rfl⟩
      rw [if_neg q3] at hF
      obtain ⟨u1, u2⟩ := hq.2.2 (zT Z N.1 (zup t' k N.2.1))
      refine wz_i1 (by rw [u1]; rfl) ?_
      refine wz_i0 (by rw [u2]; exact i3O (n := len) (k50 _ _) (by omega) (by omega) (by omega)) ?_
      have dd := d N.1 (zup t' k N.2.1) (by omega) (by omega)
      have rN := rg N.1
      refine wz_br (i3Le (i3S (rfl : i3 n = i3 n) (show (1 : Int32) = i3 1 from rfl)) (rfl : i3 k = i3 k) (by omega) (by omega) (by omega) (by omega)) (fun q4 => ?_) (fun q4 => ?_)
      · rw [if_pos q4] at hF
        refine wz_br (i3E dd (show (59 : Int32) = i3 59 from rfl) rN.1 rN.2 (by omega) (by omega)) (fun q5 => ?_) (fun q5 => ?_)
        · rw [if_pos q5] at hF
          refine wz_wIo (j' := 50) (e := N.1 + 1) rfl (i3A (k50 _ _) (show (1 : Int32) = i3 1 from rfl)) ?_
          rw [zT_p]
          exact wz_k1 ⟨m2, by omega, N.1 + 1, k + 1, zup t' k N.2.1, (zconso rfl (zconso rfl (zconso rfl (zconso rfl (zconso rfl (zconso (zvo (i3A (rfl : i3 k = i3 k) (show (1 : Int32) = i3 1 from rfl))) rfl)))))), rfl, by omega, by omega, by omega, by omega, hF, by omega⟩
        · rw [if_neg q5] at hF
          rw [← hF]
          exact ⟨rfl, rfl⟩
      · rw [if_neg q4] at hF
        refine wz_br (i3E dd (show (44 : Int32) = i3 44 from rfl) rN.1 rN.2 (by omega) (by omega)) (fun q5 => ?_) (fun q5 => ?_)
        · rw [if_pos q5] at hF
          refine wz_wIo (j' := 50) (e := N.1 + 1) rfl (i3A (k50 _ _) (show (1 : Int32) = i3 1 from rfl)) ?_
          rw [zT_p]
          exact wz_k1 ⟨m2, by omega, N.1 + 1, k + 1, zup t' k N.2.1, (zconso rfl (zconso rfl (zconso rfl (zconso rfl (zconso rfl (zconso (zvo (i3A (rfl : i3 k = i3 k) (show (1 : Int32) = i3 1 from rfl))) rfl)))))), rfl, by omega, by omega, by omega, by omega, hF, by omega⟩
        · rw [if_neg q5] at hF
          rw [← hF]
          exact ⟨rfl, rfl⟩
    · rw [if_neg q2] at hF
      rw [← hF]
      exact ⟨rfl, rfl⟩
  · rw [if_neg q]
    exact ⟨rfl, rfl⟩
