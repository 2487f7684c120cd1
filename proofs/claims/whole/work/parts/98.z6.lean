/-! TASKS of the reference: how signs are read. -/
/-- a row that is read: neither what is told nor the fields -/
def zRq (ν : qz_N) (r : qz_R) (len : Nat) : Prop := (r.1 ≠ 1 ∧ r.1 ≠ 113) ∧ len ≤ 1000000 ∧ ∀ Z : qz_Z, qz_tag (zm Z ν) r = 50 ∧ qz_len (zm Z ν) r = len
theorem zRq_r {ν : qz_N} {r : qz_R} {len : Nat} (h : zRr ν r len) : zRq ν r len := ⟨by rcases h.1 with h | h | ⟨h, _⟩ <;> omega, h.2⟩
theorem zRq_s {ν : qz_N} : zRq ν (112, 0, 0) 120 := ⟨⟨by decide, by decide⟩, by decide, fun _ => ⟨rfl, rfl⟩⟩
/-- the place, and what was told -/
def zT (Z : qz_Z) (p : Int) (t : Int → Int) : qz_Z := fun k b i j => if k = 113 ∧ b = 0 ∧ i = 0 then t j else if k = 1 ∧ b = 0 ∧ i = 0 ∧ j = 50 then p else Z k b i j
def zup (t : Int → Int) (k v : Int) : Int → Int := fun j => if j = k then v else t j
theorem zT_id {Z : qz_Z} : zT Z (Z 1 0 0 50) (fun j => Z 113 0 0 j) = Z := by
  funext k b i j
  unfold zT
  split
  · rename_i h
    rw [h.1, h.2.1, h.2.2]
  · split
    · rename_i h
      rw [h.1, h.2.1, h.2.2.1, h.2.2.2]
    · rfl
theorem zT_50 {Z : qz_Z} {p : Int} {t : Int → Int} : zT Z p t 1 0 0 50 = p := by
  unfold zT
  rw [if_neg (fun q => absurd q.1 (by decide)), if_pos ⟨rfl, rfl, rfl, rfl⟩]
theorem zT_ne {Z : qz_Z} {p : Int} {t : Int → Int} {k : Nat} {b i j : Int} (h : k ≠ 113) (h1 : ¬ (k = 1 ∧ j = 50)) : zT Z p t k b i j = Z k b i j := by
  unfold zT
  rw [if_neg (fun q => h q.1), if_neg (fun q => h1 ⟨q.1, q.2.2.2⟩)]
theorem zT_p {Z : qz_Z} {p p' : Int} {t : Int → Int} : zu (zT Z p t) 1 0 0 50 p' = zT Z p' t := by
  funext k b i j
  show (if k = 1 ∧ b = 0 ∧ i = 0 ∧ j = 50 then p' else zT Z p t k b i j) = zT Z p' t k b i j
  unfold zT
  by_cases c : k = 1 ∧ b = 0 ∧ i = 0 ∧ j = 50
  · rw [if_pos c, if_neg (fun q => by omega), if_pos c]
  · rw [if_neg c, if_neg c, if_neg c]
theorem zT_t {Z : qz_Z} {p k' v : Int} {t : Int → Int} : zu (zT Z p t) 113 0 0 k' v = zT Z p (zup t k' v) := by
  funext k b i j
  show (if k = 113 ∧ b = 0 ∧ i = 0 ∧ j = k' then v else zT Z p t k b i j) = zT Z p (zup t k' v) k b i j
  unfold zT zup
  by_cases c : k = 113 ∧ b = 0 ∧ i = 0
  · rw [if_pos c, if_pos c]
    by_cases d : j = k'
    · rw [if_pos ⟨c.1, c.2.1, c.2.2, d⟩, if_pos d]
    · rw [if_neg (fun q => d q.2.2.2), if_neg d]
  · rw [if_neg (fun q => c ⟨q.1, q.2.1, q.2.2.1⟩), if_neg c, if_neg c]
/-- figures: the place behind them, how many, the number -/
def ynl (f : Int → Int) (e : Int) : Nat → Int → Int → Int → Int × Int × Int
  | 0, p, x, v => (p, x, v)
  | m + 1, p, x, v => if e ≤ p then (p, x, v) else if 5 ≤ x then (p, x, v) else if f p < 48 then (p, x, v) else if 57 < f p then (p, x, v) else ynl f e m (p + 1) (x + 1) (10 * v + f p - 48)
theorem ynl_s {f : Int → Int} {e : Int} {m : Nat} {p x v : Int} : ynl f e (m + 1) p x v = if e ≤ p then (p, x, v) else if 5 ≤ x then (p, x, v) else if f p < 48 then (p, x, v) else if 57 < f p then (p, x, v) else ynl f e m (p + 1) (x + 1) (10 * v + f p - 48) := rfl
def yNn (f : Int → Int) (e p : Int) : Int × Int × Int := ((ynl f e 6 p 0 0).1, (ynl f e 6 p 0 0).2.2, if (ynl f e 6 p 0 0).2.1 ≤ 0 then 0 else 1)
/-- the k-th number of a task: the place behind it, the number, whether it can be -/
def yN (f : Int → Int) (e l k p : Int) : Int × Int × Int := if e ≤ p then yNn f e p else if f p ≠ 45 then yNn f e p else if k ≠ 1 then yNn f e p else if l = 112 then (p + 1, -1, 1) else if l ≠ 103 then yNn f e p else (p + 1, -1, 1)
set_option maxRecDepth 20000 in
theorem sl_559 {Z : qz_Z} {ν : qz_N} {r : qz_R} {len : Nat} {e k p : Int} {t : Int → Int} (hq : zRq ν r len) (hZ : zi32 Z) (he : 0 ≤ e ∧ e ≤ len) (hk : 0 ≤ k ∧ k ≤ 3) (hp : 0 ≤ p ∧ p ≤ 1000000) {L : qz_L} (hL : qz_fg [true, true, true, false, true, true, true] L = [some (.inr (.inr (some (1, 0, 0)))), some (.inr (.inr (some r))), some (.inl (i3 e)), none, some (.inl (i3 k)), some (.inl (i3 0)), some (.inl (i3 0))]) : wz_loop qb_559_1 65536 (wz_sk gc_559_2 wz_k0 (fun μ2 o2 => μ2 = zm (zT Z (yNn (fun a => Z r.1 r.2.1 r.2.2 a) e p).1 (zup t k (yNn (fun a => Z r.1 r.2.1 r.2.2 a) e p).2.1)) ν ∧ o2 = .inl (some (.inl (i3 (yNn (fun a => Z r.1 r.2.1 r.2.2 a) e p).2.2))))) (fun μ2 o2 => μ2 = zm (zT Z (yNn (fun a => Z r.1 r.2.1 r.2.2 a) e p).1 (zup t k (yNn (fun a => Z r.1 r.2.1 r.2.2 a) e p).2.1)) ν ∧ o2 = .inl (some (.inl (i3 (yNn (fun a => Z r.1 r.2.1 r.2.2 a) e p).2.2)))) (L, [], zm (zT Z p t) ν) := by
  have hl := hq.2.1
  refine wz_lp sb_559_1 (fun m x => ∃ p1 x5 x6 : Int, qz_fg [true, true, true, false, true, true, true] x.1 = [some (.inr (.inr (some (1, 0, 0)))), some (.inr (.inr (some r))), some (.inl (i3 e)), none, some (.inl (i3 k)), some (.inl (i3 x5)), some (.inl (i3 x6))] ∧ x.2 = ([], zm (zT Z p1 t) ν) ∧ 0 ≤ p1 ∧ p1 ≤ p + x5 ∧ 0 ≤ x5 ∧ x5 ≤ 5 ∧ ynl (fun a => Z r.1 r.2.1 r.2.2 a) e m p1 x5 x6 = ynl (fun a => Z r.1 r.2.1 r.2.2 a) e 6 p 0 0 ∧ 5 - x5 < (m : Int)) ?_ 65536 6 _ (by omega) ⟨p, 0, 0, hL, rfl, hp.1, by omega, by omega, by omega, rfl, by omega⟩
  rintro m ⟨L, st, μ⟩ ⟨p1, x5, x6, hL, hx, h0, h1, h2, h3, hF, hm⟩
  cases hx
  obtain ⟨m2, rfl⟩ : ∃ m2, m = m2 + 1 := ⟨m - 1, by omega⟩
  have k50 : (zm (zT Z p1 t) ν).1 1 0 0 50 = i3 p1 := zm_f (j' := 50) rfl zT_50
  have rg := hZ r.1 r.2.1 r.2.2 p1
  have d := zm_rd (Z := zT Z p1 t) (ν := ν) (k := r.1) (b := r.2.1) (i := r.2.2) (j := ((zm (zT Z p1 t) ν).1 1 0 0 50).toNatClampNeg) rfl rfl (i3I (y := p1) k50 rfl h0 (by omega))
  rw [zT_ne hq.1.2 (fun q => hq.1.1 q.1)] at d
  obtain ⟨t1, t2⟩ := hq.2.2 (zT Z p1 t)
  rw [ynl_s (m := m2) (p := p1) (x := x5) (v := x6)] at hF
  have hs : (p1, x5, x6) = ynl (fun a => Z r.1 r.2.1 r.2.2 a) e 6 p 0 0 → gc_559_2 wz_k0 (fun μ2 o2 => μ2 = zm (zT Z (yNn (fun a => Z r.1 r.2.1 r.2.2 a) e p).1 (zup t k (yNn (fun a => Z r.1 r.2.1 r.2.2 a) e p).2.1)) ν ∧ o2 = .inl (some (.inl (i3 (yNn (fun a => Z r.1 r.2.1 r.2.2 a) e p).2.2)))) ([some (.inr (.inr (some (1, 0, 0)))), some (.inr (.inr (some r))), some (.inl (i3 e)), none, some (.inl (i3 k)), some (.inl (i3 x5)), some (.inl (i3 x6))], [], zm (zT Z p1 t) ν) := fun hE => by
    have eN : yNn (fun a => Z r.1 r.2.1 r.2.2 a) e p = (p1, x6, if x5 ≤ 0 then 0 else 1) := by
      unfold yNn
      rw [← hE]
    rw [eN]
    refine fc_559_2 (i3 k) (i3 x5) (i3 x6) _ _ _ _ (by rfl) ?_
    refine wz_i0 (i3O (n := 4) (rfl : i3 k = i3 k) (by omega) (by omega) (by omega)) ?_
    refine wz_wIo (j' := k) (e := x6) (i3I (y := k) (rfl : i3 k = i3 k) rfl (by omega) (by omega)) rfl ?_
    rw [zT_t]
    refine wz_br (i3Le (rfl : i3 x5 = i3 x5) (show (0 : Int32) = i3 0 from rfl) (by omega) (by omega) (by omega) (by omega)) (fun q => ?_) (fun q => ?_)
    · rw [if_pos q]
      exact ⟨rfl, rfl⟩
    · rw [if_neg q]
      exact ⟨rfl, rfl⟩
  refine fb_559_1 r (i3 e) (i3 k) (i3 x5) (i3 x6) _ _ _ _ hL ?_
  refine wz_br (i3Le (rfl : i3 e = i3 e) k50 (by omega) (by omega) (by omega) (by omega)) (fun q1 => hs (by rw [← hF, if_pos q1])) (fun q1 => ?_)
  rw [if_neg q1] at hF
  refine wz_br (i3Le (show (5 : Int32) = i3 5 from rfl) (rfl : i3 x5 = i3 x5) (by omega) (by omega) (by omega) (by omega)) (fun q2 => hs (by rw [← hF, if_pos q2])) (fun q2 => ?_)
  rw [if_neg q2] at hF
  refine wz_i1 (by rw [t1]; rfl) ?_
  refine wz_i0 (by rw [t2]; exact i3O (n := len) k50 (by omega) (by omega) (by omega)) ?_
  refine wz_br (i3L d (show (48 : Int32) = i3 48 from rfl) rg.1 rg.2 (by omega) (by omega)) (fun q3 => hs (by rw [← hF, if_pos q3])) (fun q3 => ?_)
  rw [if_neg q3] at hF
  refine wz_br (i3L (show (57 : Int32) = i3 57 from rfl) d (by omega) (by omega) rg.1 rg.2) (fun q4 => hs (by rw [← hF, if_pos q4])) (fun q4 => ?_)
  rw [if_neg q4] at hF
  refine wz_i1 (by rw [t1]; rfl) ?_
  refine wz_i0 (by rw [t2]; exact i3O (n := len) k50 (by omega) (by omega) (by omega)) ?_
  refine wz_wIo (j' := 50) (e := p1 + 1) rfl (i3A k50 (show (1 : Int32) = i3 1 from rfl)) ?_
  rw [zT_p]
  exact wz_k1 ⟨m2, by omega, p1 + 1, x5 + 1, 10 * x6 + Z r.1 r.2.1 r.2.2 p1 - 48, (zconso rfl (zconso rfl (zconso rfl (zconso rfl (zconso rfl (zconso (zvo (i3A (rfl : i3 x5 = i3 x5) (show (1 : Int32) = i3 1 from rfl))) (zconso (zvo (i3S (i3A (i3M (show (10 : Int32) = i3 10 from rfl) (rfl : i3 x6 = i3 x6)) d) (show (48 : Int32) = i3 48 from rfl))) rfl))))))), rfl, by omega, by omega, by omega, by omega, hF, by omega⟩
set_option maxRecDepth 20000 in
theorem sp_559 {Z : qz_Z} {ν : qz_N} {r : qz_R} {len : Nat} {e l k p : Int} {t : Int → Int} (hq : zRq ν r len) (hZ : zi32 Z) (he : 0 ≤ e ∧ e ≤ len) (hlt : -2147483648 ≤ l ∧ l ≤ 2147483647) (hk : 0 ≤ k ∧ k ≤ 3) (hp : 0 ≤ p ∧ p ≤ 1000000) : qf_559 [.inr (.inr (some (1, 0, 0))), .inr (.inr (some r)), .inl (i3 e), .inl (i3 l), .inl (i3 k)] (zm (zT Z p t) ν) = some (zm (zT Z (yN (fun a => Z r.1 r.2.1 r.2.2 a) e l k p).1 (zup t k (yN (fun a => Z r.1 r.2.1 r.2.2 a) e l k p).2.1)) ν, .inl (some (.inl (i3 (yN (fun a => Z r.1 r.2.1 r.2.2 a) e l k p).2.2)))) := by
  have hl := hq.2.1
  have k50 : (zm (zT Z p t) ν).1 1 0 0 50 = i3 p := zm_f (j' := 50) rfl zT_50
  have rg := hZ r.1 r.2.1 r.2.2 p
  have d := zm_rd (Z := zT Z p t) (ν := ν) (k := r.1) (b := r.2.1) (i := r.2.2) (j := ((zm (zT Z p t) ν).1 1 0 0 50).toNatClampNeg) rfl rfl (i3I (y := p) k50 rfl hp.1 (by omega))
  rw [zT_ne hq.1.2 (fun q => hq.1.1 q.1)] at d
  obtain ⟨t1, t2⟩ := hq.2.2 (zT Z p t)
  refine wz_call_eq (fw_559 r (i3 e) (i3 l) (i3 k) _ _ ?_)
  unfold yN
  refine wz_br (i3Le (rfl : i3 e = i3 e) k50 (by omega) (by omega) (by omega) (by omega)) (fun q1 => ?_) (fun q1 => ?_)
  · rw [if_pos q1]
    exact sl_559 hq hZ he hk hp (by rfl)
  rw [if_neg q1]
  refine wz_i1 (by rw [t1]; rfl) ?_
  refine wz_i0 (by rw [t2]; exact i3O (n := len) k50 (by omega) (by omega) (by omega)) ?_
  refine wz_br (i3NE d (show (45 : Int32) = i3 45 from rfl) rg.1 rg.2 (by omega) (by omega)) (fun q2 => ?_) (fun q2 => ?_)
  · rw [if_pos q2]
    exact sl_559 hq hZ he hk hp (by rfl)
  rw [if_neg q2]
  refine wz_br (i3NE (rfl : i3 k = i3 k) (show (1 : Int32) = i3 1 from rfl) (by omega) (by omega) (by omega) (by omega)) (fun q3 => ?_) (fun q3 => ?_)
  · rw [if_pos q3]
    exact sl_559 hq hZ he hk hp (by rfl)
  rw [if_neg q3]
  have last : wz_wr (qz_wI (zm (zT Z p t) ν) (113, 0, 0) (i3 k).toNatClampNeg (-1 : Int32)) (fun μ1 => (wz_wr (qz_wI μ1 (1, 0, 0) 50 ((qz_im μ1 1 0 0 50) + (1 : Int32))) (fun μ2 => μ2 = zm (zT Z (p + 1) (zup t k (-1))) ν ∧ (Sum.inl (some (.inl (1 : Int32))) : qz_Oc) = .inl (some (.inl (i3 1)))))) := by
    refine wz_wIo (j' := k) (e := -1) (i3I (y := k) (rfl : i3 k = i3 k) rfl (by omega) (by omega)) rfl ?_
    rw [zT_t]
    refine wz_wIo (j' := 50) (e := p + 1) rfl (i3A (zm_f (j' := 50) rfl zT_50) (show (1 : Int32) = i3 1 from rfl)) ?_
    rw [zT_p]
    exact ⟨rfl, rfl⟩
  refine wz_br (i3E (rfl : i3 l = i3 l) (show (112 : Int32) = i3 112 from rfl) (by omega) (by omega) (by omega) (by omega)) (fun q4 => ?_) (fun q4 => ?_)
  · rw [if_pos q4]
    refine wz_i0 (i3O (n := 4) (rfl : i3 k = i3 k) (by omega) (by omega) (by omega)) ?_
    exact last
  rw [if_neg q4]
  refine wz_br (i3NE (rfl : i3 l = i3 l) (show (103 : Int32) = i3 103 from rfl) (by omega) (by omega) (by omega) (by omega)) (fun q5 => ?_) (fun q5 => ?_)
  · rw [if_pos q5]
    exact sl_559 hq hZ he hk hp (by rfl)
  · rw [if_neg q5]
    refine wz_i0 (i3O (n := 4) (rfl : i3 k = i3 k) (by omega) (by omega) (by omega)) ?_
    exact last
/-- how many numbers a letter wants -/
def yNb (l : Int) : Int := if l ≠ 113 then (if l = 112 then 2 else if l = 108 then 2 else if l ≠ 103 then (if l = 119 then 1 else if l = 100 then 1 else if l ≠ 99 then 0 else 1) else 2) else 4
theorem sp_560 {Z : qz_Z} {ν : qz_N} {l : Int} (hlt : -2147483648 ≤ l ∧ l ≤ 2147483647) : qf_560 [.inl (i3 l)] (zm Z ν) = some (zm Z ν, .inl (some (.inl (i3 (yNb l))))) := by
  refine wz_call_eq (fw_560 (i3 l) _ _ ?_)
  unfold yNb
  refine wz_br (i3NE (rfl : i3 l = i3 l) (show (113 : Int32) = i3 113 from rfl) (by omega) (by omega) (by omega) (by omega)) (fun q => ?_) (fun q => ?_)
  · rw [if_pos q]
    refine wz_br (i3E (rfl : i3 l = i3 l) (show (112 : Int32) = i3 112 from rfl) (by omega) (by omega) (by omega) (by omega)) (fun q => ?_) (fun q => ?_)
    · rw [if_pos q]
      exact ⟨rfl, rfl⟩
    rw [if_neg q]
    refine wz_br (i3E (rfl : i3 l = i3 l) (show (108 : Int32) = i3 108 from rfl) (by omega) (by omega) (by omega) (by omega)) (fun q => ?_) (fun q => ?_)
    · rw [if_pos q]
      exact ⟨rfl, rfl⟩
    rw [if_neg q]
    refine wz_br (i3NE (rfl : i3 l = i3 l) (show (103 : Int32) = i3 103 from rfl) (by omega) (by omega) (by omega) (by omega)) (fun q => ?_) (fun q => ?_)
    · rw [if_pos q]
      refine wz_br (i3E (rfl : i3 l = i3 l) (show (119 : Int32) = i3 119 from rfl) (by omega) (by omega) (by omega) (by omega)) (fun q => ?_) (fun q => ?_)
      · rw [if_pos q]
        exact ⟨rfl, rfl⟩
      rw [if_neg q]
      refine wz_br (i3E (rfl : i3 l = i3 l) (show (100 : Int32) = i3 100 from rfl) (by omega) (by omega) (by omega) (by omega)) (fun q => ?_) (fun q => ?_)
      · rw [if_pos q]
        exact ⟨rfl, rfl⟩
      rw [if_neg q]
      refine wz_br (i3NE (rfl : i3 l = i3 l) (show (99 : Int32) = i3 99 from rfl) (by omega) (by omega) (by omega) (by omega)) (fun q => ?_) (fun q => ?_)
      · rw [if_pos q]
        exact ⟨rfl, rfl⟩
      · rw [if_neg q]
        exact ⟨rfl, rfl⟩
    · rw [if_neg q]
      exact ⟨rfl, rfl⟩
  · rw [if_neg q]
    exact ⟨rfl, rfl⟩
