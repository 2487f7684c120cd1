/-! SHARES in any state: share (9) on the class's row (69, 0, 0) and (1009) on a row made on the way. -/
def sh_S (a b c t : Int) : Int := if t = 0 then a else if t = 1 then b else c
def shA (w0 w1 w2 : Int) : Int := w3 (w3 (w0 + w1) + w2)
def shQ (c w0 w1 w2 t : Int) : Int := w3 ((c * sh_S w0 w1 w2 t).tdiv (shA w0 w1 w2))
def shR (c w0 w1 w2 t : Int) : Int := c * sh_S w0 w1 w2 t - (c * sh_S w0 w1 w2 t).tdiv (shA w0 w1 w2) * shA w0 w1 w2
def shL (c w0 w1 w2 : Int) : Int := w3 (w3 (w3 (c - shQ c w0 w1 w2 0) - shQ c w0 w1 w2 1) - shQ c w0 w1 w2 2)
def shU (Q : Int → Int) (t v : Int) : Int → Int := fun j => if j = t then v else Q j
def sh_T (r0 r1 r2 : Int) : Int := if r1 ≤ r0 then (if r2 ≤ r0 then 0 else 2) else (if r2 ≤ r1 then 1 else 2)
def sh_1 (Q R : Int → Int) : Int → Int := shU Q (sh_T (R 0) (R 1) (R 2)) (w3 (Q (sh_T (R 0) (R 1) (R 2)) + 1))
def sh_2 (R : Int → Int) : Int → Int := shU R (sh_T (R 0) (R 1) (R 2)) (-1)
def sh_e (Q R : Int → Int) (l : Int) : Int → Int := if l ≤ 0 then Q else if l ≤ 1 then sh_1 Q R else if l ≤ 2 then sh_1 (sh_1 Q R) (sh_2 R) else sh_1 (sh_1 (sh_1 Q R) (sh_2 R)) (sh_2 (sh_2 R))
/-- three places of a row -/
def shM (Z : qz_Z) (K : Nat) (b : Int) (Q : Int → Int) : qz_Z := fun k b' i j => if k = K ∧ b' = b ∧ i = 0 ∧ 0 ≤ j ∧ j < 3 then Q j else Z k b' i j
def shW (Z : qz_Z) (n9 a1 a2 a3 : Int) : qz_Z := zu (zu (zu (zzi Z n9) 200 n9 0 0 a1) 200 n9 0 1 a2) 200 n9 0 2 a3
def shX (Z : qz_Z) (n9 a0 a1 a2 a3 : Int) (K : Nat) (b : Int) : qz_Z × Int := if 1 ≤ shA a1 a2 a3 then (shM (zzi (shW Z n9 a1 a2 a3) (n9 + 1)) K b (sh_e (shQ a0 a1 a2 a3) (shR a0 a1 a2 a3) (shL a0 a1 a2 a3)), n9 + 2) else (shW Z n9 a1 a2 a3, n9 + 1)
def zf_9 (Z : qz_Z) (n9 : Int) (a0 : Int) (a1 : Int) (a2 : Int) (a3 : Int) : qz_Z × Int := shX Z n9 a0 a1 a2 a3 69 0
def zf_1009 (Z : qz_Z) (n9 : Int) (a0 : Int) (a1 : Int) (a2 : Int) (a3 : Int) (a4b : Int) : qz_Z × Int := shX Z n9 a0 a1 a2 a3 200 a4b
theorem lI_tdiv {x y : Int} (h0 : -9223372036854775808 ≤ x) (h1 : x ≤ 9223372036854775807) (h2 : 0 ≤ y) (h3 : y ≤ 9223372036854775807) : lI x / lI y = lI (x.tdiv y) := by
  unfold lI
  rw [← Int64.ofInt_tdiv (by show (-9223372036854775808 : Int) ≤ _; omega) (by show _ ≤ (9223372036854775807 : Int); omega) (by show (-9223372036854775808 : Int) ≤ _; omega) (by show _ ≤ (9223372036854775807 : Int); omega)]
theorem lI_tmod {x y : Int} (h0 : -9223372036854775808 ≤ x) (h1 : x ≤ 9223372036854775807) (h2 : 0 ≤ y) (h3 : y ≤ 9223372036854775807) : lI x - lI x / lI y * lI y = lI (x - x.tdiv y * y) := by
  rw [lI_tdiv h0 h1 h2 h3, lI_mul, lI_sub]
theorem sh_ng {y : Nat} (n : Nat) : (-((n : Nat) : Int)).tdiv (y : Int) = -(((n : Nat) : Int) / (y : Int)) := by
  cases n with
  | zero => simp
  | succ m => first | rfl | simp
theorem sh_mb {x y : Int} (hy : 0 < y) : -y < x - x.tdiv y * y ∧ x - x.tdiv y * y < y := by
  by_cases h : 0 ≤ x
  · rw [Int.tdiv_eq_ediv_of_nonneg h]
    have e1 := Int.emod_add_mul_ediv x y
    have e2 := z_mod x hy
    have e : x / y * y = y * (x / y) := Int.mul_comm _ _
    omega
  · obtain ⟨n, hn⟩ : ∃ n : Nat, (n : Int) = -x := ⟨(-x).toNat, by omega⟩
    obtain ⟨m, hm⟩ : ∃ m : Nat, (m : Int) = y := ⟨y.toNat, by omega⟩
    have e0 := sh_ng (y := m) n
    rw [hn, hm, show -(-x) = x by omega] at e0
    rw [e0]
    have e1 := Int.emod_add_mul_ediv (-x) y
    have e2 := z_mod (-x) hy
    have e : -(-x / y) * y = -(y * (-x / y)) := by rw [Int.neg_mul, Int.mul_comm]
    omega
theorem sh_ab {a b : Int} (h : -2147483648 ≤ a ∧ a ≤ 2147483647) (g : -2147483648 ≤ b ∧ b ≤ 2147483647) : -4611686018427387904 ≤ a * b ∧ a * b ≤ 4611686018427387904 := by
  have e := Int.natAbs_mul a b
  have : a.natAbs * b.natAbs ≤ 2147483648 * 2147483648 := Nat.mul_le_mul (by omega) (by omega)
  omega
theorem sh_Sb {P : Int → Prop} {a b c t : Int} (h0 : P a) (h1 : P b) (h2 : P c) : P (sh_S a b c t) := by
  unfold sh_S
  split
  · exact h0
  · split
    · exact h1
    · exact h2
theorem sh_Tb (a b c : Int) : 0 ≤ sh_T a b c ∧ sh_T a b c < 3 := by
  unfold sh_T
  split <;> split <;> omega
theorem shM_0 {Z : qz_Z} {K : Nat} {b : Int} : shM Z K b (fun j => Z K b 0 j) = Z := by
  funext k b' i j
  unfold shM
  split
  · rename_i h
    obtain ⟨rfl, rfl, rfl, -⟩ := h
    rfl
  · rfl
theorem shM_u {Z : qz_Z} {K : Nat} {b : Int} {Q : Int → Int} {t v : Int} (h0 : 0 ≤ t) (h1 : t < 3) : zu (shM Z K b Q) K b 0 t v = shM Z K b (shU Q t v) := by
  funext k b' i j
  show (if k = K ∧ b' = b ∧ i = 0 ∧ j = t then v else if k = K ∧ b' = b ∧ i = 0 ∧ 0 ≤ j ∧ j < 3 then Q j else Z k b' i j) = (if k = K ∧ b' = b ∧ i = 0 ∧ 0 ≤ j ∧ j < 3 then (if j = t then v else Q j) else Z k b' i j)
  by_cases h : k = K ∧ b' = b ∧ i = 0 ∧ j = t
  · obtain ⟨rfl, rfl, rfl, rfl⟩ := h
    rw [if_pos ⟨rfl, rfl, rfl, rfl⟩, if_pos ⟨rfl, rfl, rfl, h0, h1⟩, if_pos rfl]
  · rw [if_neg h]
    by_cases g : k = K ∧ b' = b ∧ i = 0 ∧ 0 ≤ j ∧ j < 3
    · rw [if_pos g, if_pos g, if_neg (fun e => h ⟨g.1, g.2.1, g.2.2.1, e⟩)]
    · rw [if_neg g, if_neg g]
theorem shM_at {Z : qz_Z} {K : Nat} {b : Int} {Q : Int → Int} {t : Int} (h0 : 0 ≤ t) (h1 : t < 3) : shM Z K b Q K b 0 t = Q t := if_pos ⟨rfl, rfl, rfl, h0, h1⟩
theorem shM_ne {Z : qz_Z} {K : Nat} {b : Int} {Q : Int → Int} {k : Nat} {b' i j : Int} (h : ¬ (k = K ∧ b' = b)) : shM Z K b Q k b' i j = Z k b' i j := if_neg (fun q => h ⟨q.1, q.2.1⟩)
theorem shM_c {Z : qz_Z} {K : Nat} {b : Int} {Q Q' : Int → Int} (h : ∀ j, 0 ≤ j → j < 3 → Q j = Q' j) : shM Z K b Q = shM Z K b Q' := by
  funext k b' i j
  unfold shM
  split
  · rename_i g
    exact h j g.2.2.2.1 g.2.2.2.2
  · rfl
theorem shM_3 {Z : qz_Z} {K : Nat} {b : Int} {Q : Int → Int} : shM Z K b Q = zu (zu (zu Z K b 0 0 (Q 0)) K b 0 1 (Q 1)) K b 0 2 (Q 2) := by
  funext k b' i j
  show (if k = K ∧ b' = b ∧ i = 0 ∧ 0 ≤ j ∧ j < 3 then Q j else Z k b' i j) = (if k = K ∧ b' = b ∧ i = 0 ∧ j = 2 then Q 2 else if k = K ∧ b' = b ∧ i = 0 ∧ j = 1 then Q 1 else if k = K ∧ b' = b ∧ i = 0 ∧ j = 0 then Q 0 else Z k b' i j)
  by_cases g : k = K ∧ b' = b ∧ i = 0 ∧ 0 ≤ j ∧ j < 3
  · rw [if_pos g]
    obtain ⟨g1, g2, g3, g4, g5⟩ := g
    rcases (show j = 0 ∨ j = 1 ∨ j = 2 by omega) with rfl | rfl | rfl
    · rw [if_neg (by omega), if_neg (by omega), if_pos ⟨g1, g2, g3, rfl⟩]
    · rw [if_neg (by omega), if_pos ⟨g1, g2, g3, rfl⟩]
    · rw [if_pos ⟨g1, g2, g3, rfl⟩]
  · rw [if_neg g, if_neg (by omega), if_neg (by omega), if_neg (by omega)]
/-- where the shares go, and what stands where on the way -/
def shS (Zb : qz_Z) (K b : Nat) (ν0 : qz_N) (n0 : Nat) (Q R : Int → Int) (Z : qz_Z) (ν : qz_N) : Prop := Z = shM Zb K b Q ∧ zGl 5 ν0 ν ∧ ν.2.2.2.1 = n0 + 2 ∧ (ν.2.2.1 n0 = (50, 1, 3) ∧ ν.2.2.1 (n0 + 1) = (51, 1, 3)) ∧ (∀ Z : qz_Z, qz_tag (zm Z ν) (K, b, 0) = 50) ∧ (∃ l : Nat, 3 ≤ l ∧ l ≤ 2147483648 ∧ ∀ Z : qz_Z, qz_len (zm Z ν) (K, b, 0) = l) ∧ (∀ j : Nat, j < 3 → ν.1 200 (n0 + 1) 0 j = lI (R j)) ∧ ¬ (K = 200 ∧ b = n0)
section SHS
variable {Zb Z Z1 : qz_Z} {K b : Nat} {ν0 ν : qz_N} {n0 : Nat} {Q R : Int → Int}
theorem shS_q (h : shS Zb K b ν0 n0 Q R Z ν) {t v : Int} (h0 : 0 ≤ t) (h1 : t < 3) (hz : Z1 = zu Z K b 0 t v) : shS Zb K b ν0 n0 (shU Q t v) R Z1 ν := by
  refine ⟨?_, h.2⟩
  rw [hz, h.1]
  exact shM_u h0 h1
theorem shS_r (h : shS Zb K b ν0 n0 Q R Z ν) {t : Nat} {v : Int} : shS Zb K b ν0 n0 Q (shU R t v) Z (nwl ν 200 (n0 + 1) 0 t (lI v)) := by
  obtain ⟨h1, h2, h3, h4, h5, h6, h7, h8⟩ := h
  refine ⟨h1, zGl_l h2, h3, h4, h5, h6, fun j a => ?_, h8⟩
  show _ = lI (if (j : Int) = t then v else R j)
  by_cases e : j = t
  · subst e
    rw [if_pos rfl]
    exact nwl_at
  · rw [if_neg (fun q => e (by omega))]
    exact (nwl_ne (fun q => e q.2.2.2)).trans (h7 j a)
end SHS
theorem sh_nat {x : Int} (h0 : 0 ≤ x) (h1 : x ≤ 2147483647) : (i3 x).toNatClampNeg = x.toNat := i3_nat h0 (by omega)
/-- a turn of the first loop -/
theorem sh_t1 {Zb Z : qz_Z} {K b : Nat} {ν0 ν : qz_N} {n0 : Nat} {Q R : Int → Int} {c w0 w1 w2 l n : Int} (hc : -2147483648 ≤ c ∧ c ≤ 2147483647) (h0 : -2147483648 ≤ w0 ∧ w0 ≤ 2147483647) (h1 : -2147483648 ≤ w1 ∧ w1 ≤ 2147483647) (h2 : -2147483648 ≤ w2 ∧ w2 ≤ 2147483647) (hA : 1 ≤ shA w0 w1 w2) (hW : ∀ j, 0 ≤ j → j < 3 → Zb 200 n0 0 j = sh_S w0 w1 w2 j) (s : shS Zb K b ν0 n0 Q R Z ν) (hn : 0 ≤ n ∧ n ≤ 2) {N : Nat} {L : qz_L} {k : wz_K} {RR : wz_R}
    (hL : qz_fg [true, false, false, false, true, true, true, false, true, true, true, false, false] L = [some (.inl (i3 c)), none, none, none, some (.inr (.inr (some (K, b, 0)))), some (.inr (.inr (some (200, n0, 0)))), some (.inr (.inl (lI (shA w0 w1 w2)))), none, some (.inr (.inr (some (200, n0 + 1, 0)))), some (.inl (i3 l)), some (.inl (i3 n)), none, none])
    (hk : ∀ Z1 ν1 L', shS Zb K b ν0 n0 (shU Q n (shQ c w0 w1 w2 n)) (shU R n (shR c w0 w1 w2 n)) Z1 ν1 → qz_fg [true, false, false, false, true, true, true, false, true, true, true, false, false] L' = [some (.inl (i3 c)), none, none, none, some (.inr (.inr (some (K, b, 0)))), some (.inr (.inr (some (200, n0, 0)))), some (.inr (.inl (lI (shA w0 w1 w2)))), none, some (.inr (.inr (some (200, n0 + 1, 0)))), some (.inl (i3 (w3 (l - shQ c w0 w1 w2 n)))), some (.inl (i3 (n + 1))), none, none] → wz_loop qb_9_1 N k RR (L', [], zm Z1 ν1)) : wz_loop qb_9_1 (N + 1) k RR (L, [], zm Z ν) := by
  have hw : -2147483648 ≤ sh_S w0 w1 w2 n ∧ sh_S w0 w1 w2 n ≤ 2147483647 := sh_Sb (P := fun x => -2147483648 ≤ x ∧ x ≤ 2147483647) h0 h1 h2
  have cm := sh_ab hc hw
  have ha : shA w0 w1 w2 ≤ 2147483647 := (w3_r _).2
  have s0 := s
  obtain ⟨e1, s2, s3, s4, s5, ⟨l9, l3, lb, s6⟩, s7, s8⟩ := s0
  refine wz_lu sb_9_1 N (fb_9_1 _ _ _ _ _ _ _ _ _ _ _ hL ?_)
  refine wz_i0 (Eq.trans (i3Le (show (3 : Int32) = i3 3 from rfl) (rfl : i3 n = i3 n) (by omega) (by omega) (by omega) (by omega)) (decide_eq_false (by omega))) ?_
  have hnn : (i3 n).toNatClampNeg = n.toNat := sh_nat hn.1 (by omega)
  have o3 : pz_out (i3 n) 3 = false := i3O rfl hn.1 (by show n < (3 : Int); omega) (by decide)
  have o9 : pz_out (i3 n) l9 = false := i3O rfl hn.1 (by omega) lb
  have t0 : Nat.beq (qz_tag (zm Z ν) (200, n0, 0)) 50 = true := by rw [zt_tag s4.1 (by decide)]; rfl
  have l0 : qz_len (zm Z ν) (200, n0, 0) = 3 := zt_len s4.1
  have z0 : decide (lI (shA w0 w1 w2) = 0) = false := lI_z (by omega) (by omega)
  have rd : qz_im (zm Z ν) 200 n0 0 (i3 n).toNatClampNeg = i3 (sh_S w0 w1 w2 n) := by
    rw [hnn, zm_rd rfl rfl (show ((n.toNat : Nat) : Int) = n by omega)]
    refine congrArg i3 ?_
    rw [e1, shM_ne (fun q => s8 ⟨q.1.symm, by have := q.2; omega⟩)]
    exact hW n hn.1 (by omega)
  have part : (i3 c).toInt64 * (qz_im (zm Z ν) 200 n0 0 (i3 n).toNatClampNeg).toInt64 = lI (c * sh_S w0 w1 w2 n) := by
    rw [rd, lI_3 (by omega) (by omega), lI_3 (by omega) (by omega), lI_mul]
  rw [part]
  refine wz_i1 (by rw [t0]; rfl) (wz_i0 (by rw [l0]; exact o3) (wz_i0 z0 (wz_i1 (by rw [s5]; rfl) (wz_i0 (by rw [s6]; exact o9) ?_))))
  intro μ1 e1
  obtain ⟨Z1, hZ1⟩ := zx (zu Z K b 0 n (shQ c w0 w1 w2 n))
  replace e1 := e1.trans (zm_wI (Z := Z) (ν := ν) hZ1 rfl rfl (show (((i3 n).toNatClampNeg : Nat) : Int) = n by rw [hnn]; omega) (show _ = i3 (shQ c w0 w1 w2 n) from by
    rw [lI_tdiv (by omega) (by omega) (by omega) (by omega), lI_i]; exact w3_e _))
  subst e1
  have s1 := shS_q s hn.1 (by omega) hZ1
  have t1 : Nat.beq (qz_tag (zm Z1 ν) (200, n0 + 1, 0)) 51 = true := by rw [zt_tag s4.2 (by decide)]; rfl
  have l1 : qz_len (zm Z1 ν) (200, n0 + 1, 0) = 3 := zt_len s4.2
  refine wz_i0 z0 (wz_i1 t1 (wz_i0 (by rw [l1]; exact o3) ?_))
  intro μ2 e2
  rw [lI_tmod (by omega) (by omega) (by omega) (by omega), zm_wL, hnn] at e2
  replace e2 : μ2 = zm Z1 (nwl ν 200 (n0 + 1) 0 n.toNat (lI (shR c w0 w1 w2 n))) := e2
  subst e2
  have s2 := shS_r s1 (t := n.toNat) (v := shR c w0 w1 w2 n)
  rw [show ((n.toNat : Nat) : Int) = n by omega] at s2
  refine wz_i1 (by rw [s2.2.2.2.2.1]; rfl) (wz_i0 (by rw [show qz_len (zm Z1 (nwl ν 200 (n0 + 1) 0 n.toNat (lI (shR c w0 w1 w2 n)))) (K, b, 0) = l9 from s6 Z1]; exact o9) (wz_k1 (hk _ _ _ s2 ?_)))
  have rq : qz_im (zm Z1 (nwl ν 200 (n0 + 1) 0 n.toNat (lI (shR c w0 w1 w2 n)))) K b 0 (i3 n).toNatClampNeg = i3 (shQ c w0 w1 w2 n) := by
    rw [hnn, zm_rd rfl rfl (show ((n.toNat : Nat) : Int) = n by omega)]
    exact congrArg i3 (zu_at hZ1)
  show [some (Sum.inl (i3 c)), none, none, none, _, _, _, none, _, some (.inl (i3 l - qz_im (zm Z1 (nwl ν 200 (n0 + 1) 0 n.toNat (lI (shR c w0 w1 w2 n)))) K b 0 (i3 n).toNatClampNeg)), some (.inl (i3 n + 1)), none, none] = _
  rw [rq, show (1 : Int32) = i3 1 from rfl, i3_sub, i3_add, w3_e (l - shQ c w0 w1 w2 n)]
  rfl
/-- a turn of the second loop -/
theorem sh_t2 {Zb Z : qz_Z} {K b : Nat} {ν0 ν : qz_N} {n0 : Nat} {Q R : Int → Int} {l m : Int} (s : shS Zb K b ν0 n0 Q R Z ν) (hR : ∀ j, 0 ≤ j → j < 3 → -2147483648 ≤ R j ∧ R j ≤ 2147483647) (hl : 0 < l ∧ l ≤ 2147483647) (hm : 0 ≤ m ∧ m ≤ 2) {N : Nat} {L : qz_L} {k : wz_K} {RR : wz_R}
    (hL : qz_fg [false, false, false, false, true, false, false, false, true, true, true, false, false] L = [none, none, none, none, some (.inr (.inr (some (K, b, 0)))), none, none, none, some (.inr (.inr (some (200, n0 + 1, 0)))), some (.inl (i3 l)), some (.inl (i3 m)), none, none])
    (hk : ∀ Z1 ν1 L', shS Zb K b ν0 n0 (sh_1 Q R) (sh_2 R) Z1 ν1 → qz_fg [false, false, false, false, true, false, false, false, true, true, true, false, false] L' = [none, none, none, none, some (.inr (.inr (some (K, b, 0)))), none, none, none, some (.inr (.inr (some (200, n0 + 1, 0)))), some (.inl (i3 (l - 1))), some (.inl (i3 (m + 1))), none, none] → wz_loop qb_9_4 N k RR (L', [], zm Z1 ν1)) : wz_loop qb_9_4 (N + 1) k RR (L, [], zm Z ν) := by
  have s0 := s
  obtain ⟨e1, s2, s3, s4, s5, ⟨l9, l3, lb, s6⟩, s7, s8⟩ := s0
  refine wz_lu sb_9_4 N (fb_9_4 _ _ _ _ _ _ _ _ hL ?_)
  refine wz_i0 (Eq.trans (i3Le (show (3 : Int32) = i3 3 from rfl) (rfl : i3 m = i3 m) (by omega) (by omega) (by omega) (by omega)) (decide_eq_false (by omega))) ?_
  refine wz_i0 (Eq.trans (i3Le (rfl : i3 l = i3 l) (show (0 : Int32) = i3 0 from rfl) (by omega) (by omega) (by omega) (by omega)) (decide_eq_false (by omega))) ?_
  have t1 : ∀ Z1, Nat.beq (qz_tag (zm Z1 ν) (200, n0 + 1, 0)) 51 = true := fun Z1 => by rw [zt_tag s4.2 (by decide)]; rfl
  have l1 : ∀ Z1, qz_len (zm Z1 ν) (200, n0 + 1, 0) = 3 := fun Z1 => zt_len s4.2
  -- behind the inner loop
  have leaf : ∀ (t : Int) (L' : qz_L), 0 ≤ t → t < 3 → t = sh_T (R 0) (R 1) (R 2) → qz_fg [false, false, false, false, true, false, false, false, true, true, true, true, false] L' = [none, none, none, none, some (.inr (.inr (some (K, b, 0)))), none, none, none, some (.inr (.inr (some (200, n0 + 1, 0)))), some (.inl (i3 l)), some (.inl (i3 m)), some (.inl (i3 t)), none] → gc_9_3 (wz_kb (wz_lk k (fun x' => wz_loop qb_9_4 N k RR x'))) RR (L', [], zm Z ν) := by
    intro t L' ht0 ht3 ht hL'
    unfold sh_1 sh_2 at hk
    rw [← ht] at hk
    have o3 : pz_out (i3 t) 3 = false := i3O rfl ht0 (by show t < (3 : Int); omega) (by decide)
    have o9 : pz_out (i3 t) l9 = false := i3O rfl ht0 (by omega) lb
    have hnn : (i3 t).toNatClampNeg = t.toNat := sh_nat ht0 (by omega)
    refine fc_9_3 _ _ _ _ _ _ _ _ _ hL' ?_
    refine wz_i1 (by rw [s5]; rfl) (wz_i0 (by rw [s6]; exact o9) (wz_i1 (by rw [s5]; rfl) (wz_i0 (by rw [s6]; exact o9) ?_)))
    intro μ1 e1
    obtain ⟨Z1, hZ1⟩ := zx (zu Z K b 0 t (w3 (Q t + 1)))
    have rq : qz_im (zm Z ν) K b 0 (i3 t).toNatClampNeg = i3 (Q t) := by
      rw [hnn, zm_rd rfl rfl (show ((t.toNat : Nat) : Int) = t by omega)]
      exact congrArg i3 (by rw [s.1]; exact shM_at ht0 ht3)
    replace e1 := e1.trans (zm_wI (Z := Z) (ν := ν) hZ1 rfl rfl (show (((i3 t).toNatClampNeg : Nat) : Int) = t by rw [hnn]; omega) (i3W (i3A rq (show (1 : Int32) = i3 1 from rfl))))
    subst e1
    have s1 := shS_q s ht0 ht3 hZ1
    refine wz_i1 (t1 Z1) (wz_i0 (by rw [l1]; exact o3) ?_)
    intro μ2 e2
    rw [show (-1 : Int64) = lI (-1) from by decide, zm_wL, hnn] at e2
    subst e2
    have s2 := shS_r s1 (t := t.toNat) (v := -1)
    rw [show ((t.toNat : Nat) : Int) = t by omega] at s2
    refine wz_kbs (wz_k1 (hk _ _ _ s2 ?_))
    show [none, none, none, none, _, none, none, none, _, some (Sum.inl (i3 l + (-1 : Int32))), some (.inl (i3 m + 1)), none, none] = _
    rw [show (-1 : Int32) = i3 (-1) from rfl, show (1 : Int32) = i3 1 from rfl, i3_add, i3_add]
    rfl
  have o3 : ∀ t : Int, 0 ≤ t → t < 3 → pz_out (i3 t) 3 = false := fun t a b => i3O rfl a (by show t < (3 : Int); omega) (by decide)
  have rl : ∀ t : Int, 0 ≤ t → t < 3 → qz_lm (zm Z ν) 200 (n0 + 1) 0 (i3 t).toNatClampNeg = lI (R t) := fun t a b => by
    rw [sh_nat a (by omega)]
    have := s7 t.toNat (by omega)
    rw [show ((t.toNat : Nat) : Int) = t by omega] at this
    exact this
  -- a turn of the inner loop
  have inner : ∀ {M : Nat} {L' : qz_L} (t n : Int), 0 ≤ t → t < 3 → 0 ≤ n → n < 3 → qz_fg [false, false, false, false, true, false, false, false, true, true, true, true, true] L' = [none, none, none, none, some (.inr (.inr (some (K, b, 0)))), none, none, none, some (.inr (.inr (some (200, n0 + 1, 0)))), some (.inl (i3 l)), some (.inl (i3 m)), some (.inl (i3 t)), some (.inl (i3 n))] →
      (R n ≤ R t → ∀ L2, qz_fg [false, false, false, false, true, false, false, false, true, true, true, true, true] L2 = [none, none, none, none, some (.inr (.inr (some (K, b, 0)))), none, none, none, some (.inr (.inr (some (200, n0 + 1, 0)))), some (.inl (i3 l)), some (.inl (i3 m)), some (.inl (i3 t)), some (.inl (i3 (n + 1)))] → wz_loop qb_9_2 M (wz_sk gc_9_3 (wz_kb (wz_lk k (fun x' => wz_loop qb_9_4 N k RR x'))) RR) RR (L2, [], zm Z ν)) →
      (¬ R n ≤ R t → ∀ L2, qz_fg [false, false, false, false, true, false, false, false, true, true, true, true, true] L2 = [none, none, none, none, some (.inr (.inr (some (K, b, 0)))), none, none, none, some (.inr (.inr (some (200, n0 + 1, 0)))), some (.inl (i3 l)), some (.inl (i3 m)), some (.inl (i3 n)), some (.inl (i3 (n + 1)))] → wz_loop qb_9_2 M (wz_sk gc_9_3 (wz_kb (wz_lk k (fun x' => wz_loop qb_9_4 N k RR x'))) RR) RR (L2, [], zm Z ν)) →
      wz_loop qb_9_2 (M + 1) (wz_sk gc_9_3 (wz_kb (wz_lk k (fun x' => wz_loop qb_9_4 N k RR x'))) RR) RR (L', [], zm Z ν) := by
    intro M L' t n a1 a2 a3 a4 hL' k1 k2
    refine wz_lu sb_9_2 M (fb_9_2 _ _ _ _ _ _ _ _ _ _ hL' ?_)
    refine wz_i0 (Eq.trans (i3Le (show (3 : Int32) = i3 3 from rfl) (rfl : i3 n = i3 n) (by omega) (by omega) (by omega) (by omega)) (decide_eq_false (by omega))) ?_
    refine wz_i1 (t1 Z) (wz_i0 (by rw [l1]; exact o3 n a3 a4) (wz_i1 (t1 Z) (wz_i0 (by rw [l1]; exact o3 t a1 a2) ?_)))
    have b1 := hR t a1 a2
    have b2 := hR n a3 a4
    rw [rl n a3 a4, rl t a1 a2]
    refine wz_br (lI_le (by omega) (by omega) (by omega) (by omega)) (fun q => wz_k1 (k1 q _ ?_)) (fun q => wz_k1 (k2 q _ ?_))
    · show [none, none, none, none, _, none, none, none, _, _, _, _, some (Sum.inl (i3 n + 1))] = _
      rw [show (1 : Int32) = i3 1 from rfl, i3_add] <;> rfl
    · show [none, none, none, none, _, none, none, none, _, _, _, _, some (Sum.inl (i3 n + 1))] = _
      rw [show (1 : Int32) = i3 1 from rfl, i3_add] <;> rfl
  have out : ∀ {M : Nat} {L' : qz_L} (t : Int), 0 ≤ t → t < 3 → t = sh_T (R 0) (R 1) (R 2) → qz_fg [false, false, false, false, true, false, false, false, true, true, true, true, true] L' = [none, none, none, none, some (.inr (.inr (some (K, b, 0)))), none, none, none, some (.inr (.inr (some (200, n0 + 1, 0)))), some (.inl (i3 l)), some (.inl (i3 m)), some (.inl (i3 t)), some (.inl (i3 3))] → wz_loop qb_9_2 (M + 1) (wz_sk gc_9_3 (wz_kb (wz_lk k (fun x' => wz_loop qb_9_4 N k RR x'))) RR) RR (L', [], zm Z ν) := by
    intro M L' t a1 a2 ht hL'
    refine wz_lu sb_9_2 M (fb_9_2 _ _ _ _ _ _ _ _ _ _ hL' ?_)
    exact wz_i1 (by decide) (wz_lk0 (wz_sk0 (leaf t _ a1 a2 ht rfl)))
  refine inner (M := 65535) 0 1 (by omega) (by omega) (by omega) (by omega) rfl (fun q L2 e2 => ?_) (fun q L2 e2 => ?_)
  · refine inner (M := 65534) 0 2 (by omega) (by omega) (by omega) (by omega) e2 (fun q2 L3 e3 => ?_) (fun q2 L3 e3 => ?_)
    · exact out 0 (by omega) (by omega) (by unfold sh_T; rw [if_pos q, if_pos q2]) e3
    · exact out 2 (by omega) (by omega) (by unfold sh_T; rw [if_pos q, if_neg q2]) e3
  · refine inner (M := 65534) 1 2 (by omega) (by omega) (by omega) (by omega) e2 (fun q2 L3 e3 => ?_) (fun q2 L3 e3 => ?_)
    · exact out 1 (by omega) (by omega) (by unfold sh_T; rw [if_neg q, if_pos q2]) e3
    · exact out 2 (by omega) (by omega) (by unfold sh_T; rw [if_neg q, if_neg q2]) e3
def shP (Zb : qz_Z) (K b : Nat) (ν0 : qz_N) (n0 : Nat) (A : Int → Int) : wz_R := fun μ2 o2 => ∃ ν1, μ2 = zm (shM Zb K b A) ν1 ∧ o2 = .inl none ∧ zGl 5 ν0 ν1 ∧ ν1.2.2.2.1 = n0 + 2
/-- the second loop ends -/
theorem sh_x {Zb Z : qz_Z} {K b : Nat} {ν0 ν : qz_N} {n0 : Nat} {Q R A : Int → Int} {l m : Int} (s : shS Zb K b ν0 n0 Q R Z ν) (hm : 0 ≤ m ∧ m ≤ 3) (hl : -2147483648 ≤ l ∧ l ≤ 2147483647) (he : l ≤ 0 ∨ m = 3) (hA : Q = A) {N : Nat} {L : qz_L} (hL : qz_fg [false, false, false, false, true, false, false, false, true, true, true, false, false] L = [none, none, none, none, some (.inr (.inr (some (K, b, 0)))), none, none, none, some (.inr (.inr (some (200, n0 + 1, 0)))), some (.inl (i3 l)), some (.inl (i3 m)), none, none]) : wz_loop qb_9_4 (N + 1) (wz_sk gc_9_5 wz_k0 (shP Zb K b ν0 n0 A)) (shP Zb K b ν0 n0 A) (L, [], zm Z ν) := by
  subst hA
  have fin : gc_9_5 wz_k0 (shP Zb K b ν0 n0 Q) (([none, none, none, none, some (.inr (.inr (some (K, b, 0)))), none, none, none, some (.inr (.inr (some (200, n0 + 1, 0)))), some (.inl (i3 l)), some (.inl (i3 m)), none, none] : qz_L), [], zm Z ν) := fc_9_5 _ _ _ _ rfl ⟨ν, by rw [s.1], rfl, s.2.1, s.2.2.1⟩
  refine wz_lu sb_9_4 N (fb_9_4 _ _ _ _ _ _ _ _ hL ?_)
  refine wz_br (i3Le (show (3 : Int32) = i3 3 from rfl) (rfl : i3 m = i3 m) (by omega) (by omega) (by omega) (by omega)) (fun _ => wz_lk0 (wz_sk0 fin)) (fun g => ?_)
  exact wz_i1 (Eq.trans (i3Le (rfl : i3 l = i3 l) (show (0 : Int32) = i3 0 from rfl) (by omega) (by omega) (by omega) (by omega)) (decide_eq_true (by omega))) (wz_lk0 (wz_sk0 fin))
theorem sh_2b {R : Int → Int} (hR : ∀ j, 0 ≤ j → j < 3 → -2147483648 ≤ R j ∧ R j ≤ 2147483647) : ∀ j, 0 ≤ j → j < 3 → -2147483648 ≤ sh_2 R j ∧ sh_2 R j ≤ 2147483647 := fun j a b => by
  have := hR j a b
  unfold sh_2 shU
  split <;> omega
theorem sh_y {Zb Z : qz_Z} {K b : Nat} {ν0 ν : qz_N} {n0 : Nat} {Q R : Int → Int} {l : Int} (s : shS Zb K b ν0 n0 Q R Z ν) (hR : ∀ j, 0 ≤ j → j < 3 → -2147483648 ≤ R j ∧ R j ≤ 2147483647) (hl : -2147483648 ≤ l ∧ l ≤ 2147483647) {L : qz_L} (hL : qz_fg [false, false, false, false, true, false, false, false, true, true, true, false, false] L = [none, none, none, none, some (.inr (.inr (some (K, b, 0)))), none, none, none, some (.inr (.inr (some (200, n0 + 1, 0)))), some (.inl (i3 l)), some (.inl (i3 0)), none, none]) : wz_loop qb_9_4 65536 (wz_sk gc_9_5 wz_k0 (shP Zb K b ν0 n0 (sh_e Q R l))) (shP Zb K b ν0 n0 (sh_e Q R l)) (L, [], zm Z ν) := by
  by_cases c0 : l ≤ 0
  · exact sh_x (N := 65535) s (by omega) hl (.inl c0) (by unfold sh_e; rw [if_pos c0]) hL
  · refine sh_t2 (N := 65535) s hR (by omega) (by omega) hL (fun Z1 ν1 L1 s1 e1 => ?_)
    by_cases c1 : l ≤ 1
    · exact sh_x (N := 65534) s1 (by omega) (by omega) (.inl (by omega)) (by unfold sh_e; rw [if_neg c0, if_pos c1]) e1
    · refine sh_t2 (N := 65534) s1 (sh_2b hR) (by omega) (by omega) e1 (fun Z2 ν2 L2 s2 e2 => ?_)
      by_cases c2 : l ≤ 2
      · exact sh_x (N := 65533) s2 (by omega) (by omega) (.inl (by omega)) (by unfold sh_e; rw [if_neg c0, if_neg c1, if_pos c2]) e2
      · refine sh_t2 (N := 65533) s2 (sh_2b (sh_2b hR)) (by omega) (by omega) e2 (fun Z3 ν3 L3 s3 e3 => ?_)
        exact sh_x (N := 65532) s3 (by omega) (by omega) (.inr (by omega)) (by unfold sh_e; rw [if_neg c0, if_neg c1, if_neg c2]) e3
theorem shW_at {Z : qz_Z} {n a1 a2 a3 j : Int} (h0 : 0 ≤ j) (h1 : j < 3) : shW Z n a1 a2 a3 200 n 0 j = sh_S a1 a2 a3 j := by
  unfold shW zu sh_S
  rcases (show j = 0 ∨ j = 1 ∨ j = 2 by omega) with rfl | rfl | rfl
  · rw [if_neg (by omega), if_neg (by omega), if_pos ⟨rfl, rfl, rfl, rfl⟩]; rfl
  · rw [if_neg (by omega), if_pos ⟨rfl, rfl, rfl, rfl⟩]; rfl
  · rw [if_pos ⟨rfl, rfl, rfl, rfl⟩]; rfl
/-- share, on any row of three places or more -/
theorem sh_9g {Z : qz_Z} {ν : qz_N} {n9 : Nat} (hn : ν.2.2.2.1 = n9) {c w0 w1 w2 : Int} (hc : -2147483648 ≤ c ∧ c ≤ 2147483647) (h0 : -2147483648 ≤ w0 ∧ w0 ≤ 2147483647) (h1 : -2147483648 ≤ w1 ∧ w1 ≤ 2147483647) (h2 : -2147483648 ≤ w2 ∧ w2 ≤ 2147483647) {K b : Nat} (hK : ¬ (K = 200 ∧ n9 ≤ b))
    (ht : ∀ (ν1 : qz_N), (∀ n, n < n9 → ν1.2.2.1 n = ν.2.2.1 n) → ∀ Z : qz_Z, qz_tag (zm Z ν1) (K, b, 0) = 50) (hl : ∃ l : Nat, 3 ≤ l ∧ l ≤ 2147483648 ∧ ∀ (ν1 : qz_N), (∀ n, n < n9 → ν1.2.2.1 n = ν.2.2.1 n) → ∀ Z : qz_Z, qz_len (zm Z ν1) (K, b, 0) = l) :
    ∃ (Z1 : qz_Z) (ν1 : qz_N) (n1 : Nat), (Z1, (n1 : Int)) = shX Z n9 c w0 w1 w2 K b ∧ qf_9 [.inl (i3 c), .inl (i3 w0), .inl (i3 w1), .inl (i3 w2), .inr (.inr (some (K, b, 0)))] (zm Z ν) = some (zm Z1 ν1, .inl none) ∧ ν1.2.2.2.1 = n1 ∧ zGl 5 ν ν1 ∧ n9 ≤ n1 ∧ n1 ≤ n9 + 2 := by
  obtain ⟨ν1, hν1⟩ := zx (nal ν 50 1 3 1 3)
  have d1 : ν1.2.2.1 n9 = (50, 1, 3) := by rw [hν1, ← hn]; exact nal_at
  have na1 : ν1.2.2.2.1 = n9 + 1 := nal_na hn hν1
  have g1 : zGl 5 ν ν1 := zGl_al zGl_r hν1 (by decide)
  obtain ⟨ν2, hν2⟩ := zx (nal ν1 51 1 3 1 3)
  have na2 : ν2.2.2.2.1 = n9 + 2 := nal_na na1 hν2
  have g2 : zGl 5 ν ν2 := zGl_al g1 hν2 (by decide)
  have f1 : ∀ n, n < n9 → ν1.2.2.1 n = ν.2.2.1 n := fun n h => g1.2.2.1 n (by omega)
  have f2 : ∀ n, n < n9 → ν2.2.2.1 n = ν.2.2.1 n := fun n h => g2.2.2.1 n (by omega)
  have t1 : ∀ Z1, Nat.beq (qz_tag (zm Z1 ν1) (200, n9, 0)) 50 = true := fun Z1 => by rw [zt_tag d1 (by decide)]; rfl
  have l1 : ∀ Z1, qz_len (zm Z1 ν1) (200, n9, 0) = 3 := fun Z1 => zt_len d1
  have eA : i3 w0 + i3 w1 + i3 w2 = i3 (shA w0 w1 w2) := i3W (i3A (i3W (i3A rfl rfl)) rfl)
  have rA := w3_r (w3 (w0 + w1) + w2)
  have go : ∀ R : wz_R, (1 ≤ shA w0 w1 w2 → wz_loop qb_9_1 65536 (wz_sk gc_9_6 wz_k0 R) R ([some (.inl (i3 c)), some (.inl (i3 w0)), some (.inl (i3 w1)), some (.inl (i3 w2)), some (.inr (.inr (some (K, b, 0)))), some (.inr (.inr (some (200, n9, 0)))), some (.inr (.inl (lI (shA w0 w1 w2)))), none, some (.inr (.inr (some (200, n9 + 1, 0)))), some (.inl (i3 c)), some (.inl (0 : Int32)), none, none], [], zm (zzi (shW Z n9 w0 w1 w2) ((n9 : Int) + 1)) ν2)) → (¬ 1 ≤ shA w0 w1 w2 → R (zm (shW Z n9 w0 w1 w2) ν1) (.inl none)) → wz_call qf_9 [.inl (i3 c), .inl (i3 w0), .inl (i3 w1), .inl (i3 w2), .inr (.inr (some (K, b, 0)))] (zm Z ν) R := by
    intro R k1 k2
    refine fw_9 _ _ _ _ _ _ _ ?_
    intro μ1 e1
    replace e1 := zal_e e1 hn rfl hν1
    subst e1
    rw [show qz_na (zm Z ν) = n9 from hn]
    refine wz_i1 (t1 _) (wz_i0 (by rw [l1]; rfl) ?_)
    intro μ2 e2
    obtain ⟨Z2, hZ2⟩ := zx (zu (zzr Z n9) 200 n9 0 0 w0)
    replace e2 := e2.trans (zm_wI (ν := ν1) hZ2 rfl rfl rfl rfl)
    subst e2
    refine wz_i1 (t1 _) (wz_i0 (by rw [l1]; rfl) ?_)
    intro μ3 e3
    obtain ⟨Z3, hZ3⟩ := zx (zu Z2 200 n9 0 1 w1)
    replace e3 := e3.trans (zm_wI (ν := ν1) hZ3 rfl rfl rfl rfl)
    subst e3
    refine wz_i1 (t1 _) (wz_i0 (by rw [l1]; rfl) ?_)
    intro μ4 e4
    obtain ⟨Z4, hZ4⟩ := zx (zu Z3 200 n9 0 2 w2)
    replace e4 := e4.trans (zm_wI (ν := ν1) hZ4 rfl rfl rfl rfl)
    subst e4
    have eW : Z4 = shW Z n9 w0 w1 w2 := by rw [hZ4, hZ3, hZ2]; rfl
    rw [eA, lI_3 (by unfold shA; omega) (by unfold shA; omega)]
    refine wz_br (lI_ge (y := 1) (by unfold shA; omega) (by unfold shA; omega) (by omega) (by omega)) (fun q => ?_) (fun q => ?_)
    · intro μ5 e5
      replace e5 := zal_e e5 na1 rfl hν2
      subst e5
      rw [show qz_na (zm Z4 ν1) = n9 + 1 from na1, eW]
      exact k1 q
    · rw [eW]
      exact k2 q
  by_cases hA : 1 ≤ shA w0 w1 w2
  · have main : wz_call qf_9 [.inl (i3 c), .inl (i3 w0), .inl (i3 w1), .inl (i3 w2), .inr (.inr (some (K, b, 0)))] (zm Z ν) (shP (zzi (shW Z n9 w0 w1 w2) ((n9 : Int) + 1)) K b ν n9 (sh_e (shQ c w0 w1 w2) (shR c w0 w1 w2) (shL c w0 w1 w2))) := by
      refine go _ (fun _ => ?_) (fun q => absurd hA q)
      obtain ⟨Zb, hZb⟩ := zx (zzi (shW Z n9 w0 w1 w2) ((n9 : Int) + 1))
      rw [← hZb]
      have hW : ∀ j, 0 ≤ j → j < 3 → Zb 200 n9 0 j = sh_S w0 w1 w2 j := fun j a b => by
        rw [hZb]
        unfold zzi
        rw [if_neg (by omega)]
        exact shW_at a b
      obtain ⟨l9, l3, lb, hl⟩ := hl
      have s0 : shS Zb K b ν n9 (fun j => Zb K b 0 j) (fun _ => 0) Zb ν2 := by
        refine ⟨shM_0.symm, g2, na2, ⟨?_, ?_⟩, ht ν2 f2, ⟨l9, l3, lb, hl ν2 f2⟩, fun j a => ?_, fun q => hK ⟨q.1, by omega⟩⟩
        · rw [hν2]; exact (nal_ne (by rw [na1]; omega)).trans d1
        · rw [hν2, ← na1]; exact nal_at
        · rw [hν2, ← na1]
          exact if_pos ⟨rfl, rfl⟩
      refine sh_t1 (N := 65535) hc h0 h1 h2 hA hW s0 (n := 0) (by omega) rfl (fun Z5 ν5 L5 s5 e5 => ?_)
      refine sh_t1 (N := 65534) hc h0 h1 h2 hA hW s5 (by omega) e5 (fun Z6 ν6 L6 s6 e6 => ?_)
      refine sh_t1 (N := 65533) hc h0 h1 h2 hA hW s6 (by omega) e6 (fun Z7 ν7 L7 s7 e7 => ?_)
      refine wz_lu sb_9_1 65532 (fb_9_1 _ _ _ _ _ _ _ _ _ _ _ e7 ?_)
      refine wz_i1 (by decide) (wz_lk0 (wz_sk0 (fc_9_6 _ _ _ _ _ _ _ rfl ?_)))
      have s8 : shS Zb K b ν n9 (shQ c w0 w1 w2) (shR c w0 w1 w2) Z7 ν7 := by
        refine ⟨s7.1.trans (shM_c (fun j a b => ?_)), s7.2.1, s7.2.2.1, s7.2.2.2.1, s7.2.2.2.2.1, s7.2.2.2.2.2.1, fun j a => (s7.2.2.2.2.2.2.1 j a).trans (congrArg lI ?_), s7.2.2.2.2.2.2.2⟩
        · rcases (show j = 0 ∨ j = 1 ∨ j = 2 by omega) with rfl | rfl | rfl <;> rfl
        · rcases (show j = 0 ∨ j = 1 ∨ j = 2 by omega) with rfl | rfl | rfl <;> rfl
      refine sh_y s8 (fun j a b => ?_) (w3_r _) rfl
      have := sh_mb (x := c * sh_S w0 w1 w2 j) (y := shA w0 w1 w2) (by omega)
      unfold shR
      unfold shA at this ⊢
      omega
    obtain ⟨μ', o, e, ν3, rfl, rfl, hh, hn3⟩ := main
    refine ⟨_, ν3, n9 + 2, ?_, e, hn3, hh, by omega, by omega⟩
    unfold shX
    rw [if_pos hA]
    rfl
  · have main : wz_call qf_9 [.inl (i3 c), .inl (i3 w0), .inl (i3 w1), .inl (i3 w2), .inr (.inr (some (K, b, 0)))] (zm Z ν) (fun μ2 o2 => μ2 = zm (shW Z n9 w0 w1 w2) ν1 ∧ o2 = .inl none) := go _ (fun q => absurd q hA) (fun _ => ⟨rfl, rfl⟩)
    obtain ⟨μ', o, e, rfl, rfl⟩ := main
    refine ⟨_, ν1, n9 + 1, ?_, e, na1, g1, by omega, by omega⟩
    unfold shX
    rw [if_neg hA]
    rfl
/-- what the shares touch -/
theorem shX_p {s : zSM} {Z Z1 : qz_Z} {n9 : Nat} {n1 a0 a1 a2 a3 : Int} {K : Nat} {b : Nat} (hZ : zH s Z) (hs : s.1 = none) (h1 : -2147483648 ≤ a1 ∧ a1 ≤ 2147483647) (h2 : -2147483648 ≤ a2 ∧ a2 ≤ 2147483647) (h3 : -2147483648 ≤ a3 ∧ a3 ≤ 2147483647) (e : (Z1, n1) = shX Z n9 a0 a1 a2 a3 K b) {ws as : List Nat}
    (hk : ∀ {Za Zc : qz_Z} {j v : Int}, zH s Za → zL ws as n9 Z Za → zU [] Z Za → (-2147483648 ≤ v ∧ v ≤ 2147483647) → Zc = zu Za K b 0 j v → zH s Zc ∧ zL ws as n9 Z Zc ∧ zU [] Z Zc) : zH s Z1 ∧ zL ws as n9 Z Z1 ∧ zU [] Z Z1 := by
  have p0 : zH s (shW Z n9 a1 a2 a3) ∧ zL ws as n9 Z (shW Z n9 a1 a2 a3) ∧ zU [] Z (shW Z n9 a1 a2 a3) := by
    have z0 : zH s (zzr Z n9) := zH_z hZ rfl hs
    have u0 : zU [] Z (zzr Z n9) := zU_z zU_r rfl
    have k0 : zL ws as n9 Z (zzr Z n9) := zL_z zL_r (Nat.le_refl _)
    exact ⟨zH_200 (zH_200 (zH_200 z0 rfl h1 hs) rfl h2 hs) rfl h3 hs, zL_a (zL_a (zL_a k0 rfl (.inr (Nat.le_refl _))) rfl (.inr (Nat.le_refl _))) rfl (.inr (Nat.le_refl _)), zU_u (zU_u (zU_u u0 rfl (.inl rfl)) rfl (.inl rfl)) rfl (.inl rfl)⟩
  unfold shX at e
  split at e
  · obtain ⟨rfl, -⟩ := Prod.mk.inj e
    have z1 : zH s (zzr (shW Z n9 a1 a2 a3) (n9 + 1)) := zH_z p0.1 rfl hs
    have u1 : zU [] Z (zzr (shW Z n9 a1 a2 a3) (n9 + 1)) := zU_z p0.2.2 rfl
    have k1 : zL ws as n9 Z (zzr (shW Z n9 a1 a2 a3) (n9 + 1)) := zL_z p0.2.1 (by omega)
    have er : zzi (shW Z n9 a1 a2 a3) ((n9 : Int) + 1) = zzr (shW Z n9 a1 a2 a3) (n9 + 1) := rfl
    rw [er, shM_3]
    have rg : ∀ t, -2147483648 ≤ sh_e (shQ a0 a1 a2 a3) (shR a0 a1 a2 a3) (shL a0 a1 a2 a3) t ∧ sh_e (shQ a0 a1 a2 a3) (shR a0 a1 a2 a3) (shL a0 a1 a2 a3) t ≤ 2147483647 := fun t => by
      have q0 : ∀ t, -2147483648 ≤ shQ a0 a1 a2 a3 t ∧ shQ a0 a1 a2 a3 t ≤ 2147483647 := fun t => w3_r _
      have q1 : ∀ (Q R : Int → Int), (∀ t, -2147483648 ≤ Q t ∧ Q t ≤ 2147483647) → ∀ t, -2147483648 ≤ sh_1 Q R t ∧ sh_1 Q R t ≤ 2147483647 := fun Q R h t => by
        unfold sh_1 shU
        split
        · exact w3_r _
        · exact h t
      unfold sh_e
      split
      · exact q0 t
      · split
        · exact q1 _ _ q0 t
        · split
          · exact q1 _ _ (q1 _ _ q0) t
          · exact q1 _ _ (q1 _ _ (q1 _ _ q0)) t
    obtain ⟨c1, c2, c3⟩ := hk z1 k1 u1 (rg 0) rfl
    obtain ⟨d1, d2, d3⟩ := hk c1 c2 c3 (rg 1) rfl
    exact hk d1 d2 d3 (rg 2) rfl
  · obtain ⟨rfl, -⟩ := Prod.mk.inj e
    exact p0
theorem sp_9 {s : zSM} {Z : qz_Z} {ν : qz_N} (hZ : zH s Z) (hs : s.1 = none) {n9 : Nat} (hn : ν.2.2.2.1 = n9) {a0 : Int} (ga0 : -2147483648 ≤ a0 ∧ a0 ≤ 2147483647) {a1 : Int} (ga1 : -2147483648 ≤ a1 ∧ a1 ≤ 2147483647) {a2 : Int} (ga2 : -2147483648 ≤ a2 ∧ a2 ≤ 2147483647) {a3 : Int} (ga3 : -2147483648 ≤ a3 ∧ a3 ≤ 2147483647) (_ : s.2 + 0 ≤ 1000000000) : ∃ (Z1 : qz_Z) (ν1 : qz_N) (n1 : Nat), (Z1, (n1 : Int)) = zf_9 Z n9 a0 a1 a2 a3 ∧ (qf_9 [.inl (i3 a0), .inl (i3 a1), .inl (i3 a2), .inl (i3 a3), .inr (.inr (some (69, 0, 0)))] (zm Z ν) = some (zm Z1 ν1, .inl none) ∧ zH s Z1 ∧ zL [69] [] n9 Z Z1 ∧ zU [] Z Z1 ∧ ν1.2.2.2.1 = n1 ∧ zGl 5 ν ν1 ∧ n9 ≤ n1 ∧ n1 ≤ n9 + 2) := by
  obtain ⟨Z1, ν1, n1, e1, e2, e3, e4⟩ := sh_9g (Z := Z) (ν := ν) hn (c := a0) ga0 ga1 ga2 ga3 (K := 69) (b := 0) (fun q => absurd q.1 (by decide)) (fun _ _ _ => rfl) ⟨24, by decide, by decide, fun _ _ _ => rfl⟩
  obtain ⟨p1, p2, p3⟩ := shX_p (ws := [69]) (as := []) hZ hs ga1 ga2 ga3 e1 (fun h1 h2 h3 hv hz => ⟨zH_u h1 hz (lo := -2147483648) (hi := 2147483647) (by decide) rfl hv ⟨by decide, by decide⟩ (Or.inl (by decide)) rfl, zL_u h2 hz rfl, zU_u h3 hz (Or.inl rfl)⟩)
  exact ⟨Z1, ν1, n1, e1, e2, p1, p2, p3, e3, e4⟩
theorem sp_1009 {s : zSM} {Z : qz_Z} {ν : qz_N} (hZ : zH s Z) (hs : s.1 = none) {n9 : Nat} (hn : ν.2.2.2.1 = n9) {a0 : Int} (ga0 : -2147483648 ≤ a0 ∧ a0 ≤ 2147483647) {a1 : Int} (ga1 : -2147483648 ≤ a1 ∧ a1 ≤ 2147483647) {a2 : Int} (ga2 : -2147483648 ≤ a2 ∧ a2 ≤ 2147483647) {a3 : Int} (ga3 : -2147483648 ≤ a3 ∧ a3 ≤ 2147483647) (a4b : Nat) (hS : zSh ν a4b 50 3) (_ : s.2 + 0 ≤ 1000000000) : ∃ (Z1 : qz_Z) (ν1 : qz_N) (n1 : Nat), (Z1, (n1 : Int)) = zf_1009 Z n9 a0 a1 a2 a3 a4b ∧ (qf_9 [.inl (i3 a0), .inl (i3 a1), .inl (i3 a2), .inl (i3 a3), .inr (.inr (some (200, a4b, 0)))] (zm Z ν) = some (zm Z1 ν1, .inl none) ∧ zH s Z1 ∧ zL [] [a4b] n9 Z Z1 ∧ zU [] Z Z1 ∧ ν1.2.2.2.1 = n1 ∧ zGl 5 ν ν1 ∧ n9 ≤ n1 ∧ n1 ≤ n9 + 2) := by
  have hb : a4b < n9 := by have := hS.1; omega
  obtain ⟨Z1, ν1, n1, e1, e2, e3, e4⟩ := sh_9g (Z := Z) (ν := ν) hn (c := a0) ga0 ga1 ga2 ga3 (K := 200) (b := a4b) (fun q => by omega) (fun ν1 h _ => zt_tag ((h a4b hb).trans hS.2) (by decide)) ⟨3, by decide, by decide, fun ν1 h _ => zt_len ((h a4b hb).trans hS.2)⟩
  obtain ⟨p1, p2, p3⟩ := shX_p (ws := []) (as := [a4b]) hZ hs ga1 ga2 ga3 e1 (fun h1 h2 h3 hv hz => ⟨zH_200 h1 hz hv hs, zL_a h2 hz (.inl (by simp)), zU_u h3 hz (Or.inl rfl)⟩)
  exact ⟨Z1, ν1, n1, e1, e2, p1, p2, p3, e3, e4⟩
