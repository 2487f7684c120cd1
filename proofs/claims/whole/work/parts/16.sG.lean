def i3 (n : Int) : Int32 := Int32.ofInt n
abbrev i3r (n : Int) : Prop := -2147483648 ≤ n ∧ n < 2147483648
theorem i3_toInt {n : Int} (h : i3r n) : (i3 n).toInt = n := by sorry
theorem i3_of (x : Int32) : x = i3 x.toInt := by sorry
theorem i3_rng (x : Int32) : i3r x.toInt := by sorry
theorem i3_add (a b : Int) : i3 a + i3 b = i3 (a + b) := by sorry
theorem i3_sub (a b : Int) : i3 a - i3 b = i3 (a - b) := by sorry
theorem i3_mul (a b : Int) : i3 a * i3 b = i3 (a * b) := by sorry
theorem i3_neg (a : Int) : -i3 a = i3 (-a) := by sorry
theorem i3_lt {a b : Int} (ha : i3r a) (hb : i3r b) : (i3 a < i3 b) = (a < b) := by sorry
theorem i3_le {a b : Int} (ha : i3r a) (hb : i3r b) : (i3 a ≤ i3 b) = (a ≤ b) := by sorry
theorem i3_eq {a b : Int} (ha : i3r a) (hb : i3r b) : (i3 a = i3 b) = (a = b) := by sorry
theorem i3_nat {a : Int} (h0 : 0 ≤ a) (h : a < 2147483648) : (i3 a).toNatClampNeg = a.toNat := by sorry
theorem i3_out {a : Int} {n : Nat} (h0 : 0 ≤ a) (h : a < n) (hn : n ≤ 2147483648) : pz_out (i3 a) n = false := by sorry
theorem i3_div {a b : Int} (ha : 0 ≤ a) (ha2 : a < 2147483648) (hb : 0 < b) (hb2 : b < 2147483648) : i3 a / i3 b = i3 (a / b) := by sorry
theorem i3_mod {a b : Int} (ha : 0 ≤ a) (ha2 : a < 2147483648) (hb : 0 < b) (hb2 : b < 2147483648) : i3 a - i3 a / i3 b * i3 b = i3 (a % b) := by sorry
def i3d (c : Bool) : Prop := c = true
theorem i3_declt {a b : Int} (ha : i3r a) (hb : i3r b) : decide (i3 a < i3 b) = decide (a < b) := by sorry
theorem i3_decle {a b : Int} (ha : i3r a) (hb : i3r b) : decide (i3 a ≤ i3 b) = decide (a ≤ b) := by sorry
theorem i3_deceq {a b : Int} (ha : i3r a) (hb : i3r b) : decide (i3 a = i3 b) = decide (a = b) := by sorry
theorem wz_up {F : qz_F} {G : wz_W} {k : wz_K} {R : wz_R} (hS : wz_S G F) (ms : List Bool) (N : Nat) (hN : N < 65536) (Ls : Nat → qz_L) (μs : Nat → qz_M)
    (hstep : ∀ i, i < N → ∀ L, qz_fg ms L = Ls i → ∀ I : qz_X → Prop, (∀ L', qz_fg ms L' = Ls (i + 1) → I (L', [], μs (i + 1))) → G (wz_lk k I) R (L, [], μs i))
    (hend : ∀ L, qz_fg ms L = Ls N → ∀ I : qz_X → Prop, G (wz_lk k I) R (L, [], μs N)) {L : qz_L} (h0 : qz_fg ms L = Ls 0) : wz_loop F 65536 k R (L, [], μs 0) := by sorry
theorem wz_up_c {F : qz_F} {G : wz_W} {k : wz_K} {R : wz_R} {μ : qz_M} (hS : wz_S G F) (ms : List Bool) (N : Nat) (hN : N < 65536) (Ls : Nat → qz_L)
    (hstep : ∀ i, i < N → ∀ L, qz_fg ms L = Ls i → ∀ I : qz_X → Prop, (∀ L', qz_fg ms L' = Ls (i + 1) → I (L', [], μ)) → G (wz_lk k I) R (L, [], μ))
    (hend : ∀ L, qz_fg ms L = Ls N → ∀ I : qz_X → Prop, G (wz_lk k I) R (L, [], μ)) {L : qz_L} (h0 : qz_fg ms L = Ls 0) : wz_loop F 65536 k R (L, [], μ) := by sorry
theorem wz_lk_0 {k : wz_K} {I : qz_X → Prop} {x : qz_X} : wz_lk k I 0 x = k 0 x := by sorry
theorem wz_lk_1 {k : wz_K} {I : qz_X → Prop} {x : qz_X} : wz_lk k I 1 x = I x := by sorry
theorem wz_sk_0 {G : wz_W} {k : wz_K} {R : wz_R} {x : qz_X} : wz_sk G k R 0 x = G k R x := by sorry
theorem wz_kb_0 {k : wz_K} {x : qz_X} : wz_kb k 0 x = k 0 x := by sorry
section RD
variable (μ : qz_M) (r : qz_R) (j : Nat) (v : Int32) (k b i j' : Nat)
theorem rd_I : qz_im (qz_wI μ r j v) k b i j' = if k = r.1 ∧ b = r.2.1 ∧ i = r.2.2 ∧ j' = j then v else qz_im μ k b i j' := by sorry
theorem rd_C (c : Nat → Int32) : qz_im (qz_wC μ r c) k b i j' = if k = r.1 ∧ b = r.2.1 ∧ i = r.2.2 then c j' else qz_im μ k b i j' := by sorry
theorem rd_Iq : qz_im (qz_wI μ r j v) r.1 r.2.1 r.2.2 j = v := by sorry
end RD
theorem sp_refuse1 (μ : qz_M) : qf_234 [.inl 1] μ = some (qz_kk μ 1 6, .inr 24) := by sorry
theorem sp_refuse2 (μ : qz_M) : qf_234 [.inl 2] μ = some (qz_kk μ 1 6, .inr 13) := by sorry
theorem sp_refuse3 (μ : qz_M) : qf_234 [.inl 3] μ = some (qz_kk μ 1 6, .inr 15) := by sorry
theorem sp_refuse0 (μ : qz_M) : qf_234 [.inl 0] μ = some (μ, .inl none) := by sorry
theorem sp_thing_y {a n : Int32} {μ : qz_M} (h0 : 0 ≤ a) (h1 : a < n) : qf_249 [.inl a, .inl n] μ = some (μ, .inl none) := by sorry
theorem sp_thing_n {a n : Int32} {μ : qz_M} (h : ¬ (0 ≤ a ∧ a < n)) : qf_249 [.inl a, .inl n] μ = some (qz_kk μ 1 6, .inr 24) := by sorry
theorem sp_inRange_y {a l m : Int32} {μ : qz_M} (h0 : l ≤ a) (h1 : a ≤ m) : qf_208 [.inl a, .inl l, .inl m] μ = some (μ, .inl none) := by sorry
theorem sp_inRange_n {a l m : Int32} {μ : qz_M} (h : ¬ (l ≤ a ∧ a ≤ m)) : qf_208 [.inl a, .inl l, .inl m] μ = some (qz_kk μ 1 6, .inr 13) := by sorry
theorem sp_inTime_y {c : Int32} {μ : qz_M} (h : c ≠ 0) : qf_209 [.inl c] μ = some (μ, .inl none) := by sorry
theorem sp_inTime_n {μ : qz_M} : qf_209 [.inl 0] μ = some (qz_kk μ 1 6, .inr 15) := by sorry
theorem i3_ofNat (n : Nat) : Int32.ofNat n = i3 n := by sorry
theorem cr_min {n0 n1 : Nat} (b0 : n0 < 2147483648) (b1 : n1 < 2147483648) : (if Int32.ofNat n1 < Int32.ofNat n0 then Int32.ofNat n1 else Int32.ofNat n0) = i3 (min n0 n1 : Nat) ∧ (i3 (min n0 n1 : Nat)).toNatClampNeg = min n0 n1 ∧ ¬ i3 (min n0 n1 : Nat) < 0 := by sorry
theorem sp_copyRow (a0 a1 : qz_R) (μ : qz_M) (n0 n1 : Nat) (h0 : qz_tag μ a0 = 50) (h1 : qz_tag μ a1 = 50) (e0 : qz_len μ a0 = n0) (e1 : qz_len μ a1 = n1) (b0 : n0 < 2147483648) (b1 : n1 < 2147483648) :
    qf_112 [.inr (.inr (some a0)), .inr (.inr (some a1))] μ = some (qz_wC μ a1 (va_cpy (qz_im μ a0.1 a0.2.1 a0.2.2) (qz_im μ a1.1 a1.2.1 a1.2.2) 0 0 (min n0 n1)), .inl none) := by sorry
def qz_cpT (μ : qz_M) (k b b' n w : Nat) : qz_M := ((fun k' b2 i j => if k' = k ∧ b2 = b' ∧ i < n ∧ j < w then μ.1 k b i j else μ.1 k' b2 i j), μ.2)
theorem qz_cpT_0 {μ : qz_M} {k b b' w : Nat} : qz_cpT μ k b b' 0 w = μ := by sorry
theorem qz_cpT_s {μ : qz_M} {k b b' i w : Nat} (hb : b ≠ b') : qz_wC (qz_cpT μ k b b' i w) (k, b', i) (va_cpy (qz_im (qz_cpT μ k b b' i w) k b i) (qz_im (qz_cpT μ k b b' i w) k b' i) 0 0 w) = qz_cpT μ k b b' (i + 1) w := by sorry
theorem qz_tbl {μ : qz_M} {k b j : Nat} (h1 : 20 ≤ k) (h2 : k ≤ 34) : (qz_tag μ (k, b, 0) = 53 ∧ qz_len μ (k, b, 0) = qz_lns.getD k 0) ∧ (∀ i, qz_tag μ (k + 20, b, i) = 50 ∧ qz_len μ (k + 20, b, i) = qz_lns.getD (k + 20) 0) ∧ qz_rf μ (k, b, 0) j = some (k + 20, b, j) ∧ qz_lns.getD k 0 < 60000 ∧ qz_lns.getD (k + 20) 0 < 60000 := by sorry
theorem sp_copyRows (k b b' : Nat) (μ : qz_M) (h1 : 20 ≤ k) (h2 : k ≤ 34) (hb : b ≠ b') :
    qf_113 [.inr (.inr (some (k, b, 0))), .inr (.inr (some (k, b', 0)))] μ = some (qz_cpT μ (k + 20) b b' (qz_lns.getD k 0) (qz_lns.getD (k + 20) 0), .inl none) := by sorry
def qz_cpS (μ : qz_M) (b0 b1 : Nat) (P : Nat → Nat → Nat → Bool) : qz_M := ((fun k b i j => if b = b1 ∧ P k i j = true then μ.1 k b0 i j else μ.1 k b i j), μ.2)
theorem qz_cpS_0 {μ : qz_M} {b0 b1 : Nat} : qz_cpS μ b0 b1 (fun _ _ _ => false) = μ := by sorry
theorem qz_cpS_T {μ : qz_M} {b0 b1 k n w : Nat} {P : Nat → Nat → Nat → Bool} (hb : b0 ≠ b1) : qz_cpT (qz_cpS μ b0 b1 P) k b0 b1 n w = qz_cpS μ b0 b1 (fun k' i j => P k' i j || (Nat.beq k' k && (Nat.blt i n && Nat.blt j w))) := by sorry
theorem qz_cpS_C {μ : qz_M} {b0 b1 k w : Nat} {P : Nat → Nat → Nat → Bool} (hb : b0 ≠ b1) : qz_wC (qz_cpS μ b0 b1 P) (k, b1, 0) (va_cpy (qz_im (qz_cpS μ b0 b1 P) k b0 0) (qz_im (qz_cpS μ b0 b1 P) k b1 0) 0 0 w) = qz_cpS μ b0 b1 (fun k' i j => P k' i j || (Nat.beq k' k && (Nat.blt i 1 && Nat.blt j w))) := by sorry
def qz_hk : Nat → Nat → Nat → Bool := fun k i j => (((((((((((((((((((false || (Nat.beq k 11 && (Nat.blt i 1 && Nat.blt j 17))) || (Nat.beq k 12 && (Nat.blt i 1 && Nat.blt j 28))) || (Nat.beq k 13 && (Nat.blt i 1 && Nat.blt j 4))) || (Nat.beq k 14 && (Nat.blt i 1 && Nat.blt j 10))) || (Nat.beq k 40 && (Nat.blt i 6 && Nat.blt j 6))) || (Nat.beq k 41 && (Nat.blt i 5 && Nat.blt j 5))) || (Nat.beq k 42 && (Nat.blt i 6 && Nat.blt j 7))) || (Nat.beq k 43 && (Nat.blt i 6 && Nat.blt j 11))) || (Nat.beq k 44 && (Nat.blt i 48 && Nat.blt j 16))) || (Nat.beq k 45 && (Nat.blt i 8 && Nat.blt j 15))) || (Nat.beq k 46 && (Nat.blt i 24 && Nat.blt j 10))) || (Nat.beq k 47 && (Nat.blt i 60 && Nat.blt j 21))) || (Nat.beq k 48 && (Nat.blt i 2 && Nat.blt j 12))) || (Nat.beq k 49 && (Nat.blt i 24 && Nat.blt j 3))) || (Nat.beq k 50 && (Nat.blt i 4 && Nat.blt j 22))) || (Nat.beq k 51 && (Nat.blt i 2 && Nat.blt j 8))) || (Nat.beq k 52 && (Nat.blt i 24 && Nat.blt j 6))) || (Nat.beq k 53 && (Nat.blt i 60 && Nat.blt j 5))) || (Nat.beq k 54 && (Nat.blt i 12 && Nat.blt j 8)))
set_option maxHeartbeats 1000000 in
theorem sp_copy (b0 b1 : Nat) (μ : qz_M) (hb : b0 ≠ b1) : qf_111 [.inr (.inr (some (10, b1, 0))), .inr (.inr (some (10, b0, 0)))] μ = some (qz_cpS μ b0 b1 qz_hk, .inl none) := by sorry
def qz_ac (μ : qz_M) (kd ks dof sof n : Nat) : qz_M := qz_wC μ (kd, 0, 0) (va_cpy (μ.1 ks 0 0) (μ.1 kd 0 0) sof dof n)
theorem qz_ac_0 {μ : qz_M} {kd ks dof sof : Nat} : qz_ac μ kd ks dof sof 0 = μ := by sorry
theorem qz_ac_s {μ : qz_M} {kd ks dof sof i : Nat} (hk : kd ≠ ks) : qz_wI (qz_ac μ kd ks dof sof i) (kd, 0, 0) (dof + i) (qz_im (qz_ac μ kd ks dof sof i) ks 0 0 (sof + i)) = qz_ac μ kd ks dof sof (i + 1) := by sorry
abbrev zz_m : qz_V := .inr (.inr (some (1, 0, 0)))
theorem i3_s (i : Nat) : i3 i + 1 = i3 ((i + 1 : Nat) : Int) := by sorry
theorem sp_hold (a : Nat) (μ : qz_M) (ha : a < 2) : qf_351 [zz_m, .inl (i3 a)] μ = some (qz_ac μ 81 2 (4400 * a) 0 4400, .inl none) := by sorry
set_option maxRecDepth 8000 in
theorem sp_release (a : Nat) (μ : qz_M) (ha : a < 2) : qf_493 [zz_m, .inl (i3 a)] μ = some (qz_ac μ 2 81 0 (4400 * a) 4400, .inl none) := by sorry
def d4 (μ : qz_M) (n : Nat) (S : Nat → Nat × Nat × Nat) (R : Nat → Nat → Option qz_R) (I : Nat → Nat → Nat → Int32) (c s : Nat) : Prop := qz_na μ = n ∧ (∀ o, o < n → qz_dn μ o = S o ∧ (∀ j, qz_rm μ 200 o 0 j = R o j) ∧ (∀ i j, qz_im μ 200 o i j = I o i j) ∧ (∀ i j, qz_lm μ 200 o i j = 0) ∧ (o = 0 → ∀ i j, qz_rm μ 200 o i j = none)) ∧ qz_kc μ = c ∧ qz_ks μ = s
section D4
variable {μ : qz_M} {n : Nat} {S : Nat → Nat × Nat × Nat} {R R' : Nat → Nat → Option qz_R} {I I' : Nat → Nat → Nat → Int32} {c s : Nat}
theorem d4_to (h : d4 μ n S R I c s) (hR : ∀ o, o < n → ∀ j, R o j = R' o j) (hI : ∀ o, o < n → ∀ i j, I o i j = I' o i j) : d4 μ n S R' I' c s := by sorry
theorem d4_alr {t ct ln C SS : Nat} {f : Nat → Option qz_R} (h : d4 μ n S R I c s) (hS : S n = (t, ct, ln)) (hR : ∀ j, R n j = f j) (hI : ∀ i j, I n i j = 0) (hn0 : n ≠ 0) : d4 (qz_alr μ t ct ln C SS f) (n + 1) S R I (c + C) (s + SS) := by sorry
theorem d4_al {t ct ln C SS : Nat} (h : d4 μ n S R I c s) (hS : S n = (t, ct, ln)) (hR : ∀ j, R n j = none) (hI : ∀ i j, I n i j = 0) (hn0 : n ≠ 0) : d4 (qz_al μ t ct ln C SS) (n + 1) S R I (c + C) (s + SS) := by sorry
theorem d4_wR {o j : Nat} {v : Option qz_R} (h : d4 μ n S R I c s) (hR : ∀ m, m < n → ∀ j', R' m j' = if m = o ∧ j' = j then v else R m j')  (ho0 : o ≠ 0) : d4 (qz_wR μ (200, o, 0) j v) n S R' I c s := by sorry
theorem d4_wI {o a j : Nat} {v : Int32} (h : d4 μ n S R I c s) (hI : ∀ m, m < n → ∀ i' j', I' m i' j' = if m = o ∧ i' = a ∧ j' = j then v else I m i' j') : d4 (qz_wI μ (200, o, a) j v) n S R I' c s := by sorry
theorem d4_tag {o i : Nat} {t ct ln : Nat} (h : d4 μ n S R I c s) (ho : o < n) (hS : S o = (t, ct, ln)) (hi : i < ct) : qz_tag μ (200, o, i) = t := by sorry
theorem d4_len {o i : Nat} (h : d4 μ n S R I c s) (ho : o < n) : qz_len μ (200, o, i) = (S o).2.2 := by sorry
theorem d4_rm {o : Nat} (h : d4 μ n S R I c s) (ho : o < n) (j : Nat) : qz_rm μ 200 o 0 j = R o j := by sorry
end D4
theorem wz_uD {F : qz_F} {G : wz_W} {k : wz_K} {R : wz_R} (hS : wz_S G F) (ms : List Bool) (N : Nat) (hN : N < 65536) (Ls : Nat → qz_L) (D : Nat → qz_M → Prop)
    (hstep : ∀ i, i < N → ∀ L μ, qz_fg ms L = Ls i → D i μ → ∀ I : qz_X → Prop, (∀ L' μ', qz_fg ms L' = Ls (i + 1) → D (i + 1) μ' → I (L', [], μ')) → G (wz_lk k I) R (L, [], μ))
    (hend : ∀ L μ, qz_fg ms L = Ls N → D N μ → ∀ I : qz_X → Prop, G (wz_lk k I) R (L, [], μ)) {L : qz_L} {μ : qz_M} (h0 : qz_fg ms L = Ls 0) (hD : D 0 μ) : wz_loop F 65536 k R (L, [], μ) := by sorry
def hl_S : List (Nat × Nat × Nat) := [(50, 1, 17), (50, 1, 28), (50, 1, 4), (50, 1, 10), (50, 6, 6), (53, 1, 6), (50, 5, 5), (53, 1, 5), (50, 6, 7), (53, 1, 6), (50, 6, 11), (53, 1, 6), (50, 48, 16), (53, 1, 48), (50, 8, 15), (53, 1, 8), (50, 24, 10), (53, 1, 24), (50, 60, 21), (53, 1, 60), (50, 2, 12), (53, 1, 2), (50, 24, 3), (53, 1, 24), (50, 4, 22), (53, 1, 4), (50, 2, 8), (53, 1, 2), (50, 24, 6), (53, 1, 24), (50, 60, 5), (53, 1, 60), (50, 12, 8), (53, 1, 12)]
def hl_s (k : Nat) : Nat × Nat × Nat := hl_S.getD k (0, 0, 0)
def hl_F (n j : Nat) : Option qz_R := if j < 4 then some (200, n + j, 0) else some (200, n + (5 + 2 * (j - 4)), 0)
def hl_R (n k j : Nat) : Option qz_R := if (hl_s k).1 = 53 ∧ j < (hl_s k).2.2 then some (200, n + (k - 1), j) else none
def hl_T (j : Nat) : Int32 := match j with | 0 => 50 | 1 => 120 | 2 => 400 | _ => 2500
def hl_I (g k i j : Nat) : Int32 := match k with
  | 0 => if i = 0 ∧ j = 14 ∧ 5 ≤ g then 2 else if i = 0 ∧ j = 16 ∧ 6 ≤ g then -1 else 0
  | 1 => if i = 0 ∧ j < 28 ∧ 7 + j ≤ g then 18 else 0
  | 2 => if i = 0 ∧ j < 4 ∧ j + 1 ≤ g then hl_T j else 0
  | 4 => if i < 6 ∧ j < 6 ∧ 35 + 6 * i + j ≤ g then (if i = j then 0 else 3) else 0
  | _ => 0
section HL
variable (n sn : Nat) (S : Nat → Nat × Nat × Nat) (R : Nat → Nat → Option qz_R) (I : Nat → Nat → Nat → Int32)
def hl_Sn (m : Nat) : Nat × Nat × Nat := if m < n then S m else hl_s (m - n)
def hl_Rn (f m j : Nat) : Option qz_R := if m < n then (if m = sn ∧ j < f then hl_F n j else R m j) else hl_R n (m - n) j
def hl_In (g m i j : Nat) : Int32 := if m < n then I m i j else hl_I g (m - n) i j
def hl (μ : qz_M) (k f g c s : Nat) : Prop := d4 μ (n + k) (hl_Sn n S) (hl_Rn n sn R f) (hl_In n I g) c s
end HL
section HM
variable {n sn : Nat} {S : Nat → Nat × Nat × Nat} {R : Nat → Nat → Option qz_R} {I : Nat → Nat → Nat → Int32} {μ : qz_M} {k f g c s : Nat}
theorem hl_n {k : Nat} : hl_Sn n S (n + k) = hl_s k := by sorry
theorem hl_na (h : hl n sn S R I μ k f g c s) : qz_na μ = n + k := by sorry
theorem hl_tn (h : hl n sn S R I μ k f g c s) (hs : sn ≠ 0 ∧ sn < n) (hS : S sn = (1, 1, 0)) : qz_tag μ (200, sn, 0) = 1 := by sorry
theorem hl_Rk {k j : Nat} : hl_Rn n sn R f (n + k) j = hl_R n k j := by sorry
theorem hl_Ik {k i j : Nat} : hl_In n I g (n + k) i j = hl_I g k i j := by sorry
theorem hl_R0 {k j a b : Nat} (hk : hl_s k = (50, a, b)) : hl_R n k j = none := by sorry
theorem hl_al {w : Nat} (h : hl n sn S R I μ k f g c s) (hk : hl_s k = (50, 1, w)) (hI : ∀ i j, hl_I g k i j = 0) (hs : sn ≠ 0 ∧ sn < n) : hl n sn S R I (qz_al μ 50 1 w 1 w) (k + 1) f g (c + 1) (s + w) := by sorry
theorem hl_al2 {a b : Nat} (h : hl n sn S R I μ k f g c s) (hk : hl_s k = (50, a, b)) (hk1 : hl_s (k + 1) = (53, 1, a)) (hI : ∀ i j, hl_I g k i j = 0) (hI1 : ∀ i j, hl_I g (k + 1) i j = 0) (hs : sn ≠ 0 ∧ sn < n) :
    hl n sn S R I (qz_alr (qz_al μ 50 a b a (a * b)) 53 1 a 1 a (fun j => if j < a then some (200, qz_na μ, j) else none)) (k + 2) f g (c + a + 1) (s + a * b + a) := by sorry
theorem hl_put {r : qz_R} {P : qz_M → Prop} (h : hl n sn S R I μ k f g c s) (hs : sn ≠ 0 ∧ sn < n) (hS : S sn = (1, 1, 0)) (hf : hl_F n f = some r) (K : ∀ μ', hl n sn S R I μ' k (f + 1) g c s → P μ') :
    (bif (Nat.beq (qz_tag μ (200, sn, 0)) 1 && true) && (true && (true && qz_dy (200, sn, 0) f)) then wz_wr (qz_wR μ (200, sn, 0) f (some r)) P else False) := by sorry
theorem hl_row {w : Nat} {P : qz_M → Prop} (h : hl n sn S R I μ k f g c s) (hs : sn ≠ 0 ∧ sn < n) (hS : S sn = (1, 1, 0)) (hk : hl_s k = (50, 1, w)) (hI : ∀ i j, hl_I g k i j = 0) (hf : hl_F n f = some (200, n + k, 0)) (K : ∀ μ', hl n sn S R I μ' (k + 1) (f + 1) g (c + 1) (s + w) → P μ') :
    wz_wr (qz_al μ 50 1 w 1 w) (fun μ1 => (bif (Nat.beq (qz_tag μ1 (200, sn, 0)) 1 && true) && (true && (true && qz_dy (200, sn, 0) f)) then wz_wr (qz_wR μ1 (200, sn, 0) f (some (200, qz_na μ, 0))) P else False)) := by sorry
theorem hl_tab {a b : Nat} {P : qz_M → Prop} (h : hl n sn S R I μ k f g c s) (hs : sn ≠ 0 ∧ sn < n) (hS : S sn = (1, 1, 0)) (hk : hl_s k = (50, a, b)) (hk1 : hl_s (k + 1) = (53, 1, a)) (hI : ∀ i j, hl_I g k i j = 0) (hI1 : ∀ i j, hl_I g (k + 1) i j = 0) (hf : hl_F n f = some (200, n + k + 1, 0)) (K : ∀ μ', hl n sn S R I μ' (k + 2) (f + 1) g (c + a + 1) (s + a * b + a) → P μ') :
    wz_wr (qz_alr (qz_al μ 50 a b a (a * b)) 53 1 a 1 a (fun j => if j < a then some (200, qz_na μ, j) else none)) (fun μ1 => (bif (Nat.beq (qz_tag μ1 (200, sn, 0)) 1 && true) && (true && (true && qz_dy (200, sn, 0) f)) then wz_wr (qz_wR μ1 (200, sn, 0) f (some (200, qz_na μ + 1, 0))) P else False)) := by sorry
theorem hl_w {o i j : Nat} {v : Int32} (h : hl n sn S R I μ k f g c s) (hI : ∀ m, m < k → ∀ i' j', hl_I (g + 1) m i' j' = if m = o ∧ i' = i ∧ j' = j then v else hl_I g m i' j') : hl n sn S R I (qz_wI μ (200, n + o, i) j v) k f (g + 1) c s := by sorry
theorem hl_tk {o i t ct ln : Nat} (h : hl n sn S R I μ k f g c s) (ho : o < k) (hk : hl_s o = (t, ct, ln)) (hi : i < ct) : qz_tag μ (200, n + o, i) = t := by sorry
theorem hl_lk {o i t ct ln : Nat} (h : hl n sn S R I μ k f g c s) (ho : o < k) (hk : hl_s o = (t, ct, ln)) : qz_len μ (200, n + o, i) = ln := by sorry
theorem hl_fd (h : hl n sn S R I μ k f g c s) (hs : sn ≠ 0 ∧ sn < n) {j : Nat} (hj : j < f) : qz_rm μ 200 sn 0 j = hl_F n j := by sorry
end HM
theorem hl_0 {n sn : Nat} {S : Nat → Nat × Nat × Nat} {R : Nat → Nat → Option qz_R} {I : Nat → Nat → Nat → Int32} {μ : qz_M} {c s : Nat} (h : d4 μ n S R I c s) : hl n sn S R I μ 0 0 0 c s := by sorry
theorem hl_iw {n sn : Nat} {S : Nat → Nat × Nat × Nat} {R : Nat → Nat → Option qz_R} {I : Nat → Nat → Nat → Int32} {μ : qz_M} {k f g c s o i a j b ct ln : Nat} {x v : Int32} {P : qz_M → Prop} (h : hl n sn S R I μ k f g c s) (ho : o < k) (hk : hl_s o = (50, ct, ln)) (hi : i < ct) (hx : x = i3 j) (hj : j < ln) (hl2 : ln ≤ 2147483648) (hb : b = j)
    (hI : ∀ m, m < k → ∀ i' j', hl_I (g + 1) m i' j' = if m = o ∧ i' = i ∧ j' = j then v else hl_I g m i' j') (ha : a = n + o) (K : ∀ μ', hl n sn S R I μ' k f (g + 1) c s → P μ') :
    (bif Nat.beq (qz_tag μ (200, a, i)) 50 then (bif pz_out x (qz_len μ (200, a, i)) then False else (wz_wr (qz_wI μ (200, a, i) b v) P)) else False) := by sorry
theorem hl_i0 {g i j : Nat} (h : g < 5) : hl_I g 0 i j = 0 := by sorry
theorem hl_i1 {g i j : Nat} (h : g < 7) : hl_I g 1 i j = 0 := by sorry
theorem hl_i2 {i j : Nat} : hl_I 0 2 i j = 0 := by sorry
theorem hl_i4 {g i j : Nat} (h : g < 35) : hl_I g 4 i j = 0 := by sorry
theorem hl_w2 {g : Nat} {v : Int32} (h : g < 4) (hv : v = hl_T g) (m i' j' : Nat) : hl_I (g + 1) m i' j' = if m = 2 ∧ i' = 0 ∧ j' = g then v else hl_I g m i' j' := by sorry
theorem hl_2g {g g' i j : Nat} (h : 4 ≤ g) (h' : 4 ≤ g') : hl_I g 2 i j = hl_I g' 2 i j := by sorry
theorem hl_w5 (m i' j' : Nat) : hl_I 5 m i' j' = if m = 0 ∧ i' = 0 ∧ j' = 14 then 2 else hl_I 4 m i' j' := by sorry
theorem hl_w6 (m i' j' : Nat) : hl_I 6 m i' j' = if m = 0 ∧ i' = 0 ∧ j' = 16 then -1 else hl_I 5 m i' j' := by sorry
theorem hl_0g {g g' i j : Nat} (h : 6 ≤ g) (h' : 6 ≤ g') : hl_I g 0 i j = hl_I g' 0 i j := by sorry
theorem hl_w7 {x : Nat} (h : x < 28) (m i' j' : Nat) : hl_I (6 + x + 1) m i' j' = if m = 1 ∧ i' = 0 ∧ j' = x then 18 else hl_I (6 + x) m i' j' := by sorry
theorem hl_1g {g g' i j : Nat} (h : 34 ≤ g) (h' : 34 ≤ g') : hl_I g 1 i j = hl_I g' 1 i j := by sorry
theorem hl_w8 {a b : Nat} {v : Int32} (ha : a < 6) (hb : b < 6) (hv : v = if a = b then 0 else 3) (m i' j' : Nat) : hl_I (34 + 6 * a + b + 1) m i' j' = if m = 4 ∧ i' = a ∧ j' = b then v else hl_I (34 + 6 * a + b) m i' j' := by sorry
set_option maxHeartbeats 1000000 in
theorem sp_hall {n sn : Nat} {S : Nat → Nat × Nat × Nat} {R : Nat → Nat → Option qz_R} {I : Nat → Nat → Nat → Int32} {μ : qz_M} {c s : Nat} (hs : sn ≠ 0 ∧ sn < n) (hS : S sn = (1, 1, 0)) (h : d4 μ n S R I c s) :
    wz_call qf_115 [.inr (.inr (some (200, sn, 0)))] μ (fun μ' o => o = .inl none ∧ hl n sn S R I μ' 34 19 70 (c + 310) (s + 3647)) := by sorry
def hx_S (q : Nat) : Nat × Nat × Nat := if q = 0 then (1, 1, 0) else hl_s (q - 1)
def hx_R (n q j : Nat) : Option qz_R := if q = 0 then (if j < 19 then hl_F (n + 1) j else none) else hl_R (n + 1) (q - 1) j
def hx_I (q i j : Nat) : Int32 := if q = 0 then 0 else hl_I 70 (q - 1) i j
theorem d4_hall {μ : qz_M} {n : Nat} {S : Nat → Nat × Nat × Nat} {R : Nat → Nat → Option qz_R} {I : Nat → Nat → Nat → Int32} {c s : Nat} {P : qz_M → Prop} {E : qz_M → Nat → Prop} (h : d4 μ n S R I c s)
    (hS : ∀ q, q < 35 → S (n + q) = hx_S q) (hR : ∀ q, q < 35 → ∀ j, R (n + q) j = hx_R n q j) (hI : ∀ q, q < 35 → ∀ i j, I (n + q) i j = hx_I q i j) (h0 : n ≠ 0) (K : ∀ μ', d4 μ' (n + 35) S R I (c + 311) (s + 3666) → P μ') :
    wz_wr (qz_al μ 1 1 0 1 19) (fun μ5 => (bif Nat.beq (qz_tag μ5 (200, (qz_na μ), 0)) 1 && true then (wz_cV qf_115 [.inr (.inr (some (200, (qz_na μ), 0)))] μ5 P E) else False)) := by sorry
def mh_hb : List Nat := [2, 41, 77, 112, 147, 182, 217, 252, 287, 322, 358, 393, 432, 467, 502]
def mh_h (m : Nat) : Option Nat := mh_hb.find? (fun a => Nat.ble a m && Nat.blt m (a + 35))
def mh_s (L m : Nat) : Nat × Nat × Nat := match m with | 0 => (60, 1, L) | 1 => (4, 1, 0) | 37 => (0, 1, 0) | 38 => (50, 520, 8) | 39 => (53, 1, 520) | 40 => (50, 1, 520) | 76 => (54, 1, 8) | 357 => (54, 1, 2) | 428 => (52, 1, 2) | 429 => (3, 1, 0) | 430 => (50, 1, 120) | 431 => (54, 1, 3) | 537 => (50, 1, 7) | 538 => (50, 1, 24) | 539 => (50, 1, 1024) | 540 => (5, 1, 0) | 541 => (50, 1, 4400) | 542 => (50, 1, 8800) | 543 => (50, 1, 3) | 544 => (50, 1, 1152) | 545 => (50, 1, 48) | 546 => (52, 1, 1152) | 547 => (50, 1, 48) | 548 => (50, 1, 24) | 549 => (50, 1, 24) | 550 => (50, 1, 24) | 551 => (52, 1, 24) | 552 => (50, 1, 5) | 553 => (50, 1, 5) | 554 => (50, 1, 5) | 555 => (50, 1, 15) | 556 => (50, 1, 5) | 557 => (50, 1, 5) | 558 => (50, 1, 160) | 559 => (50, 1, 60) | 560 => (50, 1, 1024) | 561 => (50, 1, 4400) | 562 => (50, 1, 35200) | 563 => (50, 1, 512) | 564 => (50, 1, 256) | 565 => (50, 1, 8800) | 566 => (50, 1, 0) | 567 => (50, 1, 0) | 568 => (50, 1, 0) | 569 => (50, 1, 0) | 570 => (50, 1, 2) | 571 => (50, 1, 2) | 572 => (50, 1, 2) | 573 => (50, 1, 120) | 574 => (50, 1, 4) | 575 => (51, 1, 1) | _ => (0, 0, 0)
def mh_S (L m : Nat) : Nat × Nat × Nat := match mh_h m with | some a => hx_S (m - a) | none => mh_s L m
def mh_R (m j : Nat) : Option qz_R := match mh_h m with | some a => hx_R a (m - a) j | none => if m = 39 ∧ j < 520 then some (200, 38, j) else none
def mh_I (f : Nat → Int32) (m i j : Nat) : Int32 := match mh_h m with | some a => hx_I (m - a) i j | none => if m = 0 ∧ i = 0 then f j else 0
def nu (R : Nat → Nat → Option qz_R) (l : List (Nat × Nat × qz_R)) (m j : Nat) : Option qz_R := match l with
  | [] => R m j
  | x :: l => if m = x.1 ∧ j = x.2.1 then some x.2.2 else nu R l m j
theorem nu_off {R : Nat → Nat → Option qz_R} {n m j : Nat} (hm : n ≤ m) : ∀ {l : List (Nat × Nat × qz_R)}, (l.all (fun x => Nat.blt x.1 n)) = true → nu R l m j = R m j := by sorry
abbrev gd (L : Nat) (f : Nat → Int32) (μ : qz_M) (n : Nat) (l : List (Nat × Nat × qz_R)) (c s : Nat) : Prop := d4 μ n (mh_S L) (nu mh_R l) (mh_I f) c s
section GD
variable {L : Nat} {f : Nat → Int32} {μ : qz_M} {n c s : Nat} {l : List (Nat × Nat × qz_R)} {P : qz_M → Prop}
theorem mh_at {a q : Nat} (h : ((List.range 35).all (fun q => (mh_h (a + q) == some a))) = true) (hq : q < 35) : mh_h (a + q) = some a := by sorry
theorem gd_hall {E : qz_M → Nat → Prop} (h : gd L f μ n l c s) (hn : ((List.range 35).all (fun q => (mh_h (n + q) == some n))) = true) (hl : (l.all (fun x => Nat.blt x.1 n)) = true) (K : ∀ μ', gd L f μ' (n + 35) l (c + 311) (s + 3666) → P μ') (h0 : n ≠ 0 := by decide) :
    wz_wr (qz_al μ 1 1 0 1 19) (fun μ5 => (bif Nat.beq (qz_tag μ5 (200, (qz_na μ), 0)) 1 && true then (wz_cV qf_115 [.inr (.inr (some (200, (qz_na μ), 0)))] μ5 P E) else False)) := by sorry
theorem gd_put {sn t k x y : Nat} (h : gd L f μ n l c s) (hs : sn < n) (hS : mh_S L sn = (t, 1, 0)) (hx : x = y) (K : ∀ μ', gd L f μ' n ((sn, k, (200, y, 0)) :: l) c s → P μ') (h0 : sn ≠ 0 := by decide) :
    (bif (Nat.beq (qz_tag μ (200, sn, 0)) t && true) && (true && (true && qz_dy (200, sn, 0) k)) then wz_wr (qz_wR μ (200, sn, 0) k (some (200, x, 0))) P else False) := by sorry
theorem gd_al {t w : Nat} (h : gd L f μ n l c s) (hh : mh_h n = none) (h0 : n ≠ 0) (h39 : n ≠ 39) (hS : mh_s L n = (t, 1, w)) (C SS : Nat) (hl : (l.all (fun x => Nat.blt x.1 n)) = true) : gd L f (qz_al μ t 1 w C SS) (n + 1) l (c + C) (s + SS) := by sorry
theorem gd_row {sn t k t2 w : Nat} (h : gd L f μ n l c s) (hs : sn < n) (hS : mh_S L sn = (t2, 1, 0)) (hh : mh_h n = none) (h0 : n ≠ 0) (h39 : n ≠ 39) (hw : mh_s L n = (t, 1, w)) (hl : (l.all (fun x => Nat.blt x.1 n)) = true) (K : ∀ μ', gd L f μ' (n + 1) ((sn, k, (200, n, 0)) :: l) (c + 1) (s + w) → P μ') (hs0 : sn ≠ 0 := by decide) :
    wz_wr (qz_al μ t 1 w 1 w) (fun μ1 => (bif (Nat.beq (qz_tag μ1 (200, sn, 0)) t2 && true) && (true && (true && qz_dy (200, sn, 0) k)) then wz_wr (qz_wR μ1 (200, sn, 0) k (some (200, (qz_na μ), 0))) P else False)) := by sorry
theorem gd_int {sn t k : Nat} (h : gd L f μ n l c s) (hs : sn < n) (hS : mh_S L sn = (t, 1, 0)) (hI : mh_I f sn 0 k = 0) (K : ∀ μ', gd L f μ' n l c s → P μ') :
    (bif (Nat.beq (qz_tag μ (200, sn, 0)) t && true) && true then wz_wr (qz_wI μ (200, sn, 0) k (0 : Int32)) P else False) := by sorry
theorem gd_aput {A H a b w k : Nat} {x : Int32} (h : gd L f μ n l c s) (hA : A = a) (hH : H = b) (ha : a < n) (hb : b < n) (hSa : mh_S L a = (54, 1, w)) (hSb : mh_S L b = (1, 1, 0)) (hx : x = i3 k) (hk : k < w) (hw : w ≤ 2147483648) (K : ∀ μ', gd L f μ' n ((a, k, (200, b, 0)) :: l) c s → P μ') (ha0 : a ≠ 0 := by decide) :
    (bif Nat.beq (qz_tag μ (200, A, 0)) 54 && (Nat.beq (qz_tag μ (200, H, 0)) 1 && true) then (bif pz_out x (qz_len μ (200, A, 0)) then False else wz_wr (qz_wR μ (200, A, 0) k (some (200, H, 0))) P) else False) := by sorry
end GD
theorem gd_cs {L : Nat} {f : Nat → Int32} {μ : qz_M} {n c s c' s' : Nat} {l : List (Nat × Nat × qz_R)} (h : gd L f μ n l c s) (hc : c = c') (hs : s = s') : gd L f μ n l c' s' := by sorry
theorem gd_acts {L : Nat} {f : Nat → Int32} {μ : qz_M} {c s : Nat} {l : List (Nat × Nat × qz_R)} (h : gd L f μ 38 l c s) (hl : (l.all (fun x => Nat.blt x.1 38)) = true) : gd L f (qz_alr (qz_al μ 50 520 8 520 (520 * 8)) 53 1 520 1 520 (fun j => if j < 520 then some (200, qz_na μ, j) else none)) 40 l (c + 520 + 1) (s + 520 * 8 + 520) := by sorry
set_option maxHeartbeats 4000000 in
theorem sp_deeds {L : Nat} {f : Nat → Int32} {μ : qz_M} {c s : Nat} {l : List (Nat × Nat × qz_R)} (h : gd L f μ 38 l c s) (hl : (l.all (fun x => Nat.blt x.1 38)) = true) : wz_call qf_82 [.inr (.inr (some (200, 37, 0)))] μ (fun μ' o => o = .inl none ∧ gd L f μ' 429 ((37, 5, (200, 428, 0)) :: (37, 4, (200, 357, 0)) :: (357, 1, (200, 393, 0)) :: (357, 0, (200, 358, 0)) :: (37, 3, (200, 76, 0)) :: (76, 7, (200, 322, 0)) :: (76, 6, (200, 287, 0)) :: (76, 5, (200, 252, 0)) :: (76, 4, (200, 217, 0)) :: (76, 3, (200, 182, 0)) :: (76, 2, (200, 147, 0)) :: (76, 1, (200, 112, 0)) :: (76, 0, (200, 77, 0)) :: (37, 2, (200, 41, 0)) :: (37, 1, (200, 40, 0)) :: (37, 0, (200, 39, 0)) :: l) (c + 3946) (s + 45538)) := by sorry
theorem sp_slate {L : Nat} {f : Nat → Int32} {μ : qz_M} {c s : Nat} {l : List (Nat × Nat × qz_R)} (h : gd L f μ 430 l c s) (hl : (l.all (fun x => Nat.blt x.1 430)) = true) : wz_call qf_153 [.inr (.inr (some (200, 429, 0)))] μ (fun μ' o => o = .inl none ∧ gd L f μ' 431 ((429, 0, (200, 430, 0)) :: l) (c + 1) (s + 120)) := by sorry
def mh_l : List (Nat × Nat × qz_R) := (1, 6, (200, 539, 0)) :: (1, 5, (200, 538, 0)) :: (1, 4, (200, 537, 0)) :: (1, 3, (200, 431, 0)) :: (431, 2, (200, 502, 0)) :: (431, 1, (200, 467, 0)) :: (431, 0, (200, 432, 0)) :: (1, 2, (200, 429, 0)) :: (429, 0, (200, 430, 0)) :: (1, 1, (200, 37, 0)) :: (37, 5, (200, 428, 0)) :: (37, 4, (200, 357, 0)) :: (357, 1, (200, 393, 0)) :: (357, 0, (200, 358, 0)) :: (37, 3, (200, 76, 0)) :: (76, 7, (200, 322, 0)) :: (76, 6, (200, 287, 0)) :: (76, 5, (200, 252, 0)) :: (76, 4, (200, 217, 0)) :: (76, 3, (200, 182, 0)) :: (76, 2, (200, 147, 0)) :: (76, 1, (200, 112, 0)) :: (76, 0, (200, 77, 0)) :: (37, 2, (200, 41, 0)) :: (37, 1, (200, 40, 0)) :: (37, 0, (200, 39, 0)) :: (1, 0, (200, 2, 0)) :: []
set_option maxHeartbeats 4000000 in
theorem sp_mh {L : Nat} {f : Nat → Int32} {μ : qz_M} {c s : Nat} (h : gd L f μ 2 [] c s) : wz_call qf_210 [.inr (.inr (some (200, 1, 0)))] μ (fun μ' o => o = .inl none ∧ gd L f μ' 540 mh_l (c + 5197) (s + 61391)) := by sorry
abbrev ge (L : Nat) (f w : Nat → Int32) (μ : qz_M) (n : Nat) (l : List (Nat × Nat × qz_R)) (c s : Nat) : Prop := d4 μ n (mh_S L) (nu mh_R l) (fun m i j => if m = 541 ∧ i = 0 then w j else mh_I f m i j) c s
section GE
variable {L : Nat} {f w w' : Nat → Int32} {μ : qz_M} {n c s : Nat} {l : List (Nat × Nat × qz_R)} {P : qz_M → Prop}
theorem ge_0 (h : gd L f μ n l c s) : ge L f (fun _ => 0) μ n l c s := by sorry
theorem ge_to (h : ge L f w μ n l c s) (e : ∀ j, w j = w' j) : ge L f w' μ n l c s := by sorry
theorem ge_t (h : ge L f w μ n l c s) (hn : 541 < n) : (Nat.beq (qz_tag μ (200, 540, 0)) 5 && true) = true := by sorry
theorem ge_s {X v : Int32} {x : Nat} (h : ge L f w μ n l c s) (hn : 541 < n) (hl : nu mh_R l 540 0 = some (200, 541, 0)) (hX : X = i3 x) (hx : x < 4400) (K : ∀ μ', ge L f (fun j => if j = x then v else w j) μ' n l c s → P μ') (y : Nat) (hy : y = x) :
    (bif Nat.beq (qz_tag μ (200, 540, 0)) 5 && true then (wz_rk (qz_rm μ 200 540 0 0) (fun r1 => (bif Nat.beq (qz_tag μ r1) 50 then (bif pz_out X (qz_len μ r1) then False else (wz_wr (qz_wI μ r1 y v) P)) else False))) else False) := by sorry
def ge_r (w : Nat → Int32) (b i : Nat) (v : Int32) : Nat → Int32 := fun j => if b ≤ j ∧ j < b + i then v else w j
theorem ge_r0 {b : Nat} {v : Int32} (j : Nat) : w j = ge_r w b 0 v j := by sorry
theorem ge_rs {b i : Nat} {v : Int32} (j : Nat) : (if j = b + i then v else ge_r w b i v j) = ge_r w b (i + 1) v j := by sorry
theorem sp_x462 (h : ge L f w μ n l c s) (hn : 541 < n) (hl : nu mh_R l 540 0 = some (200, 541, 0)) : wz_call qf_462 [.inr (.inr (some (200, 540, 0)))] μ (fun μ' o => o = .inl none ∧ ge L f (ge_r w 1300 28 18) μ' n l c s) := by sorry
theorem sp_x509 (h : ge L f w μ n l c s) (hn : 541 < n) (hl : nu mh_R l 540 0 = some (200, 541, 0)) : wz_call qf_509 [.inr (.inr (some (200, 540, 0)))] μ (fun μ' o => o = .inl none ∧ ge L f (fun j => if j = 3201 then 2 else ge_r w 3210 36 3 j) μ' n l c s) := by sorry
end GE
def mo_s : Nat → Int32 := fun j => if j = 3813 then 2500 else if j = 3812 then 400 else if j = 3811 then 120 else if j = 3810 then 50 else if j = 3500 then 0 else if j = 3201 then 2 else ge_r (fun j => if j = 1401 then 0 else if j = 1400 then 0 else ge_r (fun j => if j = 100 then 0 else 0) 1300 28 18 j) 3210 36 3 j
theorem sp_x290 {L : Nat} {f : Nat → Int32} {μ : qz_M} {n c s : Nat} {l : List (Nat × Nat × qz_R)} (h : gd L f μ n l c s) (hn : 541 < n) (hl : nu mh_R l 540 0 = some (200, 541, 0)) : wz_call qf_290 [.inr (.inr (some (200, 540, 0)))] μ (fun μ' o => o = .inl none ∧ ge L f mo_s μ' n l c s) := by sorry
def mo_l : List (Nat × Nat × qz_R) := (540, 51, (200, 574, 0)) :: (540, 48, (200, 573, 0)) :: (540, 47, (200, 572, 0)) :: (540, 46, (200, 571, 0)) :: (540, 45, (200, 570, 0)) :: (540, 44, (200, 569, 0)) :: (540, 43, (200, 568, 0)) :: (540, 42, (200, 567, 0)) :: (540, 41, (200, 566, 0)) :: (540, 40, (200, 565, 0)) :: (540, 38, (200, 564, 0)) :: (540, 36, (200, 563, 0)) :: (540, 33, (200, 562, 0)) :: (540, 30, (200, 561, 0)) :: (540, 29, (200, 560, 0)) :: (540, 27, (200, 559, 0)) :: (540, 26, (200, 558, 0)) :: (540, 23, (200, 557, 0)) :: (540, 22, (200, 556, 0)) :: (540, 19, (200, 555, 0)) :: (540, 18, (200, 554, 0)) :: (540, 17, (200, 553, 0)) :: (540, 16, (200, 552, 0)) :: (540, 15, (200, 551, 0)) :: (540, 14, (200, 550, 0)) :: (540, 13, (200, 549, 0)) :: (540, 12, (200, 548, 0)) :: (540, 11, (200, 547, 0)) :: (540, 10, (200, 546, 0)) :: (540, 9, (200, 545, 0)) :: (540, 8, (200, 544, 0)) :: (540, 4, (200, 543, 0)) :: (540, 1, (200, 542, 0)) :: (540, 0, (200, 541, 0)) :: mh_l
set_option maxHeartbeats 4000000 in
theorem sp_mo {L : Nat} {f : Nat → Int32} {μ : qz_M} {c s : Nat} (h : gd L f μ 541 mh_l c s) : wz_call qf_376 [.inr (.inr (some (200, 540, 0)))] μ (fun μ' o => o = .inl none ∧ ge L f mo_s μ' 575 mo_l (c + 34) (s + 66281)) := by sorry
set_option maxRecDepth 10000 in
theorem fl_law0 (μ : qz_M) (k : wz_K) (R : wz_R)
    (h : wz_wr (qz_al μ 4 1 0 1 7) (fun μ1 => (bif Nat.beq (qz_tag μ1 (200, qz_na μ, 0)) 4 && true then (wz_cV qf_210 [.inr (.inr (some (200, qz_na μ, 0)))] μ1 (fun μ2 => wz_wr (qz_al μ2 5 1 0 1 52) (fun μ3 => (bif Nat.beq (qz_tag μ3 (200, qz_na μ2, 0)) 5 && true then (wz_cV qf_376 [.inr (.inr (some (200, qz_na μ2, 0)))] μ3 (fun μ4 => wz_wr (qz_al μ4 51 1 1 1 1) (fun μ5 => k 0 ([some (.inr (.inr (some (200, 0, 0)))), some (.inr (.inr (some (200, qz_na μ, 0)))), some (.inr (.inr (some (200, qz_na μ2, 0)))), some (.inr (.inr (some (200, qz_na μ4, 0)))), some (.inl (0 : Int32)), none, none, none], [], μ5))) (fun μ4 e => False)) else False))) (fun μ2 e => False)) else False))) :
    gw_law0 k R ([some (.inr (.inr (some (200, 0, 0)))), none, none, none, none, none, none, none], [], μ) := by sorry
theorem sp_law0 {L : Nat} {f : Nat → Int32} {μ : qz_M} {c s : Nat} (h : gd L f μ 1 [] c s) : ∃ μ', qf_law0 ([some (.inr (.inr (some (200, 0, 0)))), none, none, none, none, none, none, none], [], μ) = some (.inl (0, [some (.inr (.inr (some (200, 0, 0)))), some (.inr (.inr (some (200, 1, 0)))), some (.inr (.inr (some (200, 540, 0)))), some (.inr (.inr (some (200, 575, 0)))), some (.inl (0 : Int32)), none, none, none], [], μ')) ∧ ge L f mo_s μ' 576 mo_l (c + 5234) (s + 127732) := by sorry
def lk_0 (j : Nat) : Option qz_R := match j with | 36 => some (102, 0, 0) | 38 => some (103, 0, 0) | 41 => some (105, 0, 0) | 42 => some (106, 0, 0) | 43 => some (107, 0, 0) | 44 => some (108, 0, 0) | _ => none
def lk_rf (k b j : Nat) : Option qz_R := bif qz_dy (k, b, 0) j then lk_0 j else qz_st k b j
def lk_ok (r : qz_R) : Bool := !Nat.beq r.1 200 && (Nat.blt r.2.1 (qz_nbs.getD r.1 0) && Nat.blt r.2.2 (qz_cts.getD r.1 0))
def lk_1 (k b : Nat) : Bool := Nat.ble 3 (qz_fm k b) && (Nat.blt (qz_fm k b) 578 && decide (mh_S 0 (qz_fm k b - 2) = (qz_tgs.getD k 255, qz_cts.getD k 0, qz_lns.getD k 0)))
def lk_2 (k b j : Nat) : Bool := match nu mh_R mo_l (qz_fm k b - 2) j, lk_rf k b j with
  | none, none => true
  | some x, some y => (decide (qz_cr false x = qz_cr true y)) && lk_ok y
  | _, _ => false
theorem lk_c1 : ((List.range 114).all (fun k => (List.range (qz_nbs.getD k 0)).all (fun b => lk_1 k b))) = true := by sorry
theorem lk_c2 : ((List.range 114).all (fun k => (List.range (qz_nbs.getD k 0)).all (fun b => (List.range (qz_nrs.getD k 0)).all (fun j => lk_2 k b j)))) = true := by sorry
theorem lk_3 : ((List.range 114).all (fun k => (Nat.beq (qz_nrs.getD k 0) 0 || Nat.beq (qz_cts.getD k 0) 1))) = true := by sorry
def lk_m (μ : qz_M) : qz_M := ((fun k b i j => if k = 200 then qz_im μ 200 0 i j else qz_im μ 200 (qz_fm k b - 2) i j), (fun k b i j => if k = 200 then qz_lm μ 200 0 i j else qz_lm μ 200 (qz_fm k b - 2) i j), (fun k _ _ j => if k = 200 then none else lk_0 j), qz_dn μ, 1, qz_kc μ, qz_ks μ)
theorem lk_S {L m : Nat} (h : m ≠ 0) : mh_S L m = mh_S 0 m := by sorry
theorem lk_a1 {k b : Nat} (h : b < qz_nbs.getD k 0) : k < 114 ∧ lk_1 k b = true := by sorry
theorem lk_a2 {k b j : Nat} (h : b < qz_nbs.getD k 0) (hj : j < qz_nrs.getD k 0) : lk_2 k b j = true := by sorry
theorem lk_cr {k b i : Nat} (hk : k ≠ 200) (h : 3 ≤ qz_fm k b) : qz_cr true (k, b, i) = qz_cr false (200, qz_fm k b - 2, i) := by sorry
theorem lk_rel {L : Nat} {f : Nat → Int32} {μ : qz_M} {σ : pz_S} {c s : Nat} (R : qz_Rel false μ σ) (h : ge L f mo_s μ 576 mo_l c s) : qz_Rel true (lk_m μ) σ := by sorry
def lk_s0 (L : Nat) (xs : Nat → Int32) : pz_S := (3, fun f => if f = 0 then (60, 1, L) else (0, 0, 0), fun _ _ _ => none, fun f i => if f = 0 ∧ i = 0 then xs else fun _ => 0, fun _ _ _ => 0, 0, 0)
def lk_u (L : Nat) (xs : Nat → Int32) : qz_M := (fun k b i j => if k = 200 ∧ b = 0 ∧ i = 0 then xs j else 0, fun _ _ _ _ => 0, fun _ _ _ _ => none, fun n => if n = 0 then (60, 1, L) else (0, 0, 0), 1, 0, 0)
theorem lk_e (xs : Nat → Int32) (i j : Nat) : (if 0 = 0 ∧ i = 0 then xs else fun _ => 0) j = if 200 = 200 ∧ 0 = 0 ∧ i = 0 then xs j else 0 := by sorry
theorem lk_r0 (L : Nat) (xs : Nat → Int32) : qz_Rel false (lk_u L xs) (lk_s0 L xs) := by sorry
theorem lk_g0 (L : Nat) (xs : Nat → Int32) : gd L xs (lk_u L xs) 1 [] 0 0 := by sorry
def lk_L (i : Int32) : qz_L := [some (.inr (.inr (some (200, 0, 0)))), some (.inr (.inr (some (0, 0, 0)))), some (.inr (.inr (some (1, 0, 0)))), some (.inr (.inr (some (71, 0, 0)))), some (.inl i), none, none, none]
