abbrev qz_Z : Type := Nat → Int → Int → Int → Int
abbrev qz_N : Type := (Nat → Nat → Nat → Nat → Int64) × (Nat → Nat → Nat → Nat → Option qz_R) × (Nat → Nat × Nat × Nat) × Nat × Nat × Nat
def zm (Z : qz_Z) (ν : qz_N) : qz_M := (fun k b i j => i3 (Z k b i j), ν)
def zu (Z : qz_Z) (k : Nat) (b i j v : Int) : qz_Z := fun k' b' i' j' => if k' = k ∧ b' = b ∧ i' = i ∧ j' = j then v else Z k' b' i' j'
def zlet {α β : Type} (v : α) (k : α → β) : β := k v
def w3 (x : Int) : Int := (i3 x).toInt
theorem w3_e (x : Int) : i3 x = i3 (w3 x) := by sorry
theorem w3_r (x : Int) : -2147483648 ≤ w3 x ∧ w3 x ≤ 2147483647 := by sorry
theorem w3_id {x : Int} (h : -2147483648 ≤ x) (h2 : x ≤ 2147483647) : w3 x = x := by sorry
def zE {α : Type} (a b : α) : Prop := a = b
def zlet2 {α β γ : Type} (v : α × β) (k : α → β → γ) : γ := k v.1 v.2
def zlet3 {α β γ δ : Type} (v : α × β × γ) (k : α → β → γ → δ) : δ := k v.1 v.2.1 v.2.2
def zlet4 {α β γ δ ε : Type} (v : α × β × γ × δ) (k : α → β → γ → δ → ε) : ε := k v.1 v.2.1 v.2.2.1 v.2.2.2
def zlet5 {α β γ δ ε ζ : Type} (v : α × β × γ × δ × ε) (k : α → β → γ → δ → ε → ζ) : ζ := k v.1 v.2.1 v.2.2.1 v.2.2.2.1 v.2.2.2.2
def zsum {α β γ : Type} (t : α ⊕ β) (f : α → γ) (g : β → γ) : γ := match t with | .inl a => f a | .inr b => g b
theorem zl_e {α β : Type} {v : α} {k : α → β} {P : β} {p : α} (h : zE P (zlet v k)) (e : p = v) : zE P (k p) := by sorry
theorem zl_e2 {α β γ : Type} {v : α × β} {k : α → β → γ} {P : γ} {a : α} {b : β} (h : zE P (zlet2 v k)) (e : (a, b) = v) : zE P (k a b) := by sorry
theorem zl_e3 {α β γ δ : Type} {v : α × β × γ} {k : α → β → γ → δ} {P : δ} {a : α} {b : β} {c : γ} (h : zE P (zlet3 v k)) (e : (a, b, c) = v) : zE P (k a b c) := by sorry
theorem zl_e4 {α β γ δ ε : Type} {v : α × β × γ × δ} {k : α → β → γ → δ → ε} {P : ε} {a : α} {b : β} {c : γ} {d : δ} (h : zE P (zlet4 v k)) (e : (a, b, c, d) = v) : zE P (k a b c d) := by sorry
theorem zl_e5 {α β γ δ ε ζ : Type} {v : α × β × γ × δ × ε} {k : α → β → γ → δ → ε → ζ} {P : ζ} {a : α} {b : β} {c : γ} {d : δ} {f : ε} (h : zE P (zlet5 v k)) (e : (a, b, c, d, f) = v) : zE P (k a b c d f) := by sorry
theorem zl_sr {α β γ : Type} {t : α ⊕ β} {f : α → γ} {g : β → γ} {P : γ} {b : β} (h : zE P (zsum t f g)) (e : (.inr b : α ⊕ β) = t) : zE P (g b) := by sorry
theorem zl_sl {α β γ : Type} {t : α ⊕ β} {f : α → γ} {g : β → γ} {P : γ} {b : α} (h : zE P (zsum t f g)) (e : (.inl b : α ⊕ β) = t) : zE P (f b) := by sorry
theorem zE_p {α : Type} {c : Prop} [Decidable c] {a b P : α} (h : zE P (if c then a else b)) (hc : c) : zE P a := by sorry
theorem zE_n {α : Type} {c : Prop} [Decidable c] {a b P : α} (h : zE P (if c then a else b)) (hc : ¬ c) : zE P b := by sorry
theorem zx {α : Type} (v : α) : ∃ p, p = v := by sorry
theorem zm_rd {Z : qz_Z} {ν : qz_N} {k b i j : Nat} {b' i' j' : Int} (hb : (b : Int) = b') (hi : (i : Int) = i') (hj : (j : Int) = j') : qz_im (zm Z ν) k b i j = i3 (Z k b' i' j') := by sorry
theorem zm_wI {Z Z1 : qz_Z} {ν : qz_N} {k b i j : Nat} {b' i' j' : Int} {v : Int32} {e : Int} (hz : Z1 = zu Z k b' i' j' e) (hb : (b : Int) = b') (hi : (i : Int) = i') (hj : (j : Int) = j') (hv : v = i3 e) : qz_wI (zm Z ν) (k, b, i) j v = zm Z1 ν := by sorry
theorem zu_at {Z Z1 : qz_Z} {k : Nat} {b i j v : Int} (h : Z1 = zu Z k b i j v) : Z1 k b i j = v := by sorry
theorem zu_ne {Z Z1 : qz_Z} {k k' : Nat} {b i j v b' i' j' : Int} (h : Z1 = zu Z k b i j v) (hn : ¬ (k' = k ∧ b' = b ∧ i' = i ∧ j' = j)) : Z1 k' b' i' j' = Z k' b' i' j' := by sorry
section I3
variable {a b c d : Int32} {x y z w : Int}
theorem i3A (p : a = i3 x) (q : b = i3 y) : a + b = i3 (x + y) := by sorry
theorem i3S (p : a = i3 x) (q : b = i3 y) : a - b = i3 (x - y) := by sorry
theorem i3M (p : a = i3 x) (q : b = i3 y) : a * b = i3 (x * y) := by sorry
theorem i3G (p : a = i3 x) : -a = i3 (-x) := by sorry
theorem i3W (p : a = i3 x) : a = i3 (w3 x) := by sorry
theorem i3C (p : a = i3 x) (h : x = y) : a = i3 y := by sorry
theorem i3D (p : a = i3 x) (q : b = i3 y) (h1 : 0 ≤ x) (h2 : x ≤ 2147483647) (h3 : 0 < y) (h4 : y ≤ 2147483647) : a / b = i3 (x / y) := by sorry
theorem i3R (p : a = i3 x) (q : b = i3 y) (h1 : 0 ≤ x) (h2 : x ≤ 2147483647) (h3 : 0 < y) (h4 : y ≤ 2147483647) : a - a / b * b = i3 (x % y) := by sorry
def z2 (f : Int32 → Int32 → Int32) (x y : Int) : Int := (f (i3 x) (i3 y)).toInt
theorem i3Z (f : Int32 → Int32 → Int32) (p : a = i3 x) (q : b = i3 y) : f a b = i3 (z2 f x y) := by sorry
theorem z2_r (f : Int32 → Int32 → Int32) (x y : Int) : -2147483648 ≤ z2 f x y ∧ z2 f x y ≤ 2147483647 := by sorry
theorem i3Mx (p : a = i3 x) (q : b = i3 y) (h1 : -2147483648 ≤ x) (h2 : x ≤ 2147483647) (h3 : -2147483648 ≤ y) (h4 : y ≤ 2147483647) : (if a < b then b else a) = i3 (max x y) := by sorry
theorem i3Mn (p : a = i3 x) (q : b = i3 y) (h1 : -2147483648 ≤ x) (h2 : x ≤ 2147483647) (h3 : -2147483648 ≤ y) (h4 : y ≤ 2147483647) : (if a < b then a else b) = i3 (min x y) := by sorry
theorem i3E (p : a = i3 x) (q : b = i3 y) (h1 : -2147483648 ≤ x) (h2 : x ≤ 2147483647) (h3 : -2147483648 ≤ y) (h4 : y ≤ 2147483647) : decide (a = b) = decide (x = y) := by sorry
theorem i3NE (p : a = i3 x) (q : b = i3 y) (h1 : -2147483648 ≤ x) (h2 : x ≤ 2147483647) (h3 : -2147483648 ≤ y) (h4 : y ≤ 2147483647) : (!decide (a = b)) = decide (x ≠ y) := by sorry
theorem i3L (p : a = i3 x) (q : b = i3 y) (h1 : -2147483648 ≤ x) (h2 : x ≤ 2147483647) (h3 : -2147483648 ≤ y) (h4 : y ≤ 2147483647) : decide (a < b) = decide (x < y) := by sorry
theorem i3Le (p : a = i3 x) (q : b = i3 y) (h1 : -2147483648 ≤ x) (h2 : x ≤ 2147483647) (h3 : -2147483648 ≤ y) (h4 : y ≤ 2147483647) : decide (a ≤ b) = decide (x ≤ y) := by sorry
theorem i3T {n : Int} (p : a = i3 x) (h1 : -2147483648 ≤ x) (h2 : x ≤ 2147483647) : decide (a.toInt = n) = decide (x = n) := by sorry
theorem i3To {l h : Int} (p : a = i3 x) (h1 : -2147483648 ≤ x) (h2 : x ≤ 2147483647) : (decide (a.toInt < l) || decide (h < a.toInt)) = decide (x < l ∨ h < x) := by sorry
theorem i3O {n : Nat} (p : a = i3 x) (h0 : 0 ≤ x) (h1 : x < (n : Int)) (hn : n ≤ 2147483648) : pz_out a n = false := by sorry
theorem i3I (p : a = i3 x) (h : x = y) (h0 : 0 ≤ x) (h1 : x ≤ 2147483647) : ((a.toNatClampNeg : Nat) : Int) = y := by sorry
theorem i3B (p : a = i3 x) (h : 0 ≤ x ∧ x ≤ 1) : (decide (a = 0) || decide (a = 1)) = true := by sorry
theorem i3N0 (p : a = i3 x) (h0 : 0 < x ∨ x < 0) (h1 : -2147483648 ≤ x) (h2 : x ≤ 2147483647) : decide (a = 0) = false := by sorry
end I3
theorem z_mod (x : Int) {y : Int} (h : 0 < y) : 0 ≤ x % y ∧ x % y < y := by sorry
theorem z_div {x y : Int} (h0 : 0 ≤ x) (h : 0 < y) : 0 ≤ x / y ∧ x / y ≤ x := by sorry
theorem z_mul {x y a b : Int} (h0 : 0 ≤ x) (h1 : x ≤ a) (h2 : 0 ≤ y) (h3 : y ≤ b) : 0 ≤ x * y ∧ x * y ≤ a * b := by sorry
theorem wz_br {c : Bool} {p : Prop} [Decidable p] {A B : Prop} (e : c = decide p) (h1 : p → A) (h2 : ¬ p → B) : (bif c then A else B) := by sorry
theorem zo (v : Int32) (e : Int) (p : v = i3 e) : ((.inl (some (.inl v)) : qz_Oc)) = .inl (some (.inl (i3 e))) := by sorry
theorem zcons {v w : qz_V} {l m : List qz_V} (h : v = w) (g : l = m) : v :: l = w :: m := by sorry
theorem zconso {v w : Option qz_V} {l m : qz_L} (h : v = w) (g : l = m) : v :: l = w :: m := by sorry
theorem zvi {v : Int32} {e : Int} (p : v = i3 e) : (.inl v : qz_V) = .inl (i3 e) := by sorry
theorem zvo {v : Int32} {e : Int} (p : v = i3 e) : (some (.inl v) : Option qz_V) = some (.inl (i3 e)) := by sorry
theorem zas {f : qz_Fn} {as bs : List qz_V} {μ : qz_M} {r : Option (qz_M × qz_Oc)} (h : as = bs) (e : f bs μ = r) : f as μ = r := by sorry
def zpR (Q : Int → Prop) (Z : qz_Z) (ν : qz_N) (P : Int) : wz_R := fun μ2 o2 => (μ2 = zm Z ν ∧ o2 = .inl (some (.inl (i3 P)))) ∧ Q P
def zpW (Q : qz_Z → Int → Prop) (ν : qz_N) (P : qz_Z × Int) : wz_R := fun μ2 o2 => (μ2 = zm P.1 ν ∧ o2 = .inl (some (.inl (i3 P.2)))) ∧ Q P.1 P.2
def zpV (Q : qz_Z → Prop) (ν : qz_N) (P : qz_Z) : wz_R := fun μ2 o2 => (μ2 = zm P ν ∧ o2 = .inl none) ∧ Q P
section ZC
variable {f : qz_Fn} {as : List qz_V} {μ : qz_M} {Z : qz_Z} {ν : qz_N}
theorem zc_R {Q : Int → Prop} {P P0 : Int} (hP : P = P0) (h : wz_call f as μ (zpR Q Z ν P)) : ∃ P : Int, P = P0 ∧ (f as μ = some (zm Z ν, .inl (some (.inl (i3 P)))) ∧ Q P) := by sorry
theorem zc_W {Q : qz_Z → Int → Prop} {P P0 : qz_Z × Int} (hP : P = P0) (h : wz_call f as μ (zpW Q ν P)) : ∃ (Z1 : qz_Z) (P : Int), (Z1, P) = P0 ∧ (f as μ = some (zm Z1 ν, .inl (some (.inl (i3 P)))) ∧ Q Z1 P) := by sorry
theorem zc_V {Q : qz_Z → Prop} {P P0 : qz_Z} (hP : P = P0) (h : wz_call f as μ (zpV Q ν P)) : ∃ P : qz_Z, P = P0 ∧ (f as μ = some (zm P ν, .inl none) ∧ Q P) := by sorry
theorem zlR {Q : Int → Prop} {P e : Int} {v : Int32} (hP : zE P e) (p : v = i3 e) (h : Q e) : zpR Q Z ν P (zm Z ν) (.inl (some (.inl v))) := by sorry
theorem zlW {Q : qz_Z → Int → Prop} {P : qz_Z × Int} {e : Int} {v : Int32} (hP : zE P (Z, e)) (p : v = i3 e) (h : Q Z e) : zpW Q ν P (zm Z ν) (.inl (some (.inl v))) := by sorry
theorem zlV {Q : qz_Z → Prop} {P : qz_Z} (hP : zE P Z) (h : Q Z) : zpV Q ν P (zm Z ν) (.inl none) := by sorry
end ZC
theorem wz_rko {o : Option qz_R} {r : qz_R} {k : qz_R → Prop} (e : o = some r) (h : k r) : wz_rk o k := by sorry
theorem z2_1 (x : Int) : 0 ≤ z2 (fun x y => x &&& y) x 1 ∧ z2 (fun x y => x &&& y) x 1 ≤ 1 := by sorry
theorem wz_k1 {k : wz_K} {I : qz_X → Prop} {x : qz_X} (h : I x) : wz_lk k I 1 x := by sorry
theorem wz_kb0 {k : wz_K} {x : qz_X} (h : k 0 x) : wz_kb k 0 x := by sorry
theorem wz_kbs {k : wz_K} {n : Nat} {x : qz_X} (h : k n x) : wz_kb k (n + 1) x := by sorry
def zK (ws : List Nat) (Z0 Z : qz_Z) : Prop := ∀ k, ws.contains k = false → ∀ b i j, Z k b i j = Z0 k b i j
theorem zK_r {ws : List Nat} {Z : qz_Z} : zK ws Z Z := by sorry
theorem zK_u {ws : List Nat} {Z0 Z Z1 : qz_Z} {k : Nat} {b i j v : Int} (h : zK ws Z0 Z) (hz : Z1 = zu Z k b i j v) (hk : ws.contains k = true) : zK ws Z0 Z1 := by sorry
theorem zK_t {ws vs : List Nat} {Z0 Z Z1 : qz_Z} (h : zK ws Z0 Z) (g : zK vs Z Z1) (hs : vs.all (fun k => ws.contains k) = true) : zK ws Z0 Z1 := by sorry
theorem zK_w {ws vs : List Nat} {Z0 Z : qz_Z} (h : zK vs Z0 Z) (hs : vs.all (fun k => ws.contains k) = true) : zK ws Z0 Z := by sorry
theorem zn_add {n m : Nat} {y : Int} (h : (m : Int) = y) : ((n + m : Nat) : Int) = n + y := by sorry
theorem wz_lk0 {k : wz_K} {I : qz_X → Prop} {x : qz_X} (h : k 0 x) : wz_lk k I 0 x := by sorry
theorem wz_sk0 {G : wz_W} {k : wz_K} {R : wz_R} {x : qz_X} (h : G k R x) : wz_sk G k R 0 x := by sorry
def nkk (ν : qz_N) (c s : Nat) : qz_N := (ν.1, ν.2.1, ν.2.2.1, ν.2.2.2.1, ν.2.2.2.2.1 + c, ν.2.2.2.2.2 + s)
def zN (ν ν1 : qz_N) : Prop := (∀ k b i j, k ≠ 200 → ν1.1 k b i j = ν.1 k b i j) ∧ (∀ k b i j, k ≠ 200 → ν1.2.1 k b i j = ν.2.1 k b i j) ∧ (∀ n, n < ν.2.2.2.1 → ν1.2.2.1 n = ν.2.2.1 n) ∧ ν.2.2.2.1 ≤ ν1.2.2.2.1 ∧ ν1.2.2.2.2.1 ≤ ν.2.2.2.2.1 + 10000 ∧ ν1.2.2.2.2.2 ≤ ν.2.2.2.2.2 + 1000000
theorem zN_r {ν : qz_N} : zN ν ν := by sorry
theorem zN_k {ν ν1 : qz_N} (h : ν1 = ν) : zN ν (nkk ν1 1 6) := by sorry
def zoX (v E : Int) : qz_Oc := if E = 0 then .inl (some (.inl (i3 v))) else .inr E.toNat
def zpX (Q : qz_Z → qz_N → Prop) (P : Int × Int) : wz_R := fun μ2 o2 => ∃ Z1 ν1, μ2 = zm Z1 ν1 ∧ o2 = zoX P.1 P.2 ∧ Q Z1 ν1
def zpM (Q : qz_Z → qz_N → Prop) (P : Int × Int) : wz_R := fun μ2 o2 => ∃ Z1 ν1, μ2 = zm Z1 ν1 ∧ o2 = .inl (some (.inl (i3 P.1))) ∧ Z1 1 0 0 2 = P.2 ∧ Q Z1 ν1
section ZX
variable {f : qz_Fn} {as : List qz_V} {μ : qz_M} {Z : qz_Z} {ν : qz_N} {Q : qz_Z → qz_N → Prop} {P P0 : Int × Int}
theorem zc_X (hP : P = P0) (h : wz_call f as μ (zpX Q P)) : ∃ (Z1 : qz_Z) (ν1 : qz_N) (v E : Int), (v, E) = P0 ∧ f as μ = some (zm Z1 ν1, zoX v E) ∧ Q Z1 ν1 := by sorry
theorem zc_M (hP : P = P0) (h : wz_call f as μ (zpM Q P)) : ∃ (Z1 : qz_Z) (ν1 : qz_N) (v t : Int), (v, t) = P0 ∧ f as μ = some (zm Z1 ν1, .inl (some (.inl (i3 v)))) ∧ Z1 1 0 0 2 = t ∧ Q Z1 ν1 := by sorry
theorem zlX {e : Int} {v : Int32} (hP : zE P (e, 0)) (p : v = i3 e) (h : Q Z ν) : zpX Q P (zm Z ν) (.inl (some (.inl v))) := by sorry
theorem zlXe {E : Nat} (hP : zE P (0, ((E + 1 : Nat) : Int))) (h : Q Z (nkk ν 1 6)) : zpX Q P (qz_kk (zm Z ν) 1 6) (.inr (E + 1)) := by sorry
theorem zlM {e t : Int} {v : Int32} (hP : zE P (e, t)) (p : v = i3 e) (ht : Z 1 0 0 2 = t) (h : Q Z ν) : zpM Q P (zm Z ν) (.inl (some (.inl v))) := by sorry
end ZX
