/-! WHAT HALLS ARE WRITTEN; the LOTS of a hall that stand in a row. -/
def zU (hs : List Int) (Z0 Z : qz_Z) : Prop := ∀ k (b i j : Int), zhall k = true → b ∉ hs → Z k b i j = Z0 k b i j
theorem zU_r {hs : List Int} {Z : qz_Z} : zU hs Z Z := fun _ _ _ _ _ _ => rfl
theorem zU_b0 {hs : List Int} : ∀ x ∈ ([] : List Int), x ∈ hs := fun _ h => absurd h List.not_mem_nil
theorem zU_b1 {hs gs : List Int} {x : Int} (h : x ∈ hs) (g : ∀ y ∈ gs, y ∈ hs) : ∀ y ∈ x :: gs, y ∈ hs := List.forall_mem_cons.mpr ⟨h, g⟩
theorem zU_u {hs : List Int} {Z0 Z Z1 : qz_Z} {k : Nat} {b i j v : Int} (h : zU hs Z0 Z) (hz : Z1 = zu Z k b i j v) (hb : zhall k = false ∨ b ∈ hs) : zU hs Z0 Z1 := fun k' b' i' j' hk hn => by
  rw [← h k' b' i' j' hk hn]
  refine zu_ne hz (fun q => ?_)
  rcases hb with hb | hb
  · rw [q.1, hb] at hk; cases hk
  · exact hn (q.2.1 ▸ hb)
theorem zU_t {hs gs : List Int} {Z0 Z Z1 : qz_Z} (h : zU hs Z0 Z) (g : zU gs Z Z1) (hg : ∀ x ∈ gs, x ∈ hs) : zU hs Z0 Z1 := fun k b i j hk hn => (g k b i j hk (fun q => hn (hg b q))).trans (h k b i j hk hn)
theorem zU_z {hs : List Int} {Z0 Z Z1 : qz_Z} {n : Nat} (h : zU hs Z0 Z) (hz : Z1 = zzr Z n) : zU hs Z0 Z1 := fun k b i j hk hn => by
  rw [← h k b i j hk hn, hz]
  exact zzr_ne (fun q => by rw [q.1] at hk; cases hk)
theorem zU_p {hs : List Int} {Z0 Z Z1 : qz_Z} {k k1 : Nat} {b i b1 i1 d n : Int} (h : zU hs Z0 Z) (hz : Z1 = zpy Z k b i k1 b1 i1 d n) (hb : zhall k1 = false ∨ b1 ∈ hs) : zU hs Z0 Z1 := fun k' b' i' j' hk hn => by
  rw [← h k' b' i' j' hk hn]
  rcases zpy_or hz k' b' i' j' with q | q
  · exfalso
    rcases hb with hb | hb
    · rw [q.1, hb] at hk; cases hk
    · exact hn (q.2.1 ▸ hb)
  · exact q
theorem zU_cp {Z Z1 : qz_Z} {b0 b1 : Int} (hz : Z1 = zcp Z b0 b1) : zU [b1] Z Z1 := fun k b i j _ hn => by
  subst hz
  exact zcp_ne (fun q => hn (List.mem_singleton.mpr q))
theorem zU_dd {Z : qz_Z} (hZ : zI none Z) {a1 a2 a3 a4 a5 a6 a7 : Int} : zU [0, 2, 3, 4, 5, 6, 7, 8, 9] Z (zdd Z a1 a2 a3 a4 a5 a6 a7) := fun k b i j hk hn => by
  have n3 : k ≠ 3 := fun q => by subst q; cases hk
  have n61 : k ≠ 61 := fun q => by subst q; cases hk
  have n68 : k ≠ 68 := fun q => by subst q; cases hk
  have hb : ∀ x ∈ ([0, 2, 3, 4, 5, 6, 7, 8, 9] : List Int), b ≠ x := fun x hx q => hn (q ▸ hx)
  have b0 : b ≠ 0 := hb 0 (by decide)
  have e1 : ∀ Y : qz_Z, zd1 Y a1 a2 a3 a4 a5 a6 a7 k b i j = Y k b i j := fun Y => zd1_ne n68
  have e2 : ∀ Y : qz_Z, zd2 Y k b i j = Y k b i j := fun Y => by
    have h8 : 0 ≤ (Y 3 0 0 7 + 1) % 8 ∧ (Y 3 0 0 7 + 1) % 8 ≤ 7 := by omega
    have hnb : b ≠ 2 + (Y 3 0 0 7 + 1) % 8 := fun q => by
      have h2 := hb 2 (by decide)
      have h3 := hb 3 (by decide)
      have h4 := hb 4 (by decide)
      have h5 := hb 5 (by decide)
      have h6 := hb 6 (by decide)
      have h7 := hb 7 (by decide)
      have h9 := hb 8 (by decide)
      have h10 := hb 9 (by decide)
      omega
    unfold zd2
    rw [zu_ne rfl (fun q => b0 q.2.1), zu_ne rfl (fun q => n3 q.1), zcp_ne hnb, zu_ne rfl (fun q => n3 q.1)]
  have e3 : ∀ Y : qz_Z, zd3 Y k b i j = Y k b i j := fun Y => by
    unfold zd3
    rw [zu_ne rfl (fun q => n3 q.1), zu_ne rfl (fun q => b0 q.2.1), zu_ne rfl (fun q => n61 q.1)]
    exact if_neg (fun q => n61 q.1)
  unfold zdd
  split
  · rw [e3, e2, e1]
  · rw [e2, e1]
theorem z_mulmin {x y z : Int} (hx : 0 ≤ x) : x * min y z ≤ x * y := Int.mul_le_mul_of_nonneg_left (Int.min_le_left y z) hx
theorem z_mulmin2 {x y z : Int} (hx : 0 ≤ x) : x * min y z ≤ x * z := Int.mul_le_mul_of_nonneg_left (Int.min_le_right y z) hx
theorem z_mdle {a c d : Int} (ha : 0 ≤ a) (hc : c ≤ d) (hd : 0 < d) : a * c / d ≤ a := Int.ediv_le_of_le_mul hd (Int.mul_le_mul_of_nonneg_left hc ha)
theorem z_mulq {x y : Int} (hx : 0 < x) : x * (y / x) ≤ y := Int.mul_ediv_self_le (by omega)
/-- the lots that stand in a row have a reserve, and a start that is no less -/
def zLt (b : Int) (Z : qz_Z) : Prop := ∀ c p : Int, 0 ≤ c → c ≤ 1 → 0 ≤ p → p ≤ 11 → p < Z 48 b c 5 → 1 ≤ Z 49 b (12 * c + p) 2 ∧ Z 49 b (12 * c + p) 2 ≤ Z 49 b (12 * c + p) 1
section LT
variable {b : Int} {Z Z1 : qz_Z}
theorem zLt_0 (h : zLt b Z) {c : Int} (h0 : 0 ≤ c ∧ c ≤ 1) (h1 : 1 ≤ Z 48 b c 5) : 1 ≤ Z 49 b (12 * c) 2 ∧ Z 49 b (12 * c) 2 ≤ Z 49 b (12 * c) 1 := by
  have := h c 0 h0.1 h0.2 (by omega) (by omega) (by omega)
  rw [show 12 * c + 0 = 12 * c by omega] at this
  exact this
theorem zLt_e (h : zLt b Z) (e : ∀ c, 0 ≤ c → c ≤ 1 → Z1 48 b c 5 ≤ Z 48 b c 5) (e2 : ∀ r j, Z1 49 b r j = Z 49 b r j) : zLt b Z1 := fun c p h0 h1 h2 h3 h4 => by
  rw [e2, e2]
  exact h c p h0 h1 h2 h3 (by have := e c h0 h1; omega)
/-- a write elsewhere -/
theorem zLt_o {k : Nat} {b' i j v : Int} (h : zLt b Z) (hz : Z1 = zu Z k b' i j v) (hk : k ≠ 49 ∧ (k ≠ 48 ∨ j ≠ 5)) : zLt b Z1 := zLt_e h (fun c _ _ => Int.le_of_eq (zu_ne hz (fun q => by rcases hk.2 with g | g; exact g q.1.symm; exact g q.2.2.2.symm))) (fun r j' => zu_ne hz (fun q => hk.1 q.1.symm))
theorem zLt_h {k : Nat} {b' i j v : Int} (h : zLt b Z) (hz : Z1 = zu Z k b' i j v) (hb : b ≠ b') : zLt b Z1 := zLt_e h (fun c _ _ => Int.le_of_eq (zu_ne hz (fun q => hb q.2.1))) (fun r j' => zu_ne hz (fun q => hb q.2.1))
theorem zLt_c {ws : List Nat} (h : zLt b Z) (g : zC ws Z Z1) (hw : (ws.contains 48 || ws.contains 49) = false) : zLt b Z1 := by
  rw [Bool.or_eq_false_iff] at hw
  exact zLt_e h (fun c _ _ => Int.le_of_eq (g 48 b c 5 hw.1)) (fun r j => g 49 b r j hw.2)
theorem zLt_l {ws as : List Nat} {n : Nat} (h : zLt b Z) (g : zL ws as n Z Z1) (hw : (ws.contains 48 || ws.contains 49) = false) : zLt b Z1 := by
  rw [Bool.or_eq_false_iff] at hw
  exact zLt_e h (fun c _ _ => Int.le_of_eq (g 48 b c 5 hw.1 (fun q => absurd q.1 (by decide)))) (fun r j => g 49 b r j hw.2 (fun q => absurd q.1 (by decide)))
theorem zLt_n {hs : List Int} (h : zLt b Z) (g : zU hs Z Z1) (hb : b ∉ hs) : zLt b Z1 := zLt_e h (fun c _ _ => Int.le_of_eq (g 48 b c 5 rfl hb)) (fun r j => g 49 b r j rfl hb)
theorem zLt_z {n : Nat} (h : zLt b Z) (hz : Z1 = zzr Z n) : zLt b Z1 := zLt_e h (fun c _ _ => Int.le_of_eq (zz_o hz (by decide))) (fun r j => zz_o hz (by decide))
theorem zLt_p {k k1 : Nat} {b' i b1 i1 d n : Int} (h : zLt b Z) (hz : Z1 = zpy Z k b' i k1 b1 i1 d n) (hk : k1 ≠ 48 ∧ k1 ≠ 49) : zLt b Z1 := zLt_e h (fun c _ _ => Int.le_of_eq (zpy_o hz (fun q => hk.1 q.symm))) (fun r j => zpy_o hz (fun q => hk.2 q.symm))
theorem zLt_cp {b0 : Int} (h : zLt b0 Z) (hz : Z1 = zcp Z b0 b) : zLt b Z1 := fun c p h0 h1 h2 h3 h4 => by
  have hc : c = 0 ∨ c = 1 := by omega
  have e5 : Z1 48 b c 5 = Z 48 b0 c 5 := zcp_at hz (by rcases hc with rfl | rfl <;> rfl)
  have er : ∀ r : Int, 0 ≤ r → r ≤ 23 → zhk 49 r 1 = true ∧ zhk 49 r 2 = true := by
    intro r hr hr2
    have key : ∀ m : Nat, m ≤ 23 → zhk 49 (m : Int) 1 = true ∧ zhk 49 (m : Int) 2 = true := by decide +kernel
    have := key r.toNat (by omega)
    rw [show ((r.toNat : Nat) : Int) = r by omega] at this
    exact this
  rw [e5] at h4
  rw [zcp_at hz (er _ (by omega) (by omega)).1, zcp_at hz (er _ (by omega) (by omega)).2]
  exact h c p h0 h1 h2 h3 h4
/-- a lot that is written, number, start and reserve -/
theorem lt_w3 {Z2 Z3 : qz_Z} {r n st re : Int} (hz0 : Z1 = zu Z 49 b r 0 n) (hz1 : Z2 = zu Z1 49 b r 1 st) (hz2 : Z3 = zu Z2 49 b r 2 re) (h : zLt b Z) (hv : 1 ≤ re ∧ re ≤ st) : zLt b Z3 := fun c p h0 h1 h2 h3 h4 => by
  have e5 : Z3 48 b c 5 = Z 48 b c 5 := by rw [zu_ne hz2 (by omega), zu_ne hz1 (by omega), zu_ne hz0 (by omega)]
  rw [e5] at h4
  have g := h c p h0 h1 h2 h3 h4
  by_cases e : 12 * c + p = r
  · rw [e, zu_at hz2, zu_ne hz2 (by omega), zu_at hz1]
    exact hv
  · rw [zu_ne hz2 (fun q => e q.2.2.1), zu_ne hz1 (fun q => e q.2.2.1), zu_ne hz0 (fun q => e q.2.2.1), zu_ne hz2 (fun q => e q.2.2.1), zu_ne hz1 (fun q => e q.2.2.1), zu_ne hz0 (fun q => e q.2.2.1)]
    exact g
/-- the one lot of a clock -/
theorem lt_w4 {Z0 Z2 Z3 : qz_Z} {c r n st re : Int} (hz : Z = zu Z0 48 b c 5 1) (hz0 : Z1 = zu Z 49 b r 0 n) (hz1 : Z2 = zu Z1 49 b r 1 st) (hz2 : Z3 = zu Z2 49 b r 2 re) (h : zLt b Z0) (hv : 1 ≤ re ∧ re ≤ st) (hr : r = 12 * c) (_ : True ∨ 0 ≤ c) : zLt b Z3 := fun c' p h0 h1 h2 h3 h4 => by
  by_cases e : c' = c
  · subst e
    have e5 : Z3 48 b c' 5 = 1 := by rw [zu_ne hz2 (by omega), zu_ne hz1 (by omega), zu_ne hz0 (by omega), zu_at hz]
    rw [e5] at h4
    have hp : p = 0 := by omega
    rw [show 12 * c' + p = r by omega, zu_at hz2, zu_ne hz2 (by omega), zu_at hz1]
    exact hv
  · have e5 : Z3 48 b c' 5 = Z0 48 b c' 5 := by rw [zu_ne hz2 (by omega), zu_ne hz1 (by omega), zu_ne hz0 (by omega), zu_ne hz (fun q => e q.2.2.1)]
    rw [e5] at h4
    by_cases e2 : 12 * c' + p = r
    · rw [e2, zu_at hz2, zu_ne hz2 (by omega), zu_at hz1]
      exact hv
    · have e3 : ∀ j, Z3 49 b (12 * c' + p) j = Z0 49 b (12 * c' + p) j := fun j => by
        rw [zu_ne hz2 (fun q => e2 q.2.2.1), zu_ne hz1 (fun q => e2 q.2.2.1), zu_ne hz0 (fun q => e2 q.2.2.1), zu_ne hz (by omega)]
      rw [e3, e3]
      exact h c' p h0 h1 h2 h3 h4
end LT
theorem z2_sh10 {x : Int} (h : 0 ≤ x ∧ x ≤ 10) : 1 ≤ z2 (fun x y => x <<< (y &&& 31)) 1 x ∧ z2 (fun x y => x <<< (y &&& 31)) 1 x ≤ 1024 := by
  have hx : x = 0 ∨ x = 1 ∨ x = 2 ∨ x = 3 ∨ x = 4 ∨ x = 5 ∨ x = 6 ∨ x = 7 ∨ x = 8 ∨ x = 9 ∨ x = 10 := by omega
  rcases hx with rfl | rfl | rfl | rfl | rfl | rfl | rfl | rfl | rfl | rfl | rfl <;> decide +kernel
