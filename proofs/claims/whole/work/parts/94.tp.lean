/-! trips: rows by turns -/
def zrE (n : Int) (Z Y : qz_Z) (N : Int) : Prop := ∀ k : Int, 0 ≤ k → k < N → Z 200 n 0 k = Y 95 0 0 k
def zrC (n : Int) (Z C : qz_Z) : Prop := ∀ (k : Nat) (b i j : Int), ¬ (k = 200 ∧ b = n) → C k b i j = Z k b i j
def zrM (Y M : qz_Z) : Prop := ∀ (k : Nat) (b i j : Int), k ≠ 95 → M k b i j = Y k b i j
theorem zl_1070_1r {n N : Int} {Z Y : qz_Z} (h : zrE n Z Y N) : ∀ (m : Nat) (x : Int), -1 ≤ x → x ≤ N - 2 → x + 1 < (m : Int) → zl_1070_1 n N m Z x = zl_522_1 m Y x ∧ -1 ≤ zl_522_1 m Y x ∧ zl_522_1 m Y x ≤ N - 2 ∧ (0 ≤ zl_522_1 m Y x → Y 95 0 0 (zl_522_1 m Y x) ≤ Y 95 0 0 (1 + zl_522_1 m Y x))
  | 0, _, _, _, _ => by omega
  | m + 1, x, h0, h1, h2 => by
    unfold zl_1070_1 zl_522_1
    by_cases c : x < 0
    · rw [if_pos c, if_pos c]
      exact ⟨rfl, h0, h1, fun q => by omega⟩
    rw [if_neg c, if_neg c, h x (by omega) (by omega), h (1 + x) (by omega) (by omega)]
    by_cases d : Y 95 0 0 x ≤ Y 95 0 0 (1 + x)
    · rw [if_pos d, if_pos d]
      exact ⟨rfl, h0, h1, fun _ => d⟩
    · rw [if_neg d, if_neg d]
      exact zl_1070_1r h m (x + -1) (by omega) (by omega) (by omega)
theorem zl_1070_2r {n N y : Int} {Z Y : qz_Z} (h : zrE n Z Y N) (y0 : 0 ≤ y) (yd : Y 95 0 0 y ≤ Y 95 0 0 (1 + y)) : ∀ (m m' : Nat) (x : Int), y + 1 ≤ x → x ≤ N - 1 → x < (m : Int) → x < (m' : Int) → zl_1070_2 n N y m Z x = zl_522_2 y m' Y x ∧ y + 1 ≤ zl_522_2 y m' Y x ∧ zl_522_2 y m' Y x ≤ N - 1
  | 0, _, _, _, _, _, _ => by omega
  | m + 1, 0, _, _, _, _, _ => by omega
  | m + 1, m' + 1, x, h0, h1, h2, h3 => by
    unfold zl_1070_2 zl_522_2
    by_cases c : x ≤ y + 1
    · rw [if_pos c, if_pos (by rw [show x = 1 + y by omega]; exact yd)]
      exact ⟨rfl, h0, h1⟩
    rw [if_neg c, h y (by omega) (by omega), h x (by omega) (by omega)]
    by_cases d : Y 95 0 0 y ≤ Y 95 0 0 x
    · rw [if_pos d, if_pos d]
      exact ⟨rfl, h0, h1⟩
    · rw [if_neg d, if_neg d]
      exact zl_1070_2r h y0 yd m m' (x + -1) (by omega) (by omega) (by omega) (by omega)
theorem zr_sw {n N i j : Int} {Z Y : qz_Z} (h : zrE n Z Y N) (i0 : 0 ≤ i) (i1 : i < N) (j0 : 0 ≤ j) (j1 : j < N) : zrE n (zu (zu Z 200 n 0 i (Z 200 n 0 j)) 200 n 0 j (Z 200 n 0 i)) (zu (zu Y 95 0 0 i (Y 95 0 0 j)) 95 0 0 j (Y 95 0 0 i)) N := fun k k0 k1 => by
  by_cases c : k = j
  · rw [c, zu_at rfl, zu_at rfl]
    exact h i i0 i1
  rw [zu_ne rfl (fun q => c q.2.2.2), zu_ne rfl (fun q => c q.2.2.2)]
  by_cases d : k = i
  · rw [d, zu_at rfl, zu_at rfl]
    exact h j j0 j1
  · rw [zu_ne rfl (fun q => d q.2.2.2), zu_ne rfl (fun q => d q.2.2.2)]
    exact h k k0 k1
theorem zrC_u {n i v : Int} {Z C : qz_Z} (h : zrC n Z C) : zrC n Z (zu C 200 n 0 i v) := fun k b a j q => by
  rw [zu_ne rfl (fun e => q ⟨e.1, e.2.1⟩)]
  exact h k b a j q
theorem zrM_u {i v : Int} {Y M : qz_Z} (h : zrM Y M) : zrM Y (zu M 95 0 0 i v) := fun k b a j q => by
  rw [zu_ne rfl (fun e => q e.1)]
  exact h k b a j q
theorem zl_1070_3r {n N : Int} {Z0 Y0 : qz_Z} : ∀ (m : Nat) (Z Y : qz_Z) (x y : Int), 0 ≤ x → y < N → zrE n Z Y N → zrC n Z0 Z → zrM Y0 Y → zrE n (zl_1070_3 n m Z x y).1 (zl_522_3 m Y y x).1 N ∧ zrC n Z0 (zl_1070_3 n m Z x y).1 ∧ zrM Y0 (zl_522_3 m Y y x).1
  | 0, _, _, _, _, _, _, h, c, d => ⟨h, c, d⟩
  | m + 1, Z, Y, x, y, h0, h1, h, hc, hd => by
    unfold zl_1070_3 zl_522_3
    by_cases c : y ≤ x
    · rw [if_pos c, if_pos c]
      exact ⟨h, hc, hd⟩
    rw [if_neg c, if_neg c]
    exact zl_1070_3r m _ _ (x + 1) (y + -1) (by omega) (by omega) (zr_sw h h0 (by omega) (by omega) h1) (zrC_u (zrC_u hc)) (zrM_u (zrM_u hd))
theorem rr_1070 {n N : Int} {Z Y : qz_Z} (h : zrE n Z Y N) (e : Y 1 0 0 24 = N) (N0 : 1 ≤ N) : zrE n (zf_1070 Z n N).1 (zf_522 Y).1 N ∧ zrC n Z (zf_1070 Z n N).1 ∧ zrM Y (zf_522 Y).1 ∧ (zf_1070 Z n N).2 = (zf_522 Y).2 ∧ ((zf_522 Y).2 = 0 ∨ (zf_522 Y).2 = 1) := by
  unfold zf_1070 zf_522
  rw [e]
  obtain ⟨a1, a2, a3, a4⟩ := zl_1070_1r h ((N - 2 - -2).toNat + 1) (N - 2) (by omega) (by omega) (by omega)
  rw [a1]
  generalize zl_522_1 ((N - 2 - -2).toNat + 1) Y (N - 2) = y at a1 a2 a3 a4 ⊢
  simp only [zlet]
  by_cases c : 0 ≤ y
  · rw [if_pos c, if_pos c]
    obtain ⟨b1, b2, b3⟩ := zl_1070_2r h c (a4 c) ((N - 1 - -1).toNat + 1) ((N - 1 + 1).toNat + 1) (N - 1) (by omega) (by omega) (by omega) (by omega)
    rw [b1]
    generalize zl_522_2 y ((N - 1 + 1).toNat + 1) Y (N - 1) = x at b1 b2 b3 ⊢
    have s := zr_sw h c (show y < N by omega) (show 0 ≤ x by omega) (show x < N by omega)
    have cz : zrC n Z (zu (zu Z 200 n 0 y (Z 200 n 0 x)) 200 n 0 x (Z 200 n 0 y)) := zrC_u (zrC_u (fun _ _ _ _ _ => rfl))
    have cm : zrM Y (zu (zu Y 95 0 0 y (Y 95 0 0 x)) 95 0 0 x (Y 95 0 0 y)) := zrM_u (zrM_u (fun _ _ _ _ _ => rfl))
    simp only [zlet3]
    rw [cm 1 0 0 24 (by decide), e]
    obtain ⟨t1, t2, t3⟩ := zl_1070_3r ((5 - (y + 1)).toNat + 1) _ _ (y + 1) (N - 1) (by omega) (by omega) s cz cm
    exact ⟨t1, t2, t3, trivial, .inr trivial⟩
  · rw [if_neg c, if_neg c]
    exact ⟨h, fun _ _ _ _ _ => rfl, fun _ _ _ _ _ => rfl, rfl, .inl rfl⟩
/-- a row alone, and what comes behind it -/
def ztk (l : List Int) : qz_Z := fun k _ _ j => if k = 95 then l.getD j.toNat 0 else if k = 1 ∧ j = 24 then l.length else 0
def ztn (l l' : List Int) : Bool := decide ((zf_522 (ztk l)).2 = 1) && (List.range l.length).all (fun k => decide ((zf_522 (ztk l)).1 95 0 0 (k : Int) = l'.getD k 0)) && Nat.beq l.length l'.length
def ztw (l : List Int) : Bool := l.all (fun t => decide (0 ≤ t) && decide (t < 5)) && (List.range l.length).all (fun k => Nat.beq k 0 || decide (l.getD k 0 ≠ l.getD (k - 1) 0)) && decide (0 < l.length) && Nat.ble l.length 5
def ztc : List (List Int) → Bool
  | [] => false
  | l :: r => ztw l && match r with
    | [] => decide ((zf_522 (ztk l)).2 = 0)
    | l' :: _ => ztn l l' && ztc r
def ztpk (m : Nat) (f : List Int → List (List Int)) (all : List Int) : List (List Int) := (all.map (fun x => (f (all.filter (fun y => decide (y ≠ x)))).map (fun q => x :: q))).flatten
def ztps : Nat → List Int → List (List Int)
  | 0, _ => [[]]
  | m + 1, l => ztpk m (ztps m) l
def ztbits (m : Nat) : List Int := ([0, 1, 2, 3, 4] : List Int).filter (fun t => Nat.testBit m t.toNat)
theorem ztc_all : (List.range 31).all (fun m => ztc (ztps (ztbits (m + 1)).length (ztbits (m + 1))) && Nat.ble (ztps (ztbits (m + 1)).length (ztbits (m + 1))).length 120) = true := by decide +kernel
