/-! quarrels: whether one may be -/
theorem z2and {x y : Int} (hx : x = 0 ∨ x = 1) (hy : y = 0 ∨ y = 1) : z2 (fun x y => x &&& y) x y = if x = 0 then 0 else y := by
  rcases hx with rfl | rfl <;> rcases hy with rfl | rfl <;> rfl
theorem rl_3 {b q : Int} {Z Y : qz_Z} (hRa : zR b Z Y) (hV : zV Y) : ∀ (m : Nat) (x3 x4 : Int), 0 ≤ x4 → (x3 = 0 ∨ x3 = 1) → (zl_3_1 b q m Z x3 x4).1 = (zl_410_1 q m Y x3 x4).1
  | 0, _, _, _, _ => rfl
  | m + 1, x3, x4, h0, hx => by
    unfold zl_3_1 zl_410_1
    have v := zVr_11_10 (a := 3815) hV rfl
    rw [zRl_11_10 (a := 3815) hRa rfl]
    by_cases c : Y 2 0 0 3815 ≤ x4
    · rw [if_pos c, if_pos c]
    rw [if_neg c, if_neg c, zRl_54_0 (x := x4) (a := 3850 + 8 * x4) hRa h0 (by omega) rfl, z2and hx (.inl rfl), z2and hx (.inr rfl)]
    rcases hx with rfl | rfl
    · simp only [if_true]
      split <;> exact rl_3 hRa hV m 0 _ (by omega) (.inl rfl)
    · rw [if_neg (show ¬ (1 : Int) = 0 by omega), if_neg (show ¬ (1 : Int) = 0 by omega), if_neg (show ¬ (1 : Int) = 0 by omega)]
      split
      · exact rl_3 hRa hV m 0 _ (by omega) (.inl rfl)
      · exact rl_3 hRa hV m 1 _ (by omega) (.inr rfl)
theorem rr_3 {b q : Int} {Z Y : qz_Z} (hRa : zR b Z Y) (hV : zV Y) (e0 : 0 ≤ q) (e1 : q < 60) {C M : Int} (hC : zE C (zf_3 Z b q)) (hM : zE M (zf_410 Y q)) : C = M := by
  have hc : C = _ := hC
  have hm : M = _ := hM
  rw [hc, hm]
  unfold zf_3 zf_410
  rw [zRl_47_9 (x := q) (a := 2019 + 16 * q) hRa e0 e1 rfl, zRl_11_13 (a := 0) hRa rfl, zRl_47_17 (x := q) (a := 40 + q) hRa e0 e1 rfl, zRl_11_10 (a := 3815) hRa rfl]
  have g0 : (zl_3_1 b q 13 Z 0 0).1 = (zl_410_1 q 13 Y 0 0).1 := rl_3 hRa hV 13 0 0 (by omega) (.inl rfl)
  have g1 : (zl_3_1 b q 13 Z 1 0).1 = (zl_410_1 q 13 Y 1 0).1 := rl_3 hRa hV 13 1 0 (by omega) (.inr rfl)
  split
  · exact g0
  split
  · exact g0
  split
  · exact g0
  · exact g1
theorem zl410_0 {q : Int} {Y : qz_Z} : ∀ (m : Nat) (x3 : Int), (zl_410_1 q m Y 0 x3).1 = 0
  | 0, _ => rfl
  | m + 1, x3 => by
    unfold zl_410_1
    split
    · rfl
    · rw [if_pos rfl]
      exact zl410_0 m _
theorem z410_s {Y : qz_Z} {q v : Int} (h : v = zf_410 Y q) : v ≠ 0 → Y 2 0 0 3815 < 12 ∧ Y 2 0 0 (2019 + 16 * q) = 2 := fun n => by
  rw [h] at n
  unfold zf_410 at n
  have z := zl410_0 (q := q) (Y := Y) 13 0
  split at n
  · exact absurd z n
  split at n
  · exact absurd z n
  split at n
  · exact absurd z n
  · omega
/-- quarrels that aren't there yet -/
def zNq (Y : qz_Z) : Prop := ∀ i : Int, Y 2 0 0 3815 ≤ i → i < 12 → Y 2 0 0 (3852 + 8 * i) = 0
theorem zNq_f {K : List Nat} {Y M : qz_Z} (h : zNq Y) (hV : zV Y) (g : yFa K Y M) (e : K.contains 5402 = false ∧ K.contains 1110 = false) : zNq M := fun i h0 h1 => by
  rw [yFr_at 1110 g e.2 (zcm_s (ac_11_10 rfl))] at h0
  have v := zVr_11_10 (a := 3815) hV rfl
  rw [yFr_at 5402 g e.1 (zcm_s (ac_54_2 (by omega) h1 rfl))]
  exact h i h0 h1
theorem zNq_put {Y M : qz_Z} {c : Int} (h : zNq Y) (hc : Y 2 0 0 3815 = c) (nm : ∀ i : Int, c < i → i < 12 → M 2 0 0 (3852 + 8 * i) = Y 2 0 0 (3852 + 8 * i)) (l : M 2 0 0 3815 = c + 1) : zNq M := fun i h0 h1 => by
  rw [nm i (by omega) h1]
  exact h i (by omega) h1
/-! gradings: what is drawn -/
theorem z2rem {a c : Int} (h1 : 0 ≤ a) (h2 : a ≤ 2147483647) (h3 : 0 < c) (h4 : c ≤ 2147483647) : z2 (fun x y => x - x / y * y) a c = a % c := by
  have m0 : 0 ≤ a % c := Int.emod_nonneg _ (by omega)
  have m1 : a % c < c := Int.emod_lt_of_pos _ h3
  show (i3 a - i3 a / i3 c * i3 c).toInt = a % c
  rw [i3_mod h1 (by omega) h3 (by omega), show (i3 (a % c)).toInt = w3 (a % c) from rfl, w3_id (by omega) (by omega)]
/-- the seed alone -/
def zSd (Y Y' : qz_Z) : Prop := (∀ j, Y' 2 0 0 j = Y 2 0 0 j) ∧ yFr [] Y Y'
theorem zSd_u {Y Y' : qz_Z} {t : Int} (h : zSd Y Y') : zSd Y (zu Y' 1 0 0 3 t) := ⟨fun j => (zu_ne rfl (fun q => absurd q.1 (by decide))).trans (h.1 j), yFr_o h.2 rfl rfl (.inl rfl) rfl⟩
theorem rl_95 {b p n ps cr bd : Int} {Z Y0 : qz_Z} (hn : n ≤ cr) (hc : cr ≤ 40) : ∀ (m m' : Nat) (Y : qz_Z) (x8 x9 x10 : Int), 0 ≤ x10 → x10 ≤ n → n - x10 < (m : Int) → n - x10 < (m' : Int) → Y 1 0 0 3 = x9 → 0 ≤ x9 → x9 ≤ 65535 → zSd Y0 Y → (zl_95_1 b p p n ps m Z (cr - x10) (bd - x8) x8 x9 x10).2.2.1 = (zl_322_1 cr bd n m' Y x8 x10).2.1 ∧ zSd Y0 (zl_322_1 cr bd n m' Y x8 x10).1
  | 0, _, _, _, _, _, _, _, _, _, _, _, _, _ => by omega
  | m + 1, 0, _, _, _, _, _, _, _, _, _, _, _, _ => by omega
  | m + 1, m' + 1, Y, x8, x9, x10, h0, h1, h2, h3, hs, s0, s1, hd => by
    unfold zl_95_1 zl_322_1
    by_cases c : n ≤ x10
    · rw [if_pos c, if_pos c]
      exact ⟨rfl, hd⟩
    rw [if_neg c, if_neg c, if_neg (show ¬ cr - x10 ≤ 0 by omega)]
    simp only [zlet]
    rw [zu_at rfl, hs, z2rem (by omega) (by omega) (by omega) (by omega)]
    have d2 := zSd_u (t := (25173 * x9 + 13849) % 65536) hd
    by_cases e : bd - x8 ≤ (25173 * x9 + 13849) % 65536 / 16 % (cr - x10)
    · rw [if_pos e, if_pos e, Int.add_zero, show cr - x10 + -1 = cr - (x10 + 1) by omega]
      exact rl_95 hn hc m m' _ x8 _ (x10 + 1) (by omega) (by omega) (by omega) (by omega) (zu_at rfl) (by omega) (by omega) d2
    · rw [if_neg e, if_neg e, show cr - x10 + -1 = cr - (x10 + 1) by omega, show bd - x8 + -1 = bd - (x8 + 1) by omega]
      exact rl_95 hn hc m m' _ (x8 + 1) _ (x10 + 1) (by omega) (by omega) (by omega) (by omega) (zu_at rfl) (by omega) (by omega) d2
/-! rounds: stops by figures -/
theorem zl361_0 {Y : qz_Z} : ∀ (m : Nat) (x : Int), (zl_361_1 m Y 0 x).1 = 0
  | 0, _ => rfl
  | m + 1, x => by
    unfold zl_361_1
    split
    · rfl
    · rw [if_pos rfl]
      exact zl361_0 m _
theorem zl129_0 {b : Int} {Z : qz_Z} : ∀ (m : Nat) (x : Int), (zl_129_1 b m Z 0 x).1 = 0
  | 0, _ => rfl
  | m + 1, x => by
    unfold zl_129_1
    split
    · rfl
    · rw [if_pos rfl]
theorem rl_129 {b : Int} {Z Y : qz_Z} (hRa : zR b Z Y) : ∀ (m : Nat) (x : Int), (zl_129_1 b m Z 1 x).1 = (zl_361_1 m Y 1 x).1
  | 0, _ => rfl
  | m + 1, x => by
    unfold zl_129_1 zl_361_1 zf_134
    rw [zRl_11_2 (a := 1200) hRa rfl]
    simp only [zlet]
    by_cases c : x ≤ 0
    · rw [if_pos c, if_pos c]
    rw [if_neg c, if_neg c, if_neg (show ¬ (1 : Int) = 0 by omega), if_neg (show ¬ (1 : Int) = 0 by omega)]
    by_cases d : x % 10 = 7
    · rw [if_pos d, if_pos d]
      exact rl_129 hRa m _
    rw [if_neg d, if_neg d]
    by_cases e : x % 10 < 1
    · rw [if_pos e, if_pos (by omega), zl129_0, zl361_0]
    rw [if_neg e, if_neg (show ¬ x % 10 - 1 < 0 by omega)]
    by_cases f : Y 2 0 0 1200 < x % 10
    · rw [if_pos f, if_pos (show Y 2 0 0 1200 - 1 < x % 10 - 1 by omega), zl129_0, zl361_0]
    · rw [if_neg f, if_neg (show ¬ Y 2 0 0 1200 - 1 < x % 10 - 1 by omega)]
      exact rl_129 hRa m _
/-- one figure more -/
theorem zl361_1 {Y : qz_Z} (hr : Y 2 0 0 1200 ≤ 6) {m : Nat} {x : Int} (h : (zl_361_1 (m + 1) Y 1 x).1 ≠ 0) (h0 : 0 < x) : 1 ≤ x % 10 ∧ x % 10 ≤ 7 ∧ (zl_361_1 m Y 1 (x / 10)).1 ≠ 0 := by
  unfold zl_361_1 at h
  rw [if_neg (show ¬ x ≤ 0 by omega), if_neg (show ¬ (1 : Int) = 0 by omega)] at h
  by_cases d : x % 10 = 7
  · rw [if_pos d] at h
    exact ⟨by omega, by omega, h⟩
  rw [if_neg d] at h
  by_cases e : x % 10 - 1 < 0
  · rw [if_pos e, zl361_0] at h
    exact absurd rfl h
  rw [if_neg e] at h
  by_cases f : Y 2 0 0 1200 - 1 < x % 10 - 1
  · rw [if_pos f, zl361_0] at h
    exact absurd rfl h
  · rw [if_neg f] at h
    exact ⟨by omega, by omega, h⟩
theorem zlog_k {x : Int} (h0 : 777777 < x) (h1 : x ≤ 999999) : ∃ m, zlog x + 1 = m + 6 := by
  have s1 := zlog_s x (by omega)
  have s2 := zlog_s (x / 10) (by omega)
  have s3 := zlog_s (x / 10 / 10) (by omega)
  have s4 := zlog_s (x / 10 / 10 / 10) (by omega)
  have s5 := zlog_s (x / 10 / 10 / 10 / 10) (by omega)
  exact ⟨zlog x - 5, by omega⟩
theorem rr_129 {b x : Int} {Z Y : qz_Z} (hRa : zR b Z Y) (hV : zV Y) {C M : Int} (hC : zE C (zf_129 Z b x)) (hM : zE M (zf_361 Y x)) : C = M := by
  have hc : C = _ := hC
  have hm : M = _ := hM
  rw [hc, hm]
  have v := zVr_11_2 (a := 1200) hV rfl
  unfold zf_129 zf_361
  have z1 : ∀ m x, zlet2 (zl_129_1 b m Z 0 x) (fun y2 y3 => y2) = 0 := fun m x => zl129_0 m x
  have z2_ : ∀ m x, zlet2 (zl_361_1 m Y 0 x) (fun y2 y3 => y2) = 0 := fun m x => zl361_0 m x
  by_cases c : x < 0
  · rw [if_pos c, if_pos c, z1, z2_]
  rw [if_neg c, if_neg c]
  by_cases d : 999999 < x
  · rw [if_pos d, if_pos (by omega), z1, z2_]
  rw [if_neg d]
  have e : zlet2 (zl_129_1 b (zlog x + 1) Z 1 x) (fun y2 y3 => y2) = (zl_361_1 (zlog x + 1) Y 1 x).1 := rl_129 hRa _ _
  rw [e]
  by_cases f : 777777 < x
  · rw [if_pos f, z2_]
    by_cases z : (zl_361_1 (zlog x + 1) Y 1 x).1 = 0
    · exact z
    exfalso
    obtain ⟨m, hm⟩ := zlog_k f (by omega)
    rw [hm] at z
    obtain ⟨a1, a2, z⟩ := zl361_1 v.2 z (by omega)
    obtain ⟨b1, b2, z⟩ := zl361_1 v.2 z (by omega)
    obtain ⟨c1, c2, z⟩ := zl361_1 v.2 z (by omega)
    obtain ⟨d1, d2, z⟩ := zl361_1 v.2 z (by omega)
    obtain ⟨e1, e2, z⟩ := zl361_1 v.2 z (by omega)
    obtain ⟨f1, f2, z⟩ := zl361_1 v.2 z (by omega)
    omega
  · rw [if_neg f]
    rfl
theorem rl_133 {Y : qz_Z} : ∀ (m : Nat) (x y : Int), y < 10 ^ m → y ≤ 2147483647 → zl_133_1 m x y = (zl_374_1 (zlog y + 1) Y x y).1
  | 0, x, y, h, h2 => by
    unfold zl_374_1
    rw [if_pos (show y ≤ 0 by have : (10 : Int) ^ 0 = 1 := rfl; omega)]
    rfl
  | m + 1, x, y, h, h2 => by
    unfold zl_133_1 zl_374_1
    by_cases c : y ≤ 0
    · rw [if_pos c, if_pos c]
    · rw [if_neg c, if_neg c]
      have s := zlog_s y h2
      have e : (10 : Int) ^ (m + 1) = 10 ^ m * 10 := Int.pow_succ 10 m
      rw [show zlog y = zlog (y / 10) + 1 by omega]
      exact rl_133 m (x + 1) (y / 10) (by omega) (by omega)
theorem rr_133 {x : Int} {Z Y : qz_Z} (h : x ≤ 2147483647) {C M : Int} (hC : zE C (zf_133 Z x)) (hM : zE M (zf_374 Y x)) : C = M := by
  have hc : C = _ := hC
  have hm : M = _ := hM
  rw [hc, hm]
  exact rl_133 11 0 x (by have : (10 : Int) ^ 11 = 100000000000 := rfl; omega) h
/-- divided by ten some times -/
def zdv : Nat → Int → Int
  | 0, x => x
  | n + 1, x => zdv n (x / 10)
theorem zdv_r : ∀ (n : Nat) (x : Int), 0 ≤ x → x ≤ 2147483647 → 0 ≤ zdv n x ∧ zdv n x ≤ 2147483647
  | 0, x, h0, h1 => ⟨h0, h1⟩
  | n + 1, x, h0, h1 => zdv_r n (x / 10) (by omega) (by omega)
theorem z2div {a c : Int} (h1 : 0 ≤ a) (h2 : a ≤ 2147483647) (h3 : 0 < c) (h4 : c ≤ 2147483647) : z2 (fun x y => x / y) a c = a / c := by
  have m0 : 0 ≤ a / c := Int.ediv_nonneg h1 (by omega)
  have m1 : a / c ≤ a := Int.ediv_le_self _ h1
  show (i3 a / i3 c).toInt = a / c
  rw [i3_div h1 (by omega) h3 (by omega), show (i3 (a / c)).toInt = w3 (a / c) from rfl, w3_id (by omega) (by omega)]
theorem zl139 {c : Int} {Z : qz_Z} : ∀ (m : Nat) (x5 x4 : Int), 0 ≤ x4 → x4 ≤ 2147483647 → c - x5 < (m : Int) → (zl_139_1 c m Z x4 x5).1 = zdv (c - x5).toNat x4
  | 0, x5, x4, _, _, h => by
    rw [show (c - x5).toNat = 0 by omega]
    rfl
  | m + 1, x5, x4, h0, h1, h => by
    unfold zl_139_1
    by_cases d : c ≤ x5
    · rw [if_pos d, show (c - x5).toNat = 0 by omega]
      rfl
    · rw [if_neg d, zl139 m (x5 + 1) (x4 / 10) (by omega) (by omega) (by omega), show (c - x5).toNat = (c - (x5 + 1)).toNat + 1 by omega]
      rfl
theorem zl373 {c : Int} {Y : qz_Z} : ∀ (m : Nat) (x3 x2 : Int), x3 - c < (m : Int) → (zl_373_1 c m Y x2 x3).1 = zdv (x3 - c).toNat x2
  | 0, x3, x2, h => by
    rw [show (x3 - c).toNat = 0 by omega]
    rfl
  | m + 1, x3, x2, h => by
    unfold zl_373_1
    by_cases d : x3 ≤ c
    · rw [if_pos d, show (x3 - c).toNat = 0 by omega]
      rfl
    · rw [if_neg d, zl373 m (x3 + -1) (x2 / 10) (by omega), show (x3 - c).toNat = (x3 + -1 - c).toNat + 1 by omega]
      rfl
/-- figures of rounds are stops: from 1 to 7 -/
def zNk (Y : qz_Z) : Prop := ∀ k : Int, 0 ≤ k → k < 2 → 0 ≤ Y 2 0 0 (3523 + 10 * k) ∧ Y 2 0 0 (3523 + 10 * k) ≤ 777777 ∧ ∀ n : Nat, 0 < zdv n (Y 2 0 0 (3523 + 10 * k)) → 1 ≤ zdv n (Y 2 0 0 (3523 + 10 * k)) % 10 ∧ zdv n (Y 2 0 0 (3523 + 10 * k)) % 10 ≤ 7
theorem zNk_f {K : List Nat} {Y M : qz_Z} (h : zNk Y) (g : yFa K Y M) (e : K.contains 5103 = false) : zNk M := fun k h0 h1 => by
  rw [yFr_at 5103 g e (zcm_s (ac_51_3 h0 h1 rfl))]
  exact h k h0 h1
/-- how many figures: the number divided so many times less one is above 0 -/
theorem zl374_n {Y : qz_Z} : ∀ (m : Nat) (x y : Int), 0 ≤ y → ∃ k : Nat, (zl_374_1 m Y x y).1 = x + k ∧ (k = 0 → m = 0 ∨ y ≤ 0) ∧ (∀ j : Nat, j < k → 0 < zdv j y)
  | 0, x, y, _ => ⟨0, by show x = x + 0; omega, fun _ => .inl rfl, fun j h => absurd h (by omega)⟩
  | m + 1, x, y, h => by
    unfold zl_374_1
    by_cases c : y ≤ 0
    · rw [if_pos c]
      exact ⟨0, by show x = x + 0; omega, fun _ => .inr c, fun j h => absurd h (by omega)⟩
    · rw [if_neg c]
      obtain ⟨k, a1, a2, a3⟩ := zl374_n (Y := Y) m (x + 1) (y / 10) (by omega)
      refine ⟨k + 1, by rw [a1]; omega, fun e => by omega, fun j hj => ?_⟩
      cases j with
      | zero => show 0 < y; omega
      | succ j => exact a3 j (by omega)
