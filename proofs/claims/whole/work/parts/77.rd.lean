/-! rounds: where an inspector looks -/
theorem z2bit (x : Int) : z2 (fun x y => x &&& y) x 1 = 0 ∨ z2 (fun x y => x &&& y) x 1 = 1 := by
  show (i3 x &&& i3 1).toInt = 0 ∨ (i3 x &&& i3 1).toInt = 1
  have h : ∀ a : Int32, a &&& 1 = 0 ∨ a &&& 1 = 1 := by
    intro a
    have e := BitVec.and_one_eq_setWidth_ofBool_getLsbD (x := a.toBitVec)
    cases g : a.toBitVec.getLsbD 0
    · left
      apply Int32.toBitVec_inj.mp
      rw [Int32.toBitVec_and]
      show a.toBitVec &&& 1#32 = 0#32
      rw [e, g]
      rfl
    · right
      apply Int32.toBitVec_inj.mp
      rw [Int32.toBitVec_and]
      show a.toBitVec &&& 1#32 = 1#32
      rw [e, g]
      rfl
  rcases h (i3 x) with h | h
  · left
    rw [show i3 1 = (1 : Int32) from rfl, h]
    rfl
  · right
    rw [show i3 1 = (1 : Int32) from rfl, h]
    rfl
theorem rr_139 {b k t : Int} {Z Y : qz_Z} (hRa : zR b Z Y) (hV : zV Y) (hNk : zNk Y) (k0 : 0 ≤ k) (k1 : k < 2) (t0 : 0 ≤ t) : (zf_139 Z b k t = -1 ∧ zf_355 Y k t = 0) ∨ (zf_139 Z b k t = zf_355 Y k t ∧ 1 ≤ zf_355 Y k t ∧ zf_355 Y k t ≤ 7) := by
  obtain ⟨n0, n1, n2⟩ := hNk k k0 k1
  unfold zf_139 zf_355
  simp only [zlet]
  rw [zRl_51_0 (x := k) (a := 3520 + 10 * k) hRa k0 k1 rfl, zRl_51_2 (x := k) (a := 3522 + 10 * k) hRa k0 k1 rfl, zRl_51_3 (x := k) (a := 3523 + 10 * k) hRa k0 k1 rfl]
  generalize Y 2 0 0 (3523 + 10 * k) = S at n0 n1 n2 ⊢
  generalize Y 2 0 0 (3522 + 10 * k) = W
  generalize Y 2 0 0 (3520 + 10 * k) = H
  have e : zf_133 Z S = zf_374 Y S := rr_133 (Y := Y) (by omega) rfl rfl
  obtain ⟨n, a1, a2, a3⟩ := zl374_n (Y := Y) (zlog S + 1) 0 S n0
  have e2 : zf_374 Y S = (n : Int) := by
    show (zl_374_1 (zlog S + 1) Y 0 S).1 = _
    rw [a1]
    omega
  have hn : n ≤ 6 := by
    by_cases c : n ≤ 6
    · exact c
    · have := a3 6 (by omega)
      simp only [zdv] at this
      omega
  rw [e, e2]
  have bit := z2bit (z2 (fun x y => x >>> (y &&& 31)) W (t / 24 % 7))
  generalize z2 (fun x y => x &&& y) (z2 (fun x y => x >>> (y &&& 31)) W (t / 24 % 7)) 1 = B at bit
  by_cases c1 : t % 24 - H < 0
  · left
    rw [if_pos c1, if_pos c1]
    refine ⟨rfl, ?_⟩
    split <;> rfl
  rw [if_neg c1, if_neg c1]
  by_cases c2 : (n : Int) - 1 - (t % 24 - H) < 0
  · left
    rw [if_pos c2, if_pos (show (n : Int) - 1 < t % 24 - H by omega)]
    refine ⟨rfl, ?_⟩
    split <;> rfl
  rw [if_neg c2, if_neg (show ¬ (n : Int) - 1 < t % 24 - H by omega)]
  rcases bit with rfl | rfl
  · left
    exact ⟨by rw [if_neg (by omega)], by rw [if_pos (by omega)]⟩
  right
  rw [if_pos (show (1 : Int) ≠ 0 by omega), if_neg (show ¬ (1 : Int) ≠ 1 by omega)]
  have d1 : zlet2 (zl_139_1 ((n : Int) - 1 - (t % 24 - H)) 28 Z S 0) (fun y11 y12 => (y11 % 10)) = zdv ((n : Int) - 1 - (t % 24 - H)).toNat S % 10 := by
    show (zl_139_1 ((n : Int) - 1 - (t % 24 - H)) 28 Z S 0).1 % 10 = _
    rw [zl139 28 0 S n0 (by omega) (by omega), Int.sub_zero]
  have d2 : zf_373 Y S (t % 24 - H) = zdv ((n : Int) - 1 - (t % 24 - H)).toNat S % 10 := by
    unfold zf_373
    simp only [zlet]
    rw [e2]
    show (zl_373_1 (t % 24 - H) _ Y S ((n : Int) - 1)).1 % 10 = _
    rw [zl373 _ _ _ (by omega)]
  rw [d1, d2]
  have g := n2 _ (a3 ((n : Int) - 1 - (t % 24 - H)).toNat (by omega))
  exact ⟨rfl, g⟩
theorem rl_140 {b k w : Int} {Z Y : qz_Z} (hRa : zR b Z Y) (hV : zV Y) (hNk : zNk Y) (k0 : 0 ≤ k) (k1 : k < 2) : ∀ (m : Nat) (x : Int), 0 ≤ x → ((∃ y, zl_140_1 b k w m Z x = .inl y) ∧ (∃ y, zl_367_1 k m Y x = .inl y)) ∨ (∃ y, zl_367_1 k m Y x = .inr y ∧ zl_140_1 b k w m Z x = .inr (if w ≠ 8 then zf_355 Y k y else y) ∧ 0 ≤ y)
  | 0, x, _ => .inl ⟨⟨_, rfl⟩, ⟨_, rfl⟩⟩
  | m + 1, x, h => by
    unfold zl_140_1 zl_367_1
    simp only [zlet]
    by_cases c : 671 < x
    · rw [if_pos c, if_pos (by omega)]
      exact .inl ⟨⟨_, rfl⟩, ⟨_, rfl⟩⟩
    rw [if_neg c, if_neg (show ¬ 672 ≤ x by omega)]
    rcases rr_139 hRa hV hNk k0 k1 h with ⟨g1, g2⟩ | ⟨g1, g2, g3⟩
    · rw [if_pos g1, if_pos (by omega)]
      exact rl_140 hRa hV hNk k0 k1 m (x + 1) (by omega)
    · rw [if_neg (by omega), if_neg (show ¬ zf_355 Y k x ≤ 0 by omega)]
      refine .inr ⟨x, rfl, ?_, h⟩
      rw [g1]
      split <;> rfl
theorem rf_looked {Z Y : qz_Z} {dm : qz_Z → Int → Int → Int → Int → Int → Int → Int → qz_Z} {a1 a2 : Int} (hRa : zR 0 Z Y) (hV : zV Y) (hNk : zNk Y) {C : qz_Z × Int × Int} {M : qz_Z × Int} (hC : zE C (zx_216 Z a1 a2)) (hM : zE M (zy_427 Y a1 a2)) : zPq [(24, 1), (13, 2)] Z Y dm C M := by
  have hc : C = _ := hC
  have hm : M = _ := hM
  rw [hc, hm]
  unfold zx_216 zy_427
  simp only [zlet]
  have r3 := zRl_11_9 (a := 3500) hRa rfl
  have v3 := zVr_11_9 (a := 3500) hV rfl
  by_cases h1 : a1 < 0
  · rw [if_neg (by omega), if_pos h1]
    exact zPq_e hRa hV zqY_0 (by decide)
  rw [if_neg h1]
  by_cases h2 : Y 2 0 0 3500 - 1 < a1
  · rw [if_neg (by omega), if_pos h2]
    exact zPq_e hRa hV zqY_0 (by decide)
  rw [if_neg h2, if_pos (by omega)]
  by_cases h3 : a2 < 0
  · rw [if_pos h3, if_neg (by omega)]
    exact zPq_e hRa hV (zqY_u zqY_0) (by decide)
  rw [if_neg h3]
  by_cases h4 : 9 < a2
  · rw [if_pos h4, if_neg (by omega)]
    exact zPq_e hRa hV (zqY_u zqY_0) (by decide)
  rw [if_neg h4, if_pos (show 0 ≤ a2 ∧ a2 ≤ 9 by omega)]
  obtain ⟨Y1, hY1⟩ : ∃ Y1, Y1 = zu Y 1 0 0 2 0 := ⟨_, rfl⟩
  rw [← hY1]
  have q1 : zqY Y Y1 := by rw [hY1]; exact zqY_u zqY_0
  obtain ⟨Y2, hY2⟩ : ∃ Y2, Y2 = zu Y1 1 0 0 2 0 := ⟨_, rfl⟩
  rw [← hY2]
  have q2 : zqY Y Y2 := by rw [hY2]; exact zqY_u q1
  have R2 : zR 0 Z Y2 := zR_e hRa (fun _ _ _ _ => rfl) q2.1
  have V2 : zV Y2 := zV_e hV q2.1
  have N2 : zNk Y2 := fun k h0 h1 => by
    rw [q2.1]
    exact hNk k h0 h1
  have b0 : 0 ≤ a1 := by omega
  have b1 : a1 < 2 := by omega
  have ans : ∀ {v v' : Int}, v = v' → zPq [(24, 1), (13, 2)] Z Y dm (Z, v, 0) (Y2, v') := fun e => by
    rw [hY2]
    exact zPq_a hRa hV q1 e
  unfold zf_140
  by_cases h8 : 8 ≤ a2
  · rw [if_pos h8, if_pos h8]
    have v13 := zVr_11_13 (a := 0) V2 rfl
    have r13 := zRl_11_13 (a := 0) R2 rfl
    unfold zf_367
    rw [r13]
    rcases rl_140 (w := a2) R2 V2 N2 b0 b1 ((672 - (Y2 2 0 0 0 + 1)).toNat + 1) (Y2 2 0 0 0 + 1) (by omega) with ⟨⟨y1, g1⟩, ⟨y2, g2⟩⟩ | ⟨y, g1, g2, g3⟩
    · rw [g1, g2]
      show zPq _ Z Y dm (Z, -1, 0) (if a2 = 8 then (Y2, -1) else if (-1 : Int) ≠ -1 then _ else (Y2, -1))
      rw [if_neg (show ¬ (-1 : Int) ≠ -1 by omega)]
      split <;> exact ans rfl
    · rw [g1, g2]
      show zPq _ Z Y dm (Z, (if a2 ≠ 8 then zf_355 Y2 a1 y else y), 0) (if a2 = 8 then (Y2, y) else if y ≠ -1 then (Y2, zf_355 Y2 a1 y) else (Y2, y))
      by_cases e : a2 = 8
      · rw [if_pos e, if_neg (by omega)]
        exact ans rfl
      · rw [if_neg e, if_pos e, if_pos (by omega)]
        exact ans rfl
  · rw [if_neg h8, if_neg h8]
    refine ans ?_
    have c : a2 = 0 ∨ a2 = 1 ∨ a2 = 2 ∨ a2 = 3 ∨ a2 = 4 ∨ a2 = 5 ∨ a2 = 6 ∨ a2 = 7 := by omega
    rcases c with rfl | rfl | rfl | rfl | rfl | rfl | rfl | rfl
    · exact zRl_51_0 R2 b0 b1 (by omega)
    · exact zRl_51_1 R2 b0 b1 (by omega)
    · exact zRl_51_2 R2 b0 b1 (by omega)
    · exact zRl_51_3 R2 b0 b1 (by omega)
    · exact zRl_51_4 R2 b0 b1 (by omega)
    · exact zRl_51_5 R2 b0 b1 (by omega)
    · exact zRl_51_6 R2 b0 b1 (by omega)
    · exact zRl_51_7 R2 b0 b1 (by omega)
theorem z361_d {Y : qz_Z} (hr : Y 2 0 0 1200 ≤ 6) : ∀ (n : Nat) (x : Int), 0 ≤ x → x ≤ 2147483647 → (zl_361_1 (zlog x + 1) Y 1 x).1 ≠ 0 → 0 < zdv n x → 1 ≤ zdv n x % 10 ∧ zdv n x % 10 ≤ 7
  | 0, x, h0, h1, h, p => by
    obtain ⟨a1, a2, _⟩ := zl361_1 hr h p
    exact ⟨a1, a2⟩
  | n + 1, x, h0, h1, h, p => by
    have s := zlog_s x h1
    by_cases c : x ≤ 0
    · exfalso
      have e : x = 0 := by omega
      rw [e] at p
      have z : ∀ n, zdv n 0 = 0 := fun n => by
        induction n with
        | zero => rfl
        | succ n ih => exact ih
      rw [z] at p
      omega
    · obtain ⟨_, _, z⟩ := zl361_1 hr h (by omega)
      rw [show zlog x = zlog (x / 10) + 1 by omega] at z
      exact z361_d hr n (x / 10) (by omega) (by omega) z p
theorem z361_s {Y : qz_Z} {x v : Int} (hV : zV Y) (h : v = zf_361 Y x) (n : v ≠ 0) : 0 ≤ x ∧ x ≤ 777777 ∧ ∀ n : Nat, 0 < zdv n x → 1 ≤ zdv n x % 10 ∧ zdv n x % 10 ≤ 7 := by
  rw [h] at n
  unfold zf_361 at n
  have z2_ : ∀ m x, zlet2 (zl_361_1 m Y 0 x) (fun y2 y3 => y2) = 0 := fun m x => zl361_0 m x
  by_cases c : x < 0
  · rw [if_pos c, z2_] at n
    exact absurd rfl n
  rw [if_neg c] at n
  by_cases d : 777777 < x
  · rw [if_pos d, z2_] at n
    exact absurd rfl n
  rw [if_neg d] at n
  have v := zVr_11_2 (a := 1200) hV rfl
  exact ⟨by omega, by omega, fun j p => z361_d v.2 j x (by omega) (by omega) n p⟩
theorem zNk_put {Y M : qz_Z} {q x : Int} (h : zNk Y) (f : ∀ k : Int, k ≠ q → 0 ≤ k → k < 2 → M 2 0 0 (3523 + 10 * k) = Y 2 0 0 (3523 + 10 * k)) (g : M 2 0 0 (3523 + 10 * q) = x) (d : 0 ≤ x ∧ x ≤ 777777 ∧ ∀ n : Nat, 0 < zdv n x → 1 ≤ zdv n x % 10 ∧ zdv n x % 10 ≤ 7) : zNk M := fun k h0 h1 => by
  by_cases e : k = q
  · rw [e, g]
    exact d
  · rw [f k e h0 h1]
    exact h k h0 h1
theorem rr_129r {b x : Int} {Z Y : qz_Z} (hRa : zR b Z Y) (hV : zV Y) {C M : Int} (hC : zE C (zf_129 Z b x)) (hM : zE M (zf_361 Y x)) : C = M := rr_129 hRa hV hC hM
theorem rr_133r {b x : Int} {Z Y : qz_Z} (_ : zR b Z Y) (_ : zV Y) (h : x ≤ 2147483647) {C M : Int} (hC : zE C (zf_133 Z x)) (hM : zE M (zf_374 Y x)) : C = M := rr_133 h hC hM
