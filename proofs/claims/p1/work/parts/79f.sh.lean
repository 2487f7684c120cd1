/-! SHARES -/
def sh_S (a b c t : Int) : Int := if t = 0 then a else if t = 1 then b else c
def sh_Q (c w0 w1 w2 t : Int) : Int := c * sh_S w0 w1 w2 t / (w0 + w1 + w2)
def sh_R (c w0 w1 w2 t : Int) : Int := c * sh_S w0 w1 w2 t % (w0 + w1 + w2)
/-- whether `n` stands ahead of `who` -/
def sh_g (r0 r1 r2 who n : Int) : Int := if n = who then 0 else if sh_S r0 r1 r2 who < sh_S r0 r1 r2 n then 1 else if sh_S r0 r1 r2 n ≠ sh_S r0 r1 r2 who then 0 else if who ≤ n then 0 else 1
def sh_v (c w0 w1 w2 who : Int) : Int := sh_Q c w0 w1 w2 who + if c - sh_Q c w0 w1 w2 0 - sh_Q c w0 w1 w2 1 - sh_Q c w0 w1 w2 2 ≤ sh_g (sh_R c w0 w1 w2 0) (sh_R c w0 w1 w2 1) (sh_R c w0 w1 w2 2) who 0 + sh_g (sh_R c w0 w1 w2 0) (sh_R c w0 w1 w2 1) (sh_R c w0 w1 w2 2) who 1 + sh_g (sh_R c w0 w1 w2 0) (sh_R c w0 w1 w2 1) (sh_R c w0 w1 w2 2) who 2 then 0 else 1
def sh_ok (c w0 w1 w2 : Int) : Prop := (0 ≤ c ∧ c ≤ 999999) ∧ (0 ≤ w0 ∧ w0 ≤ 999) ∧ (0 ≤ w1 ∧ w1 ≤ 999) ∧ (0 ≤ w2 ∧ w2 ≤ 999) ∧ 1 ≤ w0 + w1 + w2
theorem sh_c {a w : Int} (h : 0 ≤ a ∧ a ≤ 999999) (g : 0 ≤ w ∧ w ≤ 999) : 0 ≤ a * w ∧ a * w ≤ 998999001 := z_mul h.1 h.2 g.1 g.2
theorem sh_b {c w0 w1 w2 : Int} (h : sh_ok c w0 w1 w2) (t : Int) : (0 ≤ sh_S w0 w1 w2 t ∧ sh_S w0 w1 w2 t ≤ 999) ∧ (0 ≤ sh_Q c w0 w1 w2 t ∧ sh_Q c w0 w1 w2 t ≤ 999999) ∧ (0 ≤ sh_R c w0 w1 w2 t ∧ sh_R c w0 w1 w2 t < w0 + w1 + w2) ∧ c * sh_S w0 w1 w2 t = sh_R c w0 w1 w2 t + (w0 + w1 + w2) * sh_Q c w0 w1 w2 t := by
  obtain ⟨h0, h1, h2, h3, h4⟩ := h
  have hs : 0 ≤ sh_S w0 w1 w2 t ∧ sh_S w0 w1 w2 t ≤ 999 ∧ sh_S w0 w1 w2 t ≤ w0 + w1 + w2 := by
    unfold sh_S
    split <;> (try split) <;> omega
  have m := sh_c h0 ⟨hs.1, hs.2.1⟩
  have hm := z_mod (c * sh_S w0 w1 w2 t) (show 0 < w0 + w1 + w2 by omega)
  have e := Int.emod_add_mul_ediv (c * sh_S w0 w1 w2 t) (w0 + w1 + w2)
  have q0 : 0 ≤ c * sh_S w0 w1 w2 t / (w0 + w1 + w2) := Int.ediv_nonneg m.1 (by omega)
  have q1 : c * sh_S w0 w1 w2 t / (w0 + w1 + w2) ≤ c := by
    refine Int.ediv_le_of_le_mul (by omega) ?_
    exact Int.mul_le_mul_of_nonneg_left hs.2.2 h0.1
  exact ⟨⟨hs.1, hs.2.1⟩, ⟨q0, by show c * sh_S w0 w1 w2 t / (w0 + w1 + w2) ≤ _; omega⟩, hm, e.symm⟩
theorem sh_l {c w0 w1 w2 : Int} (h : sh_ok c w0 w1 w2) : 0 ≤ c - sh_Q c w0 w1 w2 0 - sh_Q c w0 w1 w2 1 - sh_Q c w0 w1 w2 2 ∧ c - sh_Q c w0 w1 w2 0 - sh_Q c w0 w1 w2 1 - sh_Q c w0 w1 w2 2 ≤ 2 := by
  have b0 := sh_b h 0
  have b1 := sh_b h 1
  have b2 := sh_b h 2
  have s0 : sh_S w0 w1 w2 0 = w0 := rfl
  have s1 : sh_S w0 w1 w2 1 = w1 := rfl
  have s2 : sh_S w0 w1 w2 2 = w2 := rfl
  rw [s0] at b0
  rw [s1] at b1
  rw [s2] at b2
  obtain ⟨-, -, -, -, h4⟩ := h
  revert b0 b1 b2
  generalize sh_Q c w0 w1 w2 0 = q0
  generalize sh_Q c w0 w1 w2 1 = q1
  generalize sh_Q c w0 w1 w2 2 = q2
  generalize sh_R c w0 w1 w2 0 = r0
  generalize sh_R c w0 w1 w2 1 = r1
  generalize sh_R c w0 w1 w2 2 = r2
  intro b0 b1 b2
  have e : (w0 + w1 + w2) * (c - q0 - q1 - q2) = r0 + r1 + r2 := by
    have e1 : (w0 + w1 + w2) * (c - q0 - q1 - q2) = c * w0 + c * w1 + c * w2 - (w0 + w1 + w2) * q0 - (w0 + w1 + w2) * q1 - (w0 + w1 + w2) * q2 := by
      rw [Int.mul_sub, Int.mul_sub, Int.mul_sub, Int.mul_comm (w0 + w1 + w2) c, Int.mul_add, Int.mul_add]
    have := b0.2.2.2
    have := b1.2.2.2
    have := b2.2.2.2
    omega
  generalize c - q0 - q1 - q2 = l at e ⊢
  generalize w0 + w1 + w2 = A at e h4 b0 b1 b2
  refine ⟨Int.not_lt.mp fun q => ?_, Int.not_lt.mp fun q => ?_⟩
  · have : A * l ≤ A * (-1) := Int.mul_le_mul_of_nonneg_left (by omega) (by omega)
    omega
  · have : A * 3 ≤ A * l := Int.mul_le_mul_of_nonneg_left (by omega) (by omega)
    omega
/-! the reference's -/
theorem sh_418 {c w0 w1 w2 who : Int} (h : sh_ok c w0 w1 w2) (hw : 0 ≤ who ∧ who ≤ 2) (μ : qz_M) : qf_418 [.inl (i3 c), .inl (i3 w0), .inl (i3 w1), .inl (i3 w2), .inl (i3 who)] μ = some (μ, .inl (some (.inl (i3 (sh_v c w0 w1 w2 who))))) := by
  have h' := h
  obtain ⟨h0, h1, h2, h3, h4⟩ := h'
  have b0 := sh_b h 0
  have b1 := sh_b h 1
  have b2 := sh_b h 2
  have bw := sh_b h who
  have hl := sh_l h
  have cm := fun {w : Int} (g : 0 ≤ w ∧ w ≤ 999) => sh_c h0 g
  have eA : i3 w0 + i3 w1 + i3 w2 = i3 (w0 + w1 + w2) := i3A (i3A rfl rfl) rfl
  have eQ : ∀ {w : Int} {t : Int}, 0 ≤ w ∧ w ≤ 999 → sh_S w0 w1 w2 t = w → i3 c * i3 w / i3 (w0 + w1 + w2) = i3 (sh_Q c w0 w1 w2 t) := fun {w t} g e => by
    subst e
    exact i3D (i3M rfl rfl) rfl (cm g).1 (by have := (cm g).2; omega) (by omega) (by omega)
  have eR : ∀ {w : Int} {t : Int}, 0 ≤ w ∧ w ≤ 999 → sh_S w0 w1 w2 t = w → i3 c * i3 w - i3 c * i3 w / i3 (w0 + w1 + w2) * i3 (w0 + w1 + w2) = i3 (sh_R c w0 w1 w2 t) := fun {w t} g e => by
    subst e
    exact i3R (i3M rfl rfl) rfl (cm g).1 (by have := (cm g).2; omega) (by omega) (by omega)
  have nz : decide (i3 (w0 + w1 + w2) = 0) = false := i3N0 rfl (by omega) (by omega) (by omega)
  have loop : ∀ L, L = [some (.inl (i3 c)), some (.inl (i3 w0)), some (.inl (i3 w1)), some (.inl (i3 w2)), some (.inl (i3 who)), some (.inl (i3 (w0 + w1 + w2))), some (.inl (i3 (c - sh_Q c w0 w1 w2 0 - sh_Q c w0 w1 w2 1 - sh_Q c w0 w1 w2 2))), some (.inl (i3 (sh_S w0 w1 w2 who))), some (.inl (0 : Int32)), some (.inl (0 : Int32)), none] → wz_loop qb_418_1 65536 (wz_sk gc_418_2 wz_k0 (fun μ2 o2 => μ2 = μ ∧ o2 = .inl (some (.inl (i3 (sh_v c w0 w1 w2 who)))))) (fun μ2 o2 => μ2 = μ ∧ o2 = .inl (some (.inl (i3 (sh_v c w0 w1 w2 who))))) (L, [], μ) := by
    rintro L rfl
    -- one turn
    have turn : ∀ {N : Nat} {L : qz_L} {g n wn : Int}, (0 ≤ n ∧ n ≤ 2) → wn = sh_S w0 w1 w2 n → (0 ≤ g ∧ g ≤ 2) → qz_fg [true, true, true, true, true, true, true, true, true, true, false] L = [some (.inl (i3 c)), some (.inl (i3 w0)), some (.inl (i3 w1)), some (.inl (i3 w2)), some (.inl (i3 who)), some (.inl (i3 (w0 + w1 + w2))), some (.inl (i3 (c - sh_Q c w0 w1 w2 0 - sh_Q c w0 w1 w2 1 - sh_Q c w0 w1 w2 2))), some (.inl (i3 (sh_S w0 w1 w2 who))), some (.inl (i3 g)), some (.inl (i3 n)), none] →
      (∀ L', qz_fg [true, true, true, true, true, true, true, true, true, true, false] L' = [some (.inl (i3 c)), some (.inl (i3 w0)), some (.inl (i3 w1)), some (.inl (i3 w2)), some (.inl (i3 who)), some (.inl (i3 (w0 + w1 + w2))), some (.inl (i3 (c - sh_Q c w0 w1 w2 0 - sh_Q c w0 w1 w2 1 - sh_Q c w0 w1 w2 2))), some (.inl (i3 (sh_S w0 w1 w2 who))), some (.inl (i3 (g + sh_g (sh_R c w0 w1 w2 0) (sh_R c w0 w1 w2 1) (sh_R c w0 w1 w2 2) who n))), some (.inl (i3 (n + 1))), none] → wz_loop qb_418_1 N (wz_sk gc_418_2 wz_k0 (fun μ2 o2 => μ2 = μ ∧ o2 = .inl (some (.inl (i3 (sh_v c w0 w1 w2 who)))))) (fun μ2 o2 => μ2 = μ ∧ o2 = .inl (some (.inl (i3 (sh_v c w0 w1 w2 who))))) (L', [], μ)) →
      wz_loop qb_418_1 (N + 1) (wz_sk gc_418_2 wz_k0 (fun μ2 o2 => μ2 = μ ∧ o2 = .inl (some (.inl (i3 (sh_v c w0 w1 w2 who)))))) (fun μ2 o2 => μ2 = μ ∧ o2 = .inl (some (.inl (i3 (sh_v c w0 w1 w2 who))))) (L, [], μ) := by
      intro N L g n wn hn hwn hg hL hk
      refine wz_lu sb_418_1 N (fb_418_1 _ _ _ _ _ _ _ _ _ _ _ _ _ _ hL ?_)
      refine wz_i0 (Eq.trans (i3Le (show (3 : Int32) = i3 3 from rfl) (rfl : i3 n = i3 n) (by omega) (by omega) (by omega) (by omega)) (decide_eq_false (by omega))) ?_
      have sS : ∀ t, sh_S (sh_R c w0 w1 w2 0) (sh_R c w0 w1 w2 1) (sh_R c w0 w1 w2 2) t = sh_R c w0 w1 w2 t := fun t => by
        show (if t = 0 then _ else if t = 1 then _ else _) = c * (if t = 0 then _ else if t = 1 then _ else _) % _
        split
        · rfl
        · split
          · rfl
          · rfl
      have bn := sh_b h n
      -- the turn's tail, for the weight of n
      have tail : ∀ w, w = sh_S w0 w1 w2 n → ∀ K : Int32 → Prop, (∀ d : Int, d = sh_g (sh_R c w0 w1 w2 0) (sh_R c w0 w1 w2 1) (sh_R c w0 w1 w2 2) who n → ∀ d32 : Int32, d32 = i3 d → K d32) →
          (bif decide (i3 (w0 + w1 + w2) = 0) then False else (bif decide (i3 n = i3 who) then K 0 else (bif decide (i3 (w0 + w1 + w2) = 0) then False else (bif decide ((i3 c * i3 (sh_S w0 w1 w2 who) - i3 c * i3 (sh_S w0 w1 w2 who) / i3 (w0 + w1 + w2) * i3 (w0 + w1 + w2)) < (i3 c * i3 w - i3 c * i3 w / i3 (w0 + w1 + w2) * i3 (w0 + w1 + w2))) then K 1 else (bif (!decide ((i3 c * i3 w - i3 c * i3 w / i3 (w0 + w1 + w2) * i3 (w0 + w1 + w2)) = (i3 c * i3 (sh_S w0 w1 w2 who) - i3 c * i3 (sh_S w0 w1 w2 who) / i3 (w0 + w1 + w2) * i3 (w0 + w1 + w2)))) then K 0 else (bif decide (i3 who ≤ i3 n) then K 0 else K 1)))))) := by
        intro w hw2 K hK
        have r1 := eR bw.1 (t := who) rfl
        have r2 := eR (hw2 ▸ bn.1) (t := n) hw2.symm
        have G : ∀ d : Int, (sh_g (sh_R c w0 w1 w2 0) (sh_R c w0 w1 w2 1) (sh_R c w0 w1 w2 2) who n = d) → ∀ d32 : Int32, d32 = i3 d → K d32 := fun d e d32 e2 => hK d e.symm d32 e2
        unfold sh_g at G
        rw [sS, sS] at G
        refine wz_i0 nz ?_
        refine wz_br (i3E (rfl : i3 n = i3 n) (rfl : i3 who = i3 who) (by omega) (by omega) (by omega) (by omega)) (fun q => G 0 (if_pos q) _ rfl) (fun q => wz_i0 nz ?_)
        refine wz_br (i3L r1 r2 (by omega) (by omega) (by omega) (by omega)) (fun q2 => G 1 (by rw [if_neg q, if_pos q2]) _ rfl) (fun q2 => ?_)
        refine wz_br (i3NE r2 r1 (by omega) (by omega) (by omega) (by omega)) (fun q3 => G 0 (by rw [if_neg q, if_neg q2, if_pos q3]) _ rfl) (fun q3 => ?_)
        exact wz_br (i3Le (rfl : i3 who = i3 who) (rfl : i3 n = i3 n) (by omega) (by omega) (by omega) (by omega)) (fun q4 => G 0 (by rw [if_neg q, if_neg q2, if_neg q3, if_pos q4]) _ rfl) (fun q4 => G 1 (by rw [if_neg q, if_neg q2, if_neg q3, if_neg q4]) _ rfl)
      have fin : ∀ v10 : Int32, ∀ d : Int, d = sh_g (sh_R c w0 w1 w2 0) (sh_R c w0 w1 w2 1) (sh_R c w0 w1 w2 2) who n → ∀ d32 : Int32, d32 = i3 d → (wz_lk (wz_sk gc_418_2 wz_k0 (fun μ2 o2 => μ2 = μ ∧ o2 = .inl (some (.inl (i3 (sh_v c w0 w1 w2 who)))))) (fun x' => wz_loop qb_418_1 N (wz_sk gc_418_2 wz_k0 (fun μ2 o2 => μ2 = μ ∧ o2 = .inl (some (.inl (i3 (sh_v c w0 w1 w2 who)))))) (fun μ2 o2 => μ2 = μ ∧ o2 = .inl (some (.inl (i3 (sh_v c w0 w1 w2 who))))) x')) 1 ([some (.inl (i3 c)), some (.inl (i3 w0)), some (.inl (i3 w1)), some (.inl (i3 w2)), some (.inl (i3 who)), some (.inl (i3 (w0 + w1 + w2))), some (.inl (i3 (c - sh_Q c w0 w1 w2 0 - sh_Q c w0 w1 w2 1 - sh_Q c w0 w1 w2 2))), some (.inl (i3 (sh_S w0 w1 w2 who))), some (.inl (i3 g + d32)), some (.inl (i3 n + (1 : Int32))), some (.inl v10)], [], μ) := by
        intro v10 d hd d32 e
        subst hd e
        refine wz_k1 (hk _ ?_)
        show [_, _, _, _, _, _, _, _, some (Sum.inl (i3 g + i3 (sh_g (sh_R c w0 w1 w2 0) (sh_R c w0 w1 w2 1) (sh_R c w0 w1 w2 2) who n))), some (Sum.inl (i3 n + 1)), none] = _
        rw [i3_add, show (1 : Int32) = i3 1 from rfl, i3_add] <;> rfl
      refine wz_br (i3NE (rfl : i3 n = i3 n) (show (0 : Int32) = i3 0 from rfl) (by omega) (by omega) (by omega) (by omega)) (fun q => ?_) (fun q => ?_)
      · refine wz_br (i3NE (rfl : i3 n = i3 n) (show (1 : Int32) = i3 1 from rfl) (by omega) (by omega) (by omega) (by omega)) (fun q2 => ?_) (fun q2 => ?_)
        · have e : w2 = sh_S w0 w1 w2 n := by unfold sh_S; rw [if_neg q, if_neg q2]
          exact tail w2 e (fun d32 => wz_lk _ _ 1 ([_, _, _, _, _, _, _, _, some (.inl (i3 g + d32)), _, _], [], μ)) (fin _)
        · have e : w1 = sh_S w0 w1 w2 n := by unfold sh_S; rw [if_neg q, if_pos (show n = 1 by omega)]
          exact tail w1 e (fun d32 => wz_lk _ _ 1 ([_, _, _, _, _, _, _, _, some (.inl (i3 g + d32)), _, _], [], μ)) (fin _)
      · have e : w0 = sh_S w0 w1 w2 n := by unfold sh_S; rw [if_pos (by omega)]
        exact tail w0 e (fun d32 => wz_lk _ _ 1 ([_, _, _, _, _, _, _, _, some (.inl (i3 g + d32)), _, _], [], μ)) (fin _)
    have gb : ∀ n, 0 ≤ sh_g (sh_R c w0 w1 w2 0) (sh_R c w0 w1 w2 1) (sh_R c w0 w1 w2 2) who n ∧ sh_g (sh_R c w0 w1 w2 0) (sh_R c w0 w1 w2 1) (sh_R c w0 w1 w2 2) who n ≤ 1 := fun n => by
      unfold sh_g
      split <;> (try split) <;> (try split) <;> (try split) <;> omega
    have g0 := gb 0
    have g1 := gb 1
    have g2 := gb 2
    refine turn (N := 65535) (g := 0) (n := 0) (by omega) rfl (by omega) rfl (fun L1 e1 => ?_)
    refine turn (N := 65534) (n := 1) (by omega) rfl (by omega) e1 (fun L2 e2 => ?_)
    refine turn (N := 65533) (n := 2) (by omega) rfl (by omega) e2 (fun L3 e3 => ?_)
    refine wz_lu sb_418_1 65532 (fb_418_1 _ _ _ _ _ _ _ _ _ _ _ _ _ _ e3 ?_)
    refine wz_i1 (Eq.trans (i3Le (show (3 : Int32) = i3 3 from rfl) (rfl : i3 (2 + 1) = i3 (2 + 1)) (by omega) (by omega) (by omega) (by omega)) (decide_eq_true (by omega))) ?_
    refine wz_lk0 (wz_sk0 (fc_418_2 _ _ _ _ _ _ _ _ _ rfl ?_))
    refine wz_i0 nz ?_
    rw [eQ bw.1 (t := who) rfl]
    refine wz_br (i3Le rfl rfl (by omega) (by omega) (by omega) (by omega)) (fun q => ⟨rfl, ?_⟩) (fun q => ⟨rfl, ?_⟩)
    · rw [show (0 : Int32) = i3 0 from rfl, i3_add]
      unfold sh_v
      rw [if_pos (by omega)]
    · rw [show (1 : Int32) = i3 1 from rfl, i3_add]
      unfold sh_v
      rw [if_neg (by omega)]
  refine wz_call_eq (fw_418 (i3 c) (i3 w0) (i3 w1) (i3 w2) (i3 who) μ _ ?_)
  have eL : i3 c - i3 c * i3 w0 / i3 (w0 + w1 + w2) - i3 c * i3 w1 / i3 (w0 + w1 + w2) - i3 c * i3 w2 / i3 (w0 + w1 + w2) = i3 (c - sh_Q c w0 w1 w2 0 - sh_Q c w0 w1 w2 1 - sh_Q c w0 w1 w2 2) := by
    rw [eQ h1 (t := 0) rfl, eQ h2 (t := 1) rfl, eQ h3 (t := 2) rfl, i3_sub, i3_sub, i3_sub]
  rw [eA, eL]
  refine wz_i0 nz (wz_i0 nz (wz_i0 nz ?_))
  refine wz_br (i3NE (rfl : i3 who = i3 who) (show (0 : Int32) = i3 0 from rfl) (by omega) (by omega) (by omega) (by omega)) (fun q => ?_) (fun q => ?_)
  · refine wz_br (i3NE (rfl : i3 who = i3 who) (show (1 : Int32) = i3 1 from rfl) (by omega) (by omega) (by omega) (by omega)) (fun q2 => ?_) (fun q2 => ?_)
    · refine loop _ ?_
      have : sh_S w0 w1 w2 who = w2 := by unfold sh_S; rw [if_neg q, if_neg q2]
      rw [this]
    · refine loop _ ?_
      have : sh_S w0 w1 w2 who = w1 := by unfold sh_S; rw [if_neg q, if_pos (by omega)]
      rw [this]
  · refine loop _ ?_
    have : sh_S w0 w1 w2 who = w0 := by unfold sh_S; rw [if_pos (by omega)]
    rw [this]
/-! the class's -/
def shU (Q : Int → Int) (t v : Int) : Int → Int := fun j => if j = t then v else Q j
def shS (Z0 : qz_Z) (ν0 : qz_N) (n0 n1 : Nat) (W Q R : Int → Int) (Z : qz_Z) (ν : qz_N) : Prop := zI none Z ∧ zJ [69] ν0.2.2.2.1 Z0 Z ∧ zG 2 6 ν0 ν ∧ (ν.2.2.1 n0 = (50, 1, 3) ∧ ν.2.2.1 n1 = (51, 1, 3)) ∧ (∀ j, 0 ≤ j → j < 3 → Z 200 n0 0 j = W j) ∧ (∀ j, 0 ≤ j → j < 3 → Z 69 0 0 j = Q j) ∧ (∀ j : Nat, j < 3 → ν.1 200 n1 0 j = lI (R j))
section SHS
variable {Z0 Z Z1 : qz_Z} {ν0 ν : qz_N} {n0 n1 : Nat} {W Q R : Int → Int}
theorem shS_q (h : shS Z0 ν0 n0 n1 W Q R Z ν) {t v : Int} (hz : Z1 = zu Z 69 0 0 t v) (hv : -2147483648 ≤ v ∧ v ≤ 2147483647) : shS Z0 ν0 n0 n1 W (shU Q t v) R Z1 ν := by
  obtain ⟨h1, h2, h3, h4, h5, h6, h7⟩ := h
  refine ⟨zI_v h1 hz (by decide) (show (-2147483648 : Int) ≤ v ∧ v ≤ 2147483647 from hv) hv (.inl (by decide)), zJ_u h2 hz (.inl rfl), h3, h4, fun j a b => (zu_ne hz (fun q => absurd q.1 (by decide))).trans (h5 j a b), fun j a b => ?_, h7⟩
  show _ = if j = t then v else Q j
  by_cases e : j = t
  · subst e
    rw [if_pos rfl]
    exact zu_at hz
  · rw [if_neg e]
    exact (zu_ne hz (fun q => e q.2.2.2)).trans (h6 j a b)
theorem shS_r (h : shS Z0 ν0 n0 n1 W Q R Z ν) {t : Nat} {v : Int} : shS Z0 ν0 n0 n1 W Q (shU R t v) Z (nwl ν 200 n1 0 t (lI v)) := by
  obtain ⟨h1, h2, h3, h4, h5, h6, h7⟩ := h
  refine ⟨h1, h2, zG_l h3, h4, h5, h6, fun j a => ?_⟩
  show _ = lI (if (j : Int) = t then v else R j)
  by_cases e : j = t
  · subst e
    rw [if_pos rfl]
    exact nwl_at
  · rw [if_neg (fun q => e (by omega))]
    exact (nwl_ne (fun q => e q.2.2.2)).trans (h7 j a)
end SHS
theorem sh_69 (μ : qz_M) : Nat.beq (qz_tag μ (69, 0, 0)) 50 = true := rfl
theorem sh_69l (μ : qz_M) : qz_len μ (69, 0, 0) = 24 := rfl
theorem sh_nat {x : Int} {a : Int32} (p : a = i3 x) (h0 : 0 ≤ x) (h1 : x ≤ 2147483647) : a.toNatClampNeg = x.toNat := by subst p; exact i3_nat h0 (by omega)
/-- a turn of the first loop -/
theorem sh_t1 {Z0 Z : qz_Z} {ν0 ν : qz_N} {n0 n1 : Nat} {Q R : Int → Int} {c w0 w1 w2 l n : Int} (h : sh_ok c w0 w1 w2) (s : shS Z0 ν0 n0 n1 (sh_S w0 w1 w2) Q R Z ν) (hn : 0 ≤ n ∧ n ≤ 2) {N : Nat} {L : qz_L} {K : wz_K} {RR : wz_R}
    (hL : qz_fg [true, false, false, false, true, true, true, false, true, true, true, false, false] L = [some (.inl (i3 c)), none, none, none, some (.inr (.inr (some (69, 0, 0)))), some (.inr (.inr (some (200, n0, 0)))), some (.inr (.inl (lI (w0 + w1 + w2)))), none, some (.inr (.inr (some (200, n1, 0)))), some (.inl (i3 l)), some (.inl (i3 n)), none, none])
    (hk : ∀ Z1 ν1 L', shS Z0 ν0 n0 n1 (sh_S w0 w1 w2) (shU Q n (sh_Q c w0 w1 w2 n)) (shU R n (sh_R c w0 w1 w2 n)) Z1 ν1 → qz_fg [true, false, false, false, true, true, true, false, true, true, true, false, false] L' = [some (.inl (i3 c)), none, none, none, some (.inr (.inr (some (69, 0, 0)))), some (.inr (.inr (some (200, n0, 0)))), some (.inr (.inl (lI (w0 + w1 + w2)))), none, some (.inr (.inr (some (200, n1, 0)))), some (.inl (i3 (l - sh_Q c w0 w1 w2 n))), some (.inl (i3 (n + 1))), none, none] → wz_loop qb_9_1 N K RR (L', [], zm Z1 ν1)) : wz_loop qb_9_1 (N + 1) K RR (L, [], zm Z ν) := by
  have b := sh_b h n
  have cm := sh_c h.1 b.1
  obtain ⟨h0, h1, h2, h3, h4⟩ := h
  refine wz_lu sb_9_1 N (fb_9_1 _ _ _ _ _ _ _ _ _ _ _ hL ?_)
  refine wz_i0 (Eq.trans (i3Le (show (3 : Int32) = i3 3 from rfl) (rfl : i3 n = i3 n) (by omega) (by omega) (by omega) (by omega)) (decide_eq_false (by omega))) ?_
  have hnn : (i3 n).toNatClampNeg = n.toNat := i3_nat hn.1 (by omega)
  have o3 : pz_out (i3 n) 3 = false := i3O rfl hn.1 (by show n < (3 : Int); omega) (by decide)
  have o24 : pz_out (i3 n) 24 = false := i3O rfl hn.1 (by show n < (24 : Int); omega) (by decide)
  have t0 : Nat.beq (qz_tag (zm Z ν) (200, n0, 0)) 50 = true := by rw [zt_tag s.2.2.2.1.1 (by decide)]; rfl
  have l0 : qz_len (zm Z ν) (200, n0, 0) = 3 := zt_len s.2.2.2.1.1
  have z0 : decide (lI (w0 + w1 + w2) = 0) = false := lI_z (by omega) (by omega)
  have rd : qz_im (zm Z ν) 200 n0 0 (i3 n).toNatClampNeg = i3 (sh_S w0 w1 w2 n) := by
    rw [hnn, zm_rd rfl rfl (show ((n.toNat : Nat) : Int) = n by omega)]
    exact congrArg i3 (s.2.2.2.2.1 n hn.1 (by omega))
  have part : (i3 c).toInt64 * (qz_im (zm Z ν) 200 n0 0 (i3 n).toNatClampNeg).toInt64 = lI (c * sh_S w0 w1 w2 n) := by
    rw [rd, lI_3 (by omega) (by omega), lI_3 (by omega) (by omega), lI_mul]
  rw [part]
  refine wz_i1 (by rw [t0]; rfl) (wz_i0 (by rw [l0]; exact o3) (wz_i0 z0 (wz_i1 (sh_69 _) (wz_i0 (by rw [sh_69l]; exact o24) ?_))))
  intro μ1 e1
  obtain ⟨Z1, hZ1⟩ := zx (zu Z 69 0 0 n (sh_Q c w0 w1 w2 n))
  replace e1 := e1.trans (zm_wI (Z := Z) (ν := ν) hZ1 rfl rfl (show (((i3 n).toNatClampNeg : Nat) : Int) = n by rw [hnn]; omega) (show _ = i3 (sh_Q c w0 w1 w2 n) from by
    rw [lI_div cm.1 (by omega) (by omega) (by omega), lI_i]; rfl))
  subst e1
  have s1 := shS_q s hZ1 (by omega)
  have t1 : Nat.beq (qz_tag (zm Z1 ν) (200, n1, 0)) 51 = true := by rw [zt_tag s.2.2.2.1.2 (by decide)]; rfl
  have l1 : qz_len (zm Z1 ν) (200, n1, 0) = 3 := zt_len s.2.2.2.1.2
  refine wz_i0 z0 (wz_i1 t1 (wz_i0 (by rw [l1]; exact o3) ?_))
  intro μ2 e2
  rw [lI_mod cm.1 (by omega) (by omega) (by omega), zm_wL, hnn] at e2
  subst e2
  have s2 := shS_r s1 (t := n.toNat) (v := sh_R c w0 w1 w2 n)
  rw [show ((n.toNat : Nat) : Int) = n by omega] at s2
  refine wz_i1 rfl (wz_i0 (by rw [sh_69l]; exact o24) (wz_k1 (hk _ _ _ s2 ?_)))
  have rq : qz_im (zm Z1 (nwl ν 200 n1 0 n.toNat (lI (sh_R c w0 w1 w2 n)))) 69 0 0 (i3 n).toNatClampNeg = i3 (sh_Q c w0 w1 w2 n) := by
    rw [hnn, zm_rd rfl rfl (show ((n.toNat : Nat) : Int) = n by omega)]
    exact congrArg i3 (zu_at hZ1)
  show [some (Sum.inl (i3 c)), none, none, none, _, _, _, none, _, some (.inl (i3 l - qz_im (zm Z1 (nwl ν 200 n1 0 n.toNat (lI (sh_R c w0 w1 w2 n)))) 69 0 0 (i3 n).toNatClampNeg)), some (.inl (i3 n + 1)), none, none] = _
  rw [rq, show (1 : Int32) = i3 1 from rfl, i3_sub, i3_add] <;> rfl
def sh_T (r0 r1 r2 : Int) : Int := if r1 ≤ r0 then (if r2 ≤ r0 then 0 else 2) else (if r2 ≤ r1 then 1 else 2)
/-- a turn of the second loop -/
theorem sh_t2 {Z0 Z : qz_Z} {ν0 ν : qz_N} {n0 n1 : Nat} {W Q R : Int → Int} {l m : Int} (s : shS Z0 ν0 n0 n1 W Q R Z ν) (hQ : ∀ j, 0 ≤ j → j < 3 → 0 ≤ Q j ∧ Q j ≤ 1000000) (hR : ∀ j, 0 ≤ j → j < 3 → -1 ≤ R j ∧ R j ≤ 2997) (hl : 0 < l ∧ l ≤ 3) (hm : 0 ≤ m ∧ m ≤ 2) {N : Nat} {L : qz_L} {K : wz_K} {RR : wz_R}
    (hL : qz_fg [false, false, false, false, true, false, false, false, true, true, true, false, false] L = [none, none, none, none, some (.inr (.inr (some (69, 0, 0)))), none, none, none, some (.inr (.inr (some (200, n1, 0)))), some (.inl (i3 l)), some (.inl (i3 m)), none, none])
    (hk : ∀ Z1 ν1 L', shS Z0 ν0 n0 n1 W (shU Q (sh_T (R 0) (R 1) (R 2)) (Q (sh_T (R 0) (R 1) (R 2)) + 1)) (shU R (sh_T (R 0) (R 1) (R 2)) (-1)) Z1 ν1 → qz_fg [false, false, false, false, true, false, false, false, true, true, true, false, false] L' = [none, none, none, none, some (.inr (.inr (some (69, 0, 0)))), none, none, none, some (.inr (.inr (some (200, n1, 0)))), some (.inl (i3 (l - 1))), some (.inl (i3 (m + 1))), none, none] → wz_loop qb_9_4 N K RR (L', [], zm Z1 ν1)) : wz_loop qb_9_4 (N + 1) K RR (L, [], zm Z ν) := by
  refine wz_lu sb_9_4 N (fb_9_4 _ _ _ _ _ _ _ _ hL ?_)
  refine wz_i0 (Eq.trans (i3Le (show (3 : Int32) = i3 3 from rfl) (rfl : i3 m = i3 m) (by omega) (by omega) (by omega) (by omega)) (decide_eq_false (by omega))) ?_
  refine wz_i0 (Eq.trans (i3Le (rfl : i3 l = i3 l) (show (0 : Int32) = i3 0 from rfl) (by omega) (by omega) (by omega) (by omega)) (decide_eq_false (by omega))) ?_
  have t1 : ∀ Z1, Nat.beq (qz_tag (zm Z1 ν) (200, n1, 0)) 51 = true := fun Z1 => by rw [zt_tag s.2.2.2.1.2 (by decide)]; rfl
  have l1 : ∀ Z1, qz_len (zm Z1 ν) (200, n1, 0) = 3 := fun Z1 => zt_len s.2.2.2.1.2
  -- behind the inner loop
  have leaf : ∀ (t : Int) (L' : qz_L), 0 ≤ t → t < 3 → t = sh_T (R 0) (R 1) (R 2) → qz_fg [false, false, false, false, true, false, false, false, true, true, true, true, false] L' = [none, none, none, none, some (.inr (.inr (some (69, 0, 0)))), none, none, none, some (.inr (.inr (some (200, n1, 0)))), some (.inl (i3 l)), some (.inl (i3 m)), some (.inl (i3 t)), none] → gc_9_3 (wz_kb (wz_lk K (fun x' => wz_loop qb_9_4 N K RR x'))) RR (L', [], zm Z ν) := by
    intro t L' ht0 ht3 ht hL'
    rw [← ht] at hk
    have o3 : pz_out (i3 t) 3 = false := i3O rfl ht0 (by show t < (3 : Int); omega) (by decide)
    have o24 : pz_out (i3 t) 24 = false := i3O rfl ht0 (by show t < (24 : Int); omega) (by decide)
    have hnn : (i3 t).toNatClampNeg = t.toNat := i3_nat ht0 (by omega)
    have q1 := hQ t ht0 ht3
    refine fc_9_3 _ _ _ _ _ _ _ _ _ hL' ?_
    refine wz_i1 rfl (wz_i0 (by rw [sh_69l]; exact o24) (wz_i1 rfl (wz_i0 (by rw [sh_69l]; exact o24) ?_)))
    intro μ1 e1
    obtain ⟨Z1, hZ1⟩ := zx (zu Z 69 0 0 t (Q t + 1))
    have rq : qz_im (zm Z ν) 69 0 0 (i3 t).toNatClampNeg = i3 (Q t) := by
      rw [hnn, zm_rd rfl rfl (show ((t.toNat : Nat) : Int) = t by omega)]
      exact congrArg i3 (s.2.2.2.2.2.1 t ht0 ht3)
    replace e1 := e1.trans (zm_wI (Z := Z) (ν := ν) hZ1 rfl rfl (show (((i3 t).toNatClampNeg : Nat) : Int) = t by rw [hnn]; omega) (i3A rq (show (1 : Int32) = i3 1 from rfl)))
    subst e1
    have s1 := shS_q s hZ1 (by omega)
    refine wz_i1 (t1 Z1) (wz_i0 (by rw [l1]; exact o3) ?_)
    intro μ2 e2
    rw [show (-1 : Int64) = lI (-1) from by decide, zm_wL, hnn] at e2
    subst e2
    have s2 := shS_r s1 (t := t.toNat) (v := -1)
    rw [show ((t.toNat : Nat) : Int) = t by omega] at s2
    refine wz_kbs (wz_k1 (hk _ _ _ s2 ?_))
    show [none, none, none, none, _, none, none, none, _, some (Sum.inl (i3 l + (-1 : Int32))), some (.inl (i3 m + 1)), none, none] = _
    rw [show (-1 : Int32) = i3 (-1) from rfl, show (1 : Int32) = i3 1 from rfl, i3_add, i3_add]
    rfl
  have o3 : ∀ t : Int, 0 ≤ t → t < 3 → pz_out (i3 t) 3 = false := fun t a b => i3O rfl a (by show t < (3 : Int); omega) (by decide)
  have rl : ∀ t : Int, 0 ≤ t → t < 3 → qz_lm (zm Z ν) 200 n1 0 (i3 t).toNatClampNeg = lI (R t) := fun t a b => by
    rw [i3_nat a (by omega)]
    have := s.2.2.2.2.2.2 t.toNat (by omega)
    rw [show ((t.toNat : Nat) : Int) = t by omega] at this
    exact this
  -- a turn of the inner loop
  have inner : ∀ {M : Nat} {L' : qz_L} (t n : Int), 0 ≤ t → t < 3 → 0 ≤ n → n < 3 → qz_fg [false, false, false, false, true, false, false, false, true, true, true, true, true] L' = [none, none, none, none, some (.inr (.inr (some (69, 0, 0)))), none, none, none, some (.inr (.inr (some (200, n1, 0)))), some (.inl (i3 l)), some (.inl (i3 m)), some (.inl (i3 t)), some (.inl (i3 n))] →
      (R n ≤ R t → ∀ L2, qz_fg [false, false, false, false, true, false, false, false, true, true, true, true, true] L2 = [none, none, none, none, some (.inr (.inr (some (69, 0, 0)))), none, none, none, some (.inr (.inr (some (200, n1, 0)))), some (.inl (i3 l)), some (.inl (i3 m)), some (.inl (i3 t)), some (.inl (i3 (n + 1)))] → wz_loop qb_9_2 M (wz_sk gc_9_3 (wz_kb (wz_lk K (fun x' => wz_loop qb_9_4 N K RR x'))) RR) RR (L2, [], zm Z ν)) →
      (¬ R n ≤ R t → ∀ L2, qz_fg [false, false, false, false, true, false, false, false, true, true, true, true, true] L2 = [none, none, none, none, some (.inr (.inr (some (69, 0, 0)))), none, none, none, some (.inr (.inr (some (200, n1, 0)))), some (.inl (i3 l)), some (.inl (i3 m)), some (.inl (i3 n)), some (.inl (i3 (n + 1)))] → wz_loop qb_9_2 M (wz_sk gc_9_3 (wz_kb (wz_lk K (fun x' => wz_loop qb_9_4 N K RR x'))) RR) RR (L2, [], zm Z ν)) →
      wz_loop qb_9_2 (M + 1) (wz_sk gc_9_3 (wz_kb (wz_lk K (fun x' => wz_loop qb_9_4 N K RR x'))) RR) RR (L', [], zm Z ν) := by
    intro M L' t n a1 a2 a3 a4 hL' k1 k2
    refine wz_lu sb_9_2 M (fb_9_2 _ _ _ _ _ _ _ _ _ _ hL' ?_)
    refine wz_i0 (Eq.trans (i3Le (show (3 : Int32) = i3 3 from rfl) (rfl : i3 n = i3 n) (by omega) (by omega) (by omega) (by omega)) (decide_eq_false (by omega))) ?_
    refine wz_i1 (t1 Z) (wz_i0 (by rw [l1]; exact o3 n a3 a4) (wz_i1 (t1 Z) (wz_i0 (by rw [l1]; exact o3 t a1 a2) ?_)))
    have b1 := hR t a1 a2
    have b2 := hR n a3 a4
    rw [rl n a3 a4, rl t a1 a2]
    refine wz_br (lI_le (by omega) (by omega) (by omega) (by omega)) (fun q => wz_k1 (k1 q _ ?_)) (fun q => wz_k1 (k2 q _ ?_))
    · show [none, none, none, none, _, none, none, none, _, _, _, _, some (Sum.inl (i3 n + 1))] = _
      rw [show (1 : Int32) = i3 1 from rfl, i3_add] <;> rfl
    · show [none, none, none, none, _, none, none, none, _, _, _, _, some (Sum.inl (i3 n + 1))] = _
      rw [show (1 : Int32) = i3 1 from rfl, i3_add] <;> rfl
  have out : ∀ {M : Nat} {L' : qz_L} (t : Int), 0 ≤ t → t < 3 → t = sh_T (R 0) (R 1) (R 2) → qz_fg [false, false, false, false, true, false, false, false, true, true, true, true, true] L' = [none, none, none, none, some (.inr (.inr (some (69, 0, 0)))), none, none, none, some (.inr (.inr (some (200, n1, 0)))), some (.inl (i3 l)), some (.inl (i3 m)), some (.inl (i3 t)), some (.inl (i3 3))] → wz_loop qb_9_2 (M + 1) (wz_sk gc_9_3 (wz_kb (wz_lk K (fun x' => wz_loop qb_9_4 N K RR x'))) RR) RR (L', [], zm Z ν) := by
    intro M L' t a1 a2 ht hL'
    refine wz_lu sb_9_2 M (fb_9_2 _ _ _ _ _ _ _ _ _ _ hL' ?_)
    exact wz_i1 (by decide) (wz_lk0 (wz_sk0 (leaf t _ a1 a2 ht rfl)))
  refine inner (M := 65535) 0 1 (by omega) (by omega) (by omega) (by omega) rfl (fun q L2 e2 => ?_) (fun q L2 e2 => ?_)
  · refine inner (M := 65534) 0 2 (by omega) (by omega) (by omega) (by omega) e2 (fun q2 L3 e3 => ?_) (fun q2 L3 e3 => ?_)
    · exact out 0 (by omega) (by omega) (by unfold sh_T; rw [if_pos q, if_pos q2]) e3
    · exact out 2 (by omega) (by omega) (by unfold sh_T; rw [if_pos q, if_neg q2]) e3
  · refine inner (M := 65534) 1 2 (by omega) (by omega) (by omega) (by omega) e2 (fun q2 L3 e3 => ?_) (fun q2 L3 e3 => ?_)
    · exact out 1 (by omega) (by omega) (by unfold sh_T; rw [if_neg q, if_pos q2]) e3
    · exact out 2 (by omega) (by omega) (by unfold sh_T; rw [if_neg q, if_neg q2]) e3
/-- what stands at j behind l turns -/
def sh_1 (Q R : Int → Int) : Int → Int := shU Q (sh_T (R 0) (R 1) (R 2)) (Q (sh_T (R 0) (R 1) (R 2)) + 1)
def sh_2 (R : Int → Int) : Int → Int := shU R (sh_T (R 0) (R 1) (R 2)) (-1)
def sh_e (Q R : Int → Int) (l j : Int) : Int := if l ≤ 0 then Q j else if l ≤ 1 then sh_1 Q R j else sh_1 (sh_1 Q R) (sh_2 R) j
theorem sh_Tb (a b c : Int) : 0 ≤ sh_T a b c ∧ sh_T a b c < 3 := by
  unfold sh_T
  split <;> split <;> omega
def shP (Z0 : qz_Z) (ν0 : qz_N) (A : Int → Int) : wz_R := fun μ2 o2 => ∃ Z1 ν1, μ2 = zm Z1 ν1 ∧ o2 = .inl none ∧ zI none Z1 ∧ zJ [69] ν0.2.2.2.1 Z0 Z1 ∧ zG 2 6 ν0 ν1 ∧ ∀ j, 0 ≤ j → j < 3 → Z1 69 0 0 j = A j
theorem sh_x {Z0 Z : qz_Z} {ν0 ν : qz_N} {n0 n1 : Nat} {W Q R A : Int → Int} {l m : Int} (s : shS Z0 ν0 n0 n1 W Q R Z ν) (hm : 0 ≤ m ∧ m ≤ 3) (hl : l = 0) (hA : ∀ j, 0 ≤ j → j < 3 → Q j = A j) {N : Nat} {L : qz_L} (hL : qz_fg [false, false, false, false, true, false, false, false, true, true, true, false, false] L = [none, none, none, none, some (.inr (.inr (some (69, 0, 0)))), none, none, none, some (.inr (.inr (some (200, n1, 0)))), some (.inl (i3 l)), some (.inl (i3 m)), none, none]) : wz_loop qb_9_4 (N + 1) (wz_sk gc_9_5 wz_k0 (shP Z0 ν0 A)) (shP Z0 ν0 A) (L, [], zm Z ν) := by
  subst hl
  have fin : gc_9_5 wz_k0 (shP Z0 ν0 A) (([none, none, none, none, some (.inr (.inr (some (69, 0, 0)))), none, none, none, some (.inr (.inr (some (200, n1, 0)))), some (.inl (i3 0)), some (.inl (i3 m)), none, none] : qz_L), [], zm Z ν) := fc_9_5 _ _ _ _ rfl ⟨Z, ν, rfl, rfl, s.1, s.2.1, s.2.2.1, fun j a b => (s.2.2.2.2.2.1 j a b).trans (hA j a b)⟩
  refine wz_lu sb_9_4 N (fb_9_4 _ _ _ _ _ _ _ _ hL ?_)
  refine wz_if (fun _ => wz_lk0 (wz_sk0 fin)) (fun _ => wz_i1 (by decide) (wz_lk0 (wz_sk0 fin)))
theorem sh_y {Z0 Z : qz_Z} {ν0 ν : qz_N} {n0 n1 : Nat} {W Q R : Int → Int} {l : Int} (s : shS Z0 ν0 n0 n1 W Q R Z ν) (hQ : ∀ j, 0 ≤ j → j < 3 → 0 ≤ Q j ∧ Q j ≤ 999999) (hR : ∀ j, 0 ≤ j → j < 3 → -1 ≤ R j ∧ R j ≤ 2997) (hl : 0 ≤ l ∧ l ≤ 2) {L : qz_L} (hL : qz_fg [false, false, false, false, true, false, false, false, true, true, true, false, false] L = [none, none, none, none, some (.inr (.inr (some (69, 0, 0)))), none, none, none, some (.inr (.inr (some (200, n1, 0)))), some (.inl (i3 l)), some (.inl (i3 0)), none, none]) : wz_loop qb_9_4 65536 (wz_sk gc_9_5 wz_k0 (shP Z0 ν0 (sh_e Q R l))) (shP Z0 ν0 (sh_e Q R l)) (L, [], zm Z ν) := by
  rcases (show l = 0 ∨ l = 1 ∨ l = 2 by omega) with rfl | rfl | rfl
  · exact sh_x (N := 65535) s (by omega) rfl (fun j _ _ => rfl) hL
  · refine sh_t2 (N := 65535) s (fun j a b => by have := hQ j a b; omega) hR (by omega) (by omega) hL (fun Z1 ν1 L1 s1 e1 => ?_)
    exact sh_x (N := 65534) s1 (by omega) rfl (fun j _ _ => rfl) e1
  · refine sh_t2 (N := 65535) s (fun j a b => by have := hQ j a b; omega) hR (by omega) (by omega) hL (fun Z1 ν1 L1 s1 e1 => ?_)
    have tb := sh_Tb (R 0) (R 1) (R 2)
    refine sh_t2 (N := 65534) s1 (fun j a b => ?_) (fun j a b => ?_) (by omega) (by omega) e1 (fun Z2 ν2 L2 s2 e2 => ?_)
    · have h1 := hQ j a b
      have h2 := hQ _ tb.1 tb.2
      unfold shU
      split <;> omega
    · have h1 := hR j a b
      unfold shU
      split <;> omega
    · exact sh_x (N := 65533) s2 (by omega) rfl (fun j _ _ => rfl) e2
theorem sh_9 {Z : qz_Z} {ν : qz_N} (hZ : zI none Z) {c w0 w1 w2 : Int} (h : sh_ok c w0 w1 w2) : ∃ Z1 ν1, qf_9 [.inl (i3 c), .inl (i3 w0), .inl (i3 w1), .inl (i3 w2), .inr (.inr (some (69, 0, 0)))] (zm Z ν) = some (zm Z1 ν1, .inl none) ∧ zI none Z1 ∧ zJ [69] ν.2.2.2.1 Z Z1 ∧ zG 2 6 ν ν1 ∧ ∀ j, 0 ≤ j → j < 3 → Z1 69 0 0 j = sh_e (sh_Q c w0 w1 w2) (sh_R c w0 w1 w2) (c - sh_Q c w0 w1 w2 0 - sh_Q c w0 w1 w2 1 - sh_Q c w0 w1 w2 2) j := by
  have main : wz_call qf_9 [.inl (i3 c), .inl (i3 w0), .inl (i3 w1), .inl (i3 w2), .inr (.inr (some (69, 0, 0)))] (zm Z ν) (shP Z ν (sh_e (sh_Q c w0 w1 w2) (sh_R c w0 w1 w2) (c - sh_Q c w0 w1 w2 0 - sh_Q c w0 w1 w2 1 - sh_Q c w0 w1 w2 2))) := by
    have hb := fun t => sh_b h t
    have hl := sh_l h
    have h' := h
    obtain ⟨h0, h1, h2, h3, h4⟩ := h'
    refine fw_9 _ _ _ _ _ _ _ ?_
    intro μ1 e1
    rw [zal] at e1
    subst e1
    obtain ⟨n, hn⟩ := zx ν.2.2.2.1
    obtain ⟨ν1, hν1⟩ := zx (nal ν 50 1 3 1 3)
    have d1 : ν1.2.2.1 n = (50, 1, 3) := by subst hν1 hn; exact nal_at
    have na1 : ν1.2.2.2.1 = n + 1 := by subst hν1 hn; rfl
    have g1 : zG 1 3 ν ν1 := by subst hν1; exact zG_al zG_r
    have en : qz_na (zm Z ν) = n := hn.symm
    rw [en, ← hν1, ← hn]
    have t1 : ∀ Z1, Nat.beq (qz_tag (zm Z1 ν1) (200, n, 0)) 50 = true := fun Z1 => by rw [zt_tag d1 (by decide)]; rfl
    have l1 : ∀ Z1, qz_len (zm Z1 ν1) (200, n, 0) = 3 := fun Z1 => zt_len d1
    refine wz_i1 (t1 _) (wz_i0 (by rw [l1]; rfl) ?_)
    intro μ2 e2
    obtain ⟨Z2, hZ2⟩ := zx (zu (zzr Z n) 200 n 0 0 w0)
    replace e2 := e2.trans (zm_wI (ν := ν1) hZ2 rfl rfl rfl rfl)
    subst e2
    refine wz_i1 (t1 _) (wz_i0 (by rw [l1]; rfl) ?_)
    intro μ3 e3
    obtain ⟨Z3, hZ3⟩ := zx (zu Z2 200 n 0 1 w1)
    replace e3 := e3.trans (zm_wI (ν := ν1) hZ3 rfl rfl rfl rfl)
    subst e3
    refine wz_i1 (t1 _) (wz_i0 (by rw [l1]; rfl) ?_)
    intro μ4 e4
    obtain ⟨Z4, hZ4⟩ := zx (zu Z3 200 n 0 2 w2)
    replace e4 := e4.trans (zm_wI (ν := ν1) hZ4 rfl rfl rfl rfl)
    subst e4
    have eA : i3 w0 + i3 w1 + i3 w2 = i3 (w0 + w1 + w2) := i3A (i3A rfl rfl) rfl
    rw [eA, lI_3 (by omega) (by omega)]
    refine wz_i1 (Eq.trans (lI_ge (y := 1) (by omega) (by omega) (by omega) (by omega)) (decide_eq_true (by omega))) ?_
    intro μ5 e5
    rw [zal] at e5
    subst e5
    obtain ⟨ν2, hν2⟩ := zx (nal ν1 51 1 3 1 3)
    have en2 : qz_na (zm Z4 ν1) = n + 1 := na1
    rw [en2, na1, ← hν2]
    have hJ : zJ [69] ν.2.2.2.1 Z (zzr Z4 (n + 1)) := by
      refine zJ_z (zJ_u (zJ_u (zJ_u (zJ_z zJ_r (by omega)) hZ2 (.inr ⟨rfl, by omega⟩)) hZ3 (.inr ⟨rfl, by omega⟩)) hZ4 (.inr ⟨rfl, by omega⟩)) (by omega)
    have s0 : shS Z ν n (n + 1) (sh_S w0 w1 w2) (fun j => Z 69 0 0 j) (fun _ => 0) (zzr Z4 (n + 1)) ν2 := by
      refine ⟨zzr_I (zI_200 (zI_200 (zI_200 (zzr_I hZ) hZ2 (by omega)) hZ3 (by omega)) hZ4 (by omega)), hJ, ?_, ⟨?_, ?_⟩, fun j a b => ?_, fun j a b => ?_, fun j a => ?_⟩
      · subst hν2; exact zG_al g1
      · subst hν2; exact (nal_ne (by omega)).trans d1
      · subst hν2; rw [← na1]; exact nal_at
      · rw [zzr_ne (by omega)]
        rcases (show j = 0 ∨ j = 1 ∨ j = 2 by omega) with rfl | rfl | rfl
        · exact (zu_ne hZ4 (by omega)).trans ((zu_ne hZ3 (by omega)).trans (zu_at hZ2))
        · exact (zu_ne hZ4 (by omega)).trans (zu_at hZ3)
        · exact zu_at hZ4
      · rw [zzr_ne (by omega)]
        exact (zu_ne hZ4 (by omega)).trans ((zu_ne hZ3 (by omega)).trans ((zu_ne hZ2 (by omega)).trans (zzr_ne (by omega))))
      · subst hν2
        rw [← na1]
        exact if_pos ⟨rfl, rfl⟩
    refine sh_t1 (N := 65535) h s0 (n := 0) (by omega) rfl (fun Z5 ν5 L5 s5 e5 => ?_)
    refine sh_t1 (N := 65534) h s5 (by omega) e5 (fun Z6 ν6 L6 s6 e6 => ?_)
    refine sh_t1 (N := 65533) h s6 (by omega) e6 (fun Z7 ν7 L7 s7 e7 => ?_)
    refine wz_lu sb_9_1 65532 (fb_9_1 _ _ _ _ _ _ _ _ _ _ _ e7 ?_)
    refine wz_i1 (by decide) (wz_lk0 (wz_sk0 (fc_9_6 _ _ _ _ _ _ _ rfl ?_)))
    have s8 : shS Z ν n (n + 1) (sh_S w0 w1 w2) (sh_Q c w0 w1 w2) (sh_R c w0 w1 w2) Z7 ν7 := by
      refine ⟨s7.1, s7.2.1, s7.2.2.1, s7.2.2.2.1, s7.2.2.2.2.1, fun j a b => (s7.2.2.2.2.2.1 j a b).trans ?_, fun j a => (s7.2.2.2.2.2.2 j a).trans (congrArg lI ?_)⟩
      · rcases (show j = 0 ∨ j = 1 ∨ j = 2 by omega) with rfl | rfl | rfl <;> rfl
      · rcases (show j = 0 ∨ j = 1 ∨ j = 2 by omega) with rfl | rfl | rfl <;> rfl
    exact sh_y s8 (fun j _ _ => (hb j).2.1) (fun j _ _ => by have := (hb j).2.2.1; omega) hl rfl
  obtain ⟨μ', o, e, Z1, ν1, rfl, rfl, hh⟩ := main
  exact ⟨Z1, ν1, e, hh⟩
/-- both tell the same -/
theorem sh_gv (r0 r1 r2 who n : Int) : sh_g r0 r1 r2 who n = if n = who then 0 else if (if n < who then sh_S r0 r1 r2 who ≤ sh_S r0 r1 r2 n else sh_S r0 r1 r2 who < sh_S r0 r1 r2 n) then 1 else 0 := by
  unfold sh_g
  generalize sh_S r0 r1 r2 who = a
  generalize sh_S r0 r1 r2 n = b
  by_cases h : n = who
  · rw [if_pos h, if_pos h]
  · rw [if_neg h, if_neg h]
    by_cases h2 : n < who
    · simp only [h2, if_true]
      by_cases h3 : a < b
      · rw [if_pos h3, if_pos (by omega)]
      · rw [if_neg h3]
        by_cases h4 : b ≠ a
        · rw [if_pos h4, if_neg (by omega)]
        · rw [if_neg h4, if_neg (by omega), if_pos (by omega)]
    · simp only [h2, if_false]
      by_cases h3 : a < b
      · rw [if_pos h3, if_pos h3]
      · rw [if_neg h3, if_neg h3]
        by_cases h4 : b ≠ a
        · rw [if_pos h4]
        · rw [if_neg h4, if_pos (by omega)]
theorem sh_Ts (r0 r1 r2 : Int) : (sh_T r0 r1 r2 = 0 ∧ r1 ≤ r0 ∧ r2 ≤ r0) ∨ (sh_T r0 r1 r2 = 1 ∧ r0 < r1 ∧ r2 ≤ r1) ∨ (sh_T r0 r1 r2 = 2 ∧ r0 < r2 ∧ r1 < r2) := by
  unfold sh_T
  split <;> split <;> omega
/-- rank -/
def sh_k (r0 r1 r2 who : Int) : Int := sh_g r0 r1 r2 who 0 + sh_g r0 r1 r2 who 1 + sh_g r0 r1 r2 who 2
theorem sh_k0 (r0 r1 r2 : Int) : sh_k r0 r1 r2 0 = (if r0 < r1 then 1 else 0) + (if r0 < r2 then 1 else 0) := by
  unfold sh_k
  rw [sh_gv, sh_gv, sh_gv]
  show (0 : Int) + (if r0 < r1 then 1 else 0) + (if r0 < r2 then 1 else 0) = _
  omega
theorem sh_k1 (r0 r1 r2 : Int) : sh_k r0 r1 r2 1 = (if r1 ≤ r0 then 1 else 0) + (if r1 < r2 then 1 else 0) := by
  unfold sh_k
  rw [sh_gv, sh_gv, sh_gv]
  show (if r1 ≤ r0 then (1 : Int) else 0) + 0 + (if r1 < r2 then 1 else 0) = _
  omega
theorem sh_k2 (r0 r1 r2 : Int) : sh_k r0 r1 r2 2 = (if r2 ≤ r0 then 1 else 0) + (if r2 ≤ r1 then 1 else 0) := by
  unfold sh_k
  rw [sh_gv, sh_gv, sh_gv]
  show (if r2 ≤ r0 then (1 : Int) else 0) + (if r2 ≤ r1 then 1 else 0) + 0 = _
  omega
theorem sh_cm0 {q0 q1 q2 r0 r1 r2 l who : Int} (h0 : 0 ≤ r0) (h1 : 0 ≤ r1) (h2 : 0 ≤ r2) (hl : 0 ≤ l ∧ l ≤ 2) (hw : who = 0 ∨ who = 1 ∨ who = 2) : ∃ a b : Int, sh_e (sh_S q0 q1 q2) (sh_S r0 r1 r2) l who = sh_S q0 q1 q2 who + a ∧ a = (if l ≤ b then 0 else 1) ∧ b = sh_k r0 r1 r2 who := by
  have a0 : sh_S r0 r1 r2 0 = r0 := rfl
  have a1 : sh_S r0 r1 r2 1 = r1 := rfl
  have a2 : sh_S r0 r1 r2 2 = r2 := rfl
  refine ⟨_, _, ?_, rfl, rfl⟩
  have hk : sh_k r0 r1 r2 who = if who = 0 then (if r0 < r1 then 1 else 0) + (if r0 < r2 then 1 else 0) else if who = 1 then (if r1 ≤ r0 then 1 else 0) + (if r1 < r2 then 1 else 0) else (if r2 ≤ r0 then 1 else 0) + (if r2 ≤ r1 then 1 else 0) := by
    rcases hw with rfl | rfl | rfl
    · exact sh_k0 _ _ _
    · exact sh_k1 _ _ _
    · exact sh_k2 _ _ _
  rw [hk]
  clear hk
  have e1 : ∀ (Q R : Int → Int) (j t : Int), sh_T (R 0) (R 1) (R 2) = t → sh_1 Q R j = if j = t then Q t + 1 else Q j := fun Q R j t h => by subst h; rfl
  have e2 : ∀ (R : Int → Int) (j t : Int), sh_T (R 0) (R 1) (R 2) = t → sh_2 R j = if j = t then -1 else R j := fun R j t h => by subst h; rfl
  rcases (show l = 0 ∨ l = 1 ∨ l = 2 by omega) with rfl | rfl | rfl
  · show sh_S q0 q1 q2 who = _
    (repeat' split) <;> omega
  · show sh_1 (sh_S q0 q1 q2) (sh_S r0 r1 r2) who = _
    rcases sh_Ts r0 r1 r2 with ⟨t, c⟩ | ⟨t, c⟩ | ⟨t, c⟩
    all_goals
      rw [e1 _ _ _ _ t]
      rcases hw with rfl | rfl | rfl
      all_goals
        simp only [Int.reduceEq, if_true, if_false]
        (repeat' split) <;> omega
  · show sh_1 (sh_1 (sh_S q0 q1 q2) (sh_S r0 r1 r2)) (sh_2 (sh_S r0 r1 r2)) who = _
    rcases sh_Ts r0 r1 r2 with ⟨t, c⟩ | ⟨t, c⟩ | ⟨t, c⟩
    all_goals
      have u0 := e2 (sh_S r0 r1 r2) 0 _ t
      have u1 := e2 (sh_S r0 r1 r2) 1 _ t
      have u2 := e2 (sh_S r0 r1 r2) 2 _ t
      simp only [Int.reduceEq, if_true, if_false, a0, a1, a2] at u0 u1 u2
      rcases sh_Ts (sh_2 (sh_S r0 r1 r2) 0) (sh_2 (sh_S r0 r1 r2) 1) (sh_2 (sh_S r0 r1 r2) 2) with ⟨t', c'⟩ | ⟨t', c'⟩ | ⟨t', c'⟩
      all_goals
        rw [u0, u1, u2] at c'
        rw [e1 _ _ _ _ t', e1 _ _ _ _ t, e1 _ _ _ _ t]
        rcases hw with rfl | rfl | rfl
        all_goals
          simp only [Int.reduceEq, if_true, if_false]
          (repeat' split) <;> omega
abbrev shO (a1 a2 a3 a4 a5 : Int) : Prop := (0 ≤ a1 ∧ a1 ≤ 999999) ∧ (0 ≤ a2 ∧ a2 ≤ 999) ∧ (0 ≤ a3 ∧ a3 ≤ 999) ∧ (0 ≤ a4 ∧ a4 ≤ 999) ∧ (0 ≤ a5 ∧ a5 ≤ 2) ∧ 1 ≤ a2 + a3 + a4
def zg_241 (a1 a2 a3 a4 a5 : Int) : Int × Int := if shO a1 a2 a3 a4 a5 then (sh_v a1 a2 a3 a4 a5, 0) else (0, 13)
def zg_501 (a1 a2 a3 a4 a5 : Int) : Int × Int := if shO a1 a2 a3 a4 a5 then (sh_v a1 a2 a3 a4 a5, 0) else (0, 1)
theorem sh_ev {c w0 w1 w2 who : Int} (h : sh_ok c w0 w1 w2) (hw : 0 ≤ who ∧ who ≤ 2) : sh_e (sh_Q c w0 w1 w2) (sh_R c w0 w1 w2) (c - sh_Q c w0 w1 w2 0 - sh_Q c w0 w1 w2 1 - sh_Q c w0 w1 w2 2) who = sh_v c w0 w1 w2 who := by
  have hl := sh_l h
  have b0 := sh_b h 0
  have b1 := sh_b h 1
  have b2 := sh_b h 2
  obtain ⟨x, y, hc, hx, hy⟩ := sh_cm0 (q0 := sh_Q c w0 w1 w2 0) (q1 := sh_Q c w0 w1 w2 1) (q2 := sh_Q c w0 w1 w2 2) b0.2.2.1.1 b1.2.2.1.1 b2.2.2.1.1 hl (show who = 0 ∨ who = 1 ∨ who = 2 by omega)
  have sQ : ∀ t, sh_S (sh_Q c w0 w1 w2 0) (sh_Q c w0 w1 w2 1) (sh_Q c w0 w1 w2 2) t = sh_Q c w0 w1 w2 t := fun t => by
    show (if t = 0 then _ else if t = 1 then _ else _) = c * (if t = 0 then _ else if t = 1 then _ else _) / _
    split
    · rfl
    · split <;> rfl
  have sR : ∀ t, sh_S (sh_R c w0 w1 w2 0) (sh_R c w0 w1 w2 1) (sh_R c w0 w1 w2 2) t = sh_R c w0 w1 w2 t := fun t => by
    show (if t = 0 then _ else if t = 1 then _ else _) = c * (if t = 0 then _ else if t = 1 then _ else _) % _
    split
    · rfl
    · split <;> rfl
  have eQ : sh_S (sh_Q c w0 w1 w2 0) (sh_Q c w0 w1 w2 1) (sh_Q c w0 w1 w2 2) = sh_Q c w0 w1 w2 := funext sQ
  have eR : sh_S (sh_R c w0 w1 w2 0) (sh_R c w0 w1 w2 1) (sh_R c w0 w1 w2 2) = sh_R c w0 w1 w2 := funext sR
  rw [eQ, eR] at hc
  rw [hc, hx, hy]
  rfl
theorem sg_241 {Z : qz_Z} {ν : qz_N} (h : zNew Z ν) {a1 : Int} (g1 : -2147483648 ≤ a1 ∧ a1 ≤ 2147483647) {a2 : Int} (g2 : -2147483648 ≤ a2 ∧ a2 ≤ 2147483647) {a3 : Int} (g3 : -2147483648 ≤ a3 ∧ a3 ≤ 2147483647) {a4 : Int} (g4 : -2147483648 ≤ a4 ∧ a4 ≤ 2147483647) {a5 : Int} (g5 : -2147483648 ≤ a5 ∧ a5 ≤ 2147483647) : ∃ (Z1 : qz_Z) (ν1 : qz_N) (v E : Int), (v, E) = zg_241 a1 a2 a3 a4 a5 ∧ qf_241 [.inr (.inr (some (0, 0, 0))), .inl (i3 a1), .inl (i3 a2), .inl (i3 a3), .inl (i3 a4), .inl (i3 a5)] (zm Z ν) = some (zm Z1 ν1, zoX v E) ∧ (zSt Z1 ν1 ∧ ∀ j, Z1 200 0 0 j = Z 200 0 0 j) := by
  unfold zg_241
  by_cases hO : shO a1 a2 a3 a4 a5
  · rw [if_pos hO]
    obtain ⟨o1, o2, o3, o4, o5, o6⟩ := hO
    have ok : sh_ok a1 a2 a3 a4 := ⟨o1, o2, o3, o4, o6⟩
    obtain ⟨Z1, ν1, hq, hI, hJ, hG, hA⟩ := sh_9 (Z := Z) (ν := ν) h.1 ok
    refine ⟨Z1, ν1, _, _, rfl, wz_call_eq (fw_241 _ _ _ _ _ _ _ ?_), zSt_J h hI hJ hG (by decide) (by decide) (by decide)⟩
    refine wz_inR_y (rfl : i3 a1 = i3 a1) (show (0 : Int32) = i3 0 from rfl) (show (999999 : Int32) = i3 999999 from rfl) (by omega) (by omega) (by omega) (by omega) (by omega) (by omega) o1 ?_
    refine wz_inR_y (rfl : i3 a2 = i3 a2) (show (0 : Int32) = i3 0 from rfl) (show (999 : Int32) = i3 999 from rfl) (by omega) (by omega) (by omega) (by omega) (by omega) (by omega) o2 ?_
    refine wz_inR_y (rfl : i3 a3 = i3 a3) (show (0 : Int32) = i3 0 from rfl) (show (999 : Int32) = i3 999 from rfl) (by omega) (by omega) (by omega) (by omega) (by omega) (by omega) o3 ?_
    refine wz_inR_y (rfl : i3 a4 = i3 a4) (show (0 : Int32) = i3 0 from rfl) (show (999 : Int32) = i3 999 from rfl) (by omega) (by omega) (by omega) (by omega) (by omega) (by omega) o4 ?_
    refine wz_inR_y (rfl : i3 a5 = i3 a5) (show (0 : Int32) = i3 0 from rfl) (show (2 : Int32) = i3 2 from rfl) (by omega) (by omega) (by omega) (by omega) (by omega) (by omega) o5 ?_
    refine wz_inR_y (i3A (i3A (rfl : i3 a2 = i3 a2) (rfl : i3 a3 = i3 a3)) (rfl : i3 a4 = i3 a4)) (show (1 : Int32) = i3 1 from rfl) (show (2997 : Int32) = i3 2997 from rfl) (by omega) (by omega) (by omega) (by omega) (by omega) (by omega) ⟨by omega, by omega⟩ ?_
    refine wz_cV_of hq (wz_i0 (i3O rfl o5.1 (by show a5 < (24 : Int); omega) (by decide)) ⟨rfl, ?_⟩)
    exact zo _ _ (Eq.trans (zm_rd (k := 69) rfl rfl (i3I rfl rfl (by omega) (by omega))) (congrArg i3 ((hA a5 o5.1 (by omega)).trans (sh_ev ok o5))))
  · rw [if_neg hO]
    have fin : ∀ {A : qz_M}, A = qz_kk (zm Z ν) 1 6 → (fun μ2 (o2 : qz_Oc) => μ2 = zm Z (nkk ν 1 6) ∧ o2 = zoX 0 13) A (.inr 13) := fun e => ⟨e, rfl⟩
    refine ⟨Z, nkk ν 1 6, _, _, rfl, wz_call_eq (fw_241 _ _ _ _ _ _ _ ?_), zSt_J (z := 1) (s := 6) (ws := []) h h.1 zJ_r ⟨fun _ _ _ _ _ => rfl, fun _ _ _ _ _ => rfl, fun _ _ => rfl, Nat.le_refl _, Nat.le_refl _, Nat.le_refl _⟩ (by decide) (by decide) (by decide)⟩
    refine wz_inR (rfl : i3 a1 = i3 a1) (show (0 : Int32) = i3 0 from rfl) (show (999999 : Int32) = i3 999999 from rfl) (by omega) (by omega) (by omega) (by omega) (by omega) (by omega) (fun o1 => ?_) (fun _ => fin rfl)
    refine wz_inR (rfl : i3 a2 = i3 a2) (show (0 : Int32) = i3 0 from rfl) (show (999 : Int32) = i3 999 from rfl) (by omega) (by omega) (by omega) (by omega) (by omega) (by omega) (fun o2 => ?_) (fun _ => fin rfl)
    refine wz_inR (rfl : i3 a3 = i3 a3) (show (0 : Int32) = i3 0 from rfl) (show (999 : Int32) = i3 999 from rfl) (by omega) (by omega) (by omega) (by omega) (by omega) (by omega) (fun o3 => ?_) (fun _ => fin rfl)
    refine wz_inR (rfl : i3 a4 = i3 a4) (show (0 : Int32) = i3 0 from rfl) (show (999 : Int32) = i3 999 from rfl) (by omega) (by omega) (by omega) (by omega) (by omega) (by omega) (fun o4 => ?_) (fun _ => fin rfl)
    refine wz_inR (rfl : i3 a5 = i3 a5) (show (0 : Int32) = i3 0 from rfl) (show (2 : Int32) = i3 2 from rfl) (by omega) (by omega) (by omega) (by omega) (by omega) (by omega) (fun o5 => ?_) (fun _ => fin rfl)
    refine wz_inR_n (i3A (i3A (rfl : i3 a2 = i3 a2) (rfl : i3 a3 = i3 a3)) (rfl : i3 a4 = i3 a4)) (show (1 : Int32) = i3 1 from rfl) (show (2997 : Int32) = i3 2997 from rfl) (by omega) (by omega) (by omega) (by omega) (by omega) (by omega) (fun q => hO ⟨o1, o2, o3, o4, o5, q.1⟩) (fin rfl)
theorem sg_501 {Z : qz_Z} {ν : qz_N} {a1 : Int} (g1 : -2147483648 ≤ a1 ∧ a1 ≤ 2147483647) {a2 : Int} (g2 : -2147483648 ≤ a2 ∧ a2 ≤ 2147483647) {a3 : Int} (g3 : -2147483648 ≤ a3 ∧ a3 ≤ 2147483647) {a4 : Int} (g4 : -2147483648 ≤ a4 ∧ a4 ≤ 2147483647) {a5 : Int} (g5 : -2147483648 ≤ a5 ∧ a5 ≤ 2147483647) : ∃ (Z1 : qz_Z) (v t : Int), (v, t) = zg_501 a1 a2 a3 a4 a5 ∧ qf_501 [.inr (.inr (some (1, 0, 0))), .inl (i3 a1), .inl (i3 a2), .inl (i3 a3), .inl (i3 a4), .inl (i3 a5)] (zm Z ν) = some (zm Z1 ν, .inl (some (.inl (i3 v)))) ∧ Z1 1 0 0 2 = t := by
  unfold zg_501
  have c0 : (0 : Int32) = i3 0 := rfl
  have c1 : (1 : Int32) = i3 1 := rfl
  have c2 : (2 : Int32) = i3 2 := rfl
  have c9 : (999 : Int32) = i3 999 := rfl
  have c99 : (999999 : Int32) = i3 999999 := rfl
  by_cases hO : shO a1 a2 a3 a4 a5
  · rw [if_pos hO]
    obtain ⟨o1, o2, o3, o4, o5, o6⟩ := hO
    obtain ⟨Z2, hZ2⟩ := zx (zu Z 1 0 0 2 0)
    refine ⟨Z2, _, _, rfl, wz_call_eq (fw_501 _ _ _ _ _ _ _ ?_), zu_at hZ2⟩
    refine wz_i0 (Eq.trans (i3L (rfl : i3 a1 = i3 a1) c0 (by omega) (by omega) (by omega) (by omega)) (decide_eq_false (by omega))) ?_
    refine wz_i0 (Eq.trans (i3L c99 (rfl : i3 a1 = i3 a1) (by omega) (by omega) (by omega) (by omega)) (decide_eq_false (by omega))) ?_
    refine wz_i0 (Eq.trans (i3L (rfl : i3 a2 = i3 a2) c0 (by omega) (by omega) (by omega) (by omega)) (decide_eq_false (by omega))) ?_
    refine wz_i0 (Eq.trans (i3L c9 (rfl : i3 a2 = i3 a2) (by omega) (by omega) (by omega) (by omega)) (decide_eq_false (by omega))) ?_
    refine wz_i0 (Eq.trans (i3L (rfl : i3 a3 = i3 a3) c0 (by omega) (by omega) (by omega) (by omega)) (decide_eq_false (by omega))) ?_
    refine wz_i0 (Eq.trans (i3L c9 (rfl : i3 a3 = i3 a3) (by omega) (by omega) (by omega) (by omega)) (decide_eq_false (by omega))) ?_
    refine wz_i0 (Eq.trans (i3L (rfl : i3 a4 = i3 a4) c0 (by omega) (by omega) (by omega) (by omega)) (decide_eq_false (by omega))) ?_
    refine wz_i0 (Eq.trans (i3L c9 (rfl : i3 a4 = i3 a4) (by omega) (by omega) (by omega) (by omega)) (decide_eq_false (by omega))) ?_
    refine wz_i0 (Eq.trans (i3L (rfl : i3 a5 = i3 a5) c0 (by omega) (by omega) (by omega) (by omega)) (decide_eq_false (by omega))) ?_
    refine wz_i0 (Eq.trans (i3L c2 (rfl : i3 a5 = i3 a5) (by omega) (by omega) (by omega) (by omega)) (decide_eq_false (by omega))) ?_
    refine wz_i0 (Eq.trans (i3Le (i3A (i3A (rfl : i3 a2 = i3 a2) (rfl : i3 a3 = i3 a3)) (rfl : i3 a4 = i3 a4)) c0 (by omega) (by omega) (by omega) (by omega)) (decide_eq_false (by omega))) ?_
    intro μ9 e9
    replace e9 := e9.trans (zm_wI (Z := Z) (ν := ν) hZ2 rfl rfl rfl c0)
    subst e9
    exact wz_cI_of (sh_418 ⟨o1, o2, o3, o4, o6⟩ o5 _) ⟨rfl, rfl⟩
  · rw [if_neg hO]
    obtain ⟨Z2, hZ2⟩ := zx (zu Z 1 0 0 2 1)
    refine ⟨Z2, _, _, rfl, wz_call_eq (fw_501 _ _ _ _ _ _ _ ?_), zu_at hZ2⟩
    have hn : wz_wr (qz_wI (zm Z ν) (1, 0, 0) 2 (1 : Int32)) (fun μ9 => μ9 = zm Z2 ν ∧ (.inl (some (.inl (0 : Int32))) : qz_Oc) = .inl (some (.inl (i3 0)))) := by
      intro μ9 e9
      exact ⟨e9.trans (zm_wI (Z := Z) (ν := ν) hZ2 rfl rfl rfl c1), rfl⟩
    refine wz_br (i3L (rfl : i3 a1 = i3 a1) c0 (by omega) (by omega) (by omega) (by omega)) (fun _ => hn) (fun h1 => ?_)
    refine wz_br (i3L c99 (rfl : i3 a1 = i3 a1) (by omega) (by omega) (by omega) (by omega)) (fun _ => hn) (fun h2 => ?_)
    refine wz_br (i3L (rfl : i3 a2 = i3 a2) c0 (by omega) (by omega) (by omega) (by omega)) (fun _ => hn) (fun h3 => ?_)
    refine wz_br (i3L c9 (rfl : i3 a2 = i3 a2) (by omega) (by omega) (by omega) (by omega)) (fun _ => hn) (fun h4 => ?_)
    refine wz_br (i3L (rfl : i3 a3 = i3 a3) c0 (by omega) (by omega) (by omega) (by omega)) (fun _ => hn) (fun h5 => ?_)
    refine wz_br (i3L c9 (rfl : i3 a3 = i3 a3) (by omega) (by omega) (by omega) (by omega)) (fun _ => hn) (fun h6 => ?_)
    refine wz_br (i3L (rfl : i3 a4 = i3 a4) c0 (by omega) (by omega) (by omega) (by omega)) (fun _ => hn) (fun h7 => ?_)
    refine wz_br (i3L c9 (rfl : i3 a4 = i3 a4) (by omega) (by omega) (by omega) (by omega)) (fun _ => hn) (fun h8 => ?_)
    refine wz_br (i3L (rfl : i3 a5 = i3 a5) c0 (by omega) (by omega) (by omega) (by omega)) (fun _ => hn) (fun h9 => ?_)
    refine wz_br (i3L c2 (rfl : i3 a5 = i3 a5) (by omega) (by omega) (by omega) (by omega)) (fun _ => hn) (fun h10 => ?_)
    refine wz_i1 (Eq.trans (i3Le (i3A (i3A (rfl : i3 a2 = i3 a2) (rfl : i3 a3 = i3 a3)) (rfl : i3 a4 = i3 a4)) c0 (by omega) (by omega) (by omega) (by omega)) (decide_eq_true ?_)) hn
    exact Int.not_lt.mp (fun q => hO ⟨⟨by omega, by omega⟩, ⟨by omega, by omega⟩, ⟨by omega, by omega⟩, ⟨by omega, by omega⟩, ⟨by omega, by omega⟩, by omega⟩)
theorem lw_shares {Z : qz_Z} {ν : qz_N} (h : zNew Z ν) {a1 : Int} (g1 : -2147483648 ≤ a1 ∧ a1 ≤ 2147483647) {a2 : Int} (g2 : -2147483648 ≤ a2 ∧ a2 ≤ 2147483647) {a3 : Int} (g3 : -2147483648 ≤ a3 ∧ a3 ≤ 2147483647) {a4 : Int} (g4 : -2147483648 ≤ a4 ∧ a4 ≤ 2147483647) {a5 : Int} (g5 : -2147483648 ≤ a5 ∧ a5 ≤ 2147483647) : ∃ (Z2 : qz_Z) (ν2 : qz_N) (v E : Int), (v, E) = zg_241 a1 a2 a3 a4 a5 ∧ qf_619 [.inr (.inr (some (0, 0, 0))), .inl (i3 a1), .inl (i3 a2), .inl (i3 a3), .inl (i3 a4), .inl (i3 a5), .inr (.inr (some (71, 0, 0)))] (zm Z ν) = some (zm Z2 ν2, .inl (some (.inl (i3 (tcL [(13, 1)] E))))) ∧ zW Z ν v E Z2 ν2 := by
  refine wrap_2 (hs := [(13, 1)]) (fun R hR => fv_619 _ _ _ _ _ _ R hR) (sg_241 h g1 g2 g3 g4 g5) (fun v E he => ?_) (by decide)
  unfold zg_241 at he
  split at he <;> cases he
  · exact .inl rfl
  · exact .inr ⟨(13, 1), by decide, rfl⟩
theorem lc_54 {Z : qz_Z} {ν : qz_N} (h : zNew Z ν) {k : wz_K} {R : wz_R} (hk : ∀ Z3 ν3 v2 v4, zEnd ν3 → k 10 ([some (.inr (.inr (some (200, 0, 0)))), some (.inr (.inr (some (0, 0, 0)))), some (.inr (.inr (some (1, 0, 0)))), some (.inr (.inr (some (71, 0, 0)))), some (.inl (0 : Int32)), some (.inl v2), some (.inl v4), none], [], zm Z3 ν3)) : gx_54 k R (gx_L 0, [], zm Z ν) := by
  refine fk_54 0 (zm Z ν) k R ?_
  have st := zNew_S h
  refine wz_i1 (zS_t st) (wz_i0 (zS_o st (by decide)) ?_)
  refine wz_i1 (zS_t st) (wz_i0 (zS_o st (by decide)) ?_)
  refine wz_i1 (zS_t st) (wz_i0 (zS_o st (by decide)) ?_)
  refine wz_i1 (zS_t st) (wz_i0 (zS_o st (by decide)) ?_)
  refine wz_i1 (zS_t st) (wz_i0 (zS_o st (by decide)) ?_)
  have g1 := zI_f h.1 200 0 0 1
  have g2 := zI_f h.1 200 0 0 2
  have g3 := zI_f h.1 200 0 0 3
  have g4 := zI_f h.1 200 0 0 4
  have g5 := zI_f h.1 200 0 0 5
  obtain ⟨Z2, ν2, v, E, hP, hq, hE0, st2, hs2⟩ := lw_shares h g1 g2 g3 g4 g5
  refine wz_cI_of hq ?_
  refine wz_i1 (zS_t st2) (wz_i0 (zS_o st2 (by decide)) ?_)
  refine wz_i1 (zS_t st2) (wz_i0 (zS_o st2 (by decide)) ?_)
  refine wz_i1 (zS_t st2) (wz_i0 (zS_o st2 (by decide)) ?_)
  refine wz_i1 (zS_t st2) (wz_i0 (zS_o st2 (by decide)) ?_)
  refine wz_i1 (zS_t st2) (wz_i0 (zS_o st2 (by decide)) ?_)
  obtain ⟨Z3, w, t, hP2, hq2, ht⟩ := sg_501 (Z := Z2) (ν := ν2) (zI_f st2.1 200 0 0 1) (zI_f st2.1 200 0 0 2) (zI_f st2.1 200 0 0 3) (zI_f st2.1 200 0 0 4) (zI_f st2.1 200 0 0 5)
  refine wz_cI_of hq2 ?_
  rw [hs2 1, hs2 2, hs2 3, hs2 4, hs2 5] at hP2
  unfold zg_241 at hP
  unfold zg_501 at hP2
  have hend : zEnd ν2 := ⟨⟨st2.2.2.1.1, st2.2.2.1.2⟩, by have := st2.2.2.2.2.1; omega, by have := st2.2.2.2.2.2; omega⟩
  by_cases hO : shO (Z 200 0 0 1) (Z 200 0 0 2) (Z 200 0 0 3) (Z 200 0 0 4) (Z 200 0 0 5)
  · rw [if_pos hO] at hP hP2
    cases hP
    cases hP2
    refine wz_i1 (decide_eq_true (show i3 (Z3 1 0 0 2) = i3 (tcL [(13, 1)] 0) by rw [ht]; rfl)) ?_
    refine wz_i0 (by decide) (wz_i1 (decide_eq_true ?_) (hk _ _ _ _ hend))
    have e1 : qz_lm (zm Z3 ν2) 71 0 0 0 = (i3 (sh_v (Z 200 0 0 1) (Z 200 0 0 2) (Z 200 0 0 3) (Z 200 0 0 4) (Z 200 0 0 5))).toInt64 := hE0 rfl
    rw [e1]
    exact lg_self _
  · rw [if_neg hO] at hP hP2
    cases hP
    cases hP2
    refine wz_i1 (decide_eq_true (show i3 (Z3 1 0 0 2) = i3 (tcL [(13, 1)] 13) by rw [ht]; rfl)) ?_
    exact wz_i1 (by decide) (hk _ _ _ _ hend)
