/-! calls under handlers: the law's wrappers -/
def wz_hnk (hs : List (Nat × Nat)) (E : Nat) (k : Nat → Prop) : Prop := match hs with
  | [] => False
  | x :: r => bif Nat.beq x.1 E then k x.2 else wz_hnk r E k
theorem wz_hnk_at : ∀ {hs : List (Nat × Nat)} {E : Nat} {k : Nat → Prop}, wz_hnk hs E k → ∃ h, qz_hn hs E = some h ∧ k h
  | [], E, k, h => h.elim
  | x :: r, E, k, h => by
    unfold wz_hnk at h
    unfold qz_hn
    cases hb : Nat.beq x.1 E
    · rw [hb] at h
      exact wz_hnk_at (hs := r) h
    · rw [hb] at h
      exact ⟨_, rfl, h⟩
def wkh (f : qz_Fn) (n l kd t : Nat) (hs : List (Nat × Nat)) (rk : Nat) : wz_W := fun k R x => match qz_args n x.2.1 with
  | none => False
  | some (as, rest) => bif (Nat.ble (qz_wt rest) 8 && Nat.ble (qz_es as).length l) && (Nat.beq kd 0 || qz_rcv x.2.2 t as) then wz_cl rk f as x.2.2 (fun μ' v => k 0 (x.1, wz_psh v rest, μ')) (fun μ' E => wz_hnk hs E (fun h => wz_wr (qz_al μ' 99 0 0 0 0) (fun μ2 => k (h + 1) (x.1, [.inr (.inr (some (200, qz_na μ', 0)))], μ2)))) else False
theorem s_kh {f : qz_Fn} {n l kd t : Nat} {y : Nat × Nat} {r : List (Nat × Nat)} {rk : Nat} (hk : Nat.beq kd 2 = false) : wz_S (wkh f n l kd t (y :: r) rk) (qn_k f n l kd t (y :: r)) := fun k R x h => by
  unfold wkh at h
  unfold qn_k
  split at h
  · exact h.elim
  · rename_i as rest ha
    obtain ⟨h1, h⟩ := wz_bif h id
    obtain ⟨μ', o, e, h⟩ := wz_cl_at h
    rw [ha]
    dsimp only
    rw [h1, e]
    dsimp only [cond_true]
    unfold qz_bk
    match o, h with
    | .inl none, h => exact ⟨_, rfl, h⟩
    | .inl (some v), h => exact ⟨_, rfl, h⟩
    | .inr E, h =>
      dsimp only at h ⊢
      obtain ⟨hd, hh, h⟩ := wz_hnk_at h
      rw [hk, hh]
      exact ⟨.inl (_, _), rfl, h _ rfl⟩
