/-! a small method's own formula in its caller's -/
def wz_rx (rk : Nat) (kv : qz_M → Option qz_V → Prop) (ke : qz_M → Nat → Prop) : wz_R := fun μ o => match o with
  | .inl (some v) => bif Nat.beq rk 4 then False else kv μ (some v)
  | .inl none => bif Nat.beq rk 4 then kv μ none else False
  | .inr E => ke μ E
def wkx (G : wz_W) (n l kd t : Nat) (hs : List (Nat × Nat)) (rk : Nat) : wz_W := fun k R x => match qz_args n x.2.1 with
  | none => False
  | some (as, rest) => bif (Nat.ble (qz_wt rest) 8 && Nat.ble (qz_es as).length l) && (Nat.beq kd 0 || qz_rcv x.2.2 t as) then G wz_k0 (wz_rx rk (fun μ' v => k 0 (x.1, wz_psh v rest, μ')) (wz_ex kd hs x.1 k R)) (qz_ent as l, [], x.2.2) else False
theorem s_kx {G : wz_W} {F : qz_F} {n l kd t : Nat} {hs : List (Nat × Nat)} {rk : Nat} (hS : wz_S G F) : wz_S (wkx G n l kd t hs rk) (qn_k (qz_mt l F) n l kd t hs) := fun k R x h => by
  unfold wkx at h
  unfold qn_k
  split at h
  · exact h.elim
  · rename_i as rest ha
    obtain ⟨h1, h⟩ := wz_bif h id
    obtain ⟨μ', o, e, h⟩ := wz_mt hS h
    rw [ha]
    dsimp only
    rw [h1, e]
    dsimp only [cond_true]
    unfold wz_rx at h
    unfold qz_bk
    match o, h with
    | .inl none, h =>
      dsimp only at h
      obtain ⟨-, h⟩ := wz_bif h id
      exact ⟨_, rfl, h⟩
    | .inl (some v), h =>
      dsimp only at h
      obtain ⟨-, h⟩ := wz_bif2 h
      exact ⟨_, rfl, h⟩
    | .inr E, h =>
      dsimp only at h
      unfold wz_ex at h
      dsimp only at h ⊢
      cases hk : Nat.beq kd 2
      · rw [hk] at h
        dsimp only [cond_false] at h ⊢
        cases hs with
        | nil => exact ⟨.inr (_, _), rfl, h⟩
        | cons y r =>
          dsimp only at h ⊢
          split at h
          · rename_i hd hh
            rw [hh]
            exact ⟨.inl (_, _), rfl, h⟩
          · exact h.elim
      · rw [hk] at h
        exact h.elim
