/-! a small method's own formula in its caller's -/
def wz_rx (rk : Nat) (kv : qz_M → Option qz_V → Prop) (ke : qz_M → Nat → Prop) : wz_R := fun μ o => match o with
  | .inl (some v) => bif Nat.beq rk 4 then False else kv μ (some v)
  | .inl none => bif Nat.beq rk 4 then kv μ none else False
  | .inr E => ke μ E
/-- a callee's locals, written out -/
def wz_rpk (n : Nat) (k : qz_L → Prop) : Prop := match n with
  | 0 => k []
  | n + 1 => wz_rpk n (fun L => k (none :: L))
def wz_enk (as : List qz_V) (n : Nat) (k : qz_L → Prop) : Prop := match as with
  | [] => wz_rpk n k
  | .inr (.inl v) :: as => wz_enk as (n - 2) (fun L => k (some (.inr (.inl v)) :: none :: L))
  | v :: as => wz_enk as (n - 1) (fun L => k (some v :: L))
theorem wz_rpk_ok : ∀ {n : Nat} {k : qz_L → Prop}, wz_rpk n k → k (List.replicate n none)
  | 0, k, h => h
  | n + 1, k, h => wz_rpk_ok (n := n) (k := fun L => k (none :: L)) h
theorem wz_enk_ok : ∀ {as : List qz_V} {n : Nat} {k : qz_L → Prop}, wz_enk as n k → k (qz_ent as n)
  | [], n, k, h => wz_rpk_ok h
  | .inl v :: as, n, k, h => by
    have := wz_enk_ok (as := as) (n := n - 1) (k := fun L => k (some (.inl v) :: L)) h
    have e : qz_ent (.inl v :: as) n = some (.inl v) :: qz_ent as (n - 1) := by
      unfold qz_ent qz_es
      rw [List.flatMap_cons]
      show ([some (.inl v)] : qz_L) ++ _ ++ List.replicate (n - (([some (.inl v)] : qz_L) ++ _).length) none = _
      rw [List.length_append, Nat.sub_add_eq]
      rfl
    rw [e]
    exact this
  | .inr (.inr v) :: as, n, k, h => by
    have := wz_enk_ok (as := as) (n := n - 1) (k := fun L => k (some (.inr (.inr v)) :: L)) h
    have e : qz_ent (.inr (.inr v) :: as) n = some (.inr (.inr v)) :: qz_ent as (n - 1) := by
      unfold qz_ent qz_es
      rw [List.flatMap_cons]
      show ([some (.inr (.inr v))] : qz_L) ++ _ ++ List.replicate (n - (([some (.inr (.inr v))] : qz_L) ++ _).length) none = _
      rw [List.length_append, Nat.sub_add_eq]
      rfl
    rw [e]
    exact this
  | .inr (.inl v) :: as, n, k, h => by
    have := wz_enk_ok (as := as) (n := n - 2) (k := fun L => k (some (.inr (.inl v)) :: none :: L)) h
    have e : qz_ent (.inr (.inl v) :: as) n = some (.inr (.inl v)) :: none :: qz_ent as (n - 2) := by
      unfold qz_ent qz_es
      rw [List.flatMap_cons]
      show ([some (.inr (.inl v)), none] : qz_L) ++ _ ++ List.replicate (n - (([some (.inr (.inl v)), none] : qz_L) ++ _).length) none = _
      rw [List.length_append, Nat.sub_add_eq]
      rfl
    rw [e]
    exact this
def wkx (G : wz_W) (n l kd t : Nat) (hs : List (Nat × Nat)) (rk : Nat) : wz_W := fun k R x => match qz_args n x.2.1 with
  | none => False
  | some (as, rest) => bif (Nat.ble (qz_wt rest) 8 && Nat.ble (qz_es as).length l) && (Nat.beq kd 0 || qz_rcv x.2.2 t as) then wz_enk as l (fun L => G wz_k0 (wz_rx rk (fun μ' v => k 0 (x.1, wz_psh v rest, μ')) (wz_ex kd hs x.1 k R)) (L, [], x.2.2)) else False
theorem s_kx {G : wz_W} {F : qz_F} {n l kd t : Nat} {hs : List (Nat × Nat)} {rk : Nat} (hS : wz_S G F) : wz_S (wkx G n l kd t hs rk) (qn_k (qz_mt l F) n l kd t hs) := fun k R x h => by
  unfold wkx at h
  unfold qn_k
  split at h
  · exact h.elim
  · rename_i as rest ha
    obtain ⟨h1, h⟩ := wz_bif h id
    obtain ⟨μ', o, e, h⟩ := wz_mt hS (wz_enk_ok h)
    rw [ha]
    dsimp only
    rw [h1, e]
    dsimp only [cond_true]
    unfold wz_rx at h
    unfold qz_bk
    match o, h with
    | .inl none, h =>
      dsimp only at h
      obtain ⟨-, h⟩ := wz_bif h id
      exact ⟨_, rfl, h⟩
    | .inl (some v), h =>
      dsimp only at h
      obtain ⟨-, h⟩ := wz_bif2 h
      exact ⟨_, rfl, h⟩
    | .inr E, h =>
      dsimp only at h
      unfold wz_ex at h
      dsimp only at h ⊢
      cases hk : Nat.beq kd 2
      · rw [hk] at h
        dsimp only [cond_false] at h ⊢
        cases hs with
        | nil => exact ⟨.inr (_, _), rfl, h⟩
        | cons y r =>
          dsimp only at h ⊢
          split at h
          · rename_i hd hh
            rw [hh]
            exact ⟨.inl (_, _), rfl, h⟩
          · exact h.elim
      · rw [hk] at h
        exact h.elim
