/-! DETERMINISM: what a function of the class does to a hall hangs on that hall alone (whichever it is, whatever else there is). -/
def zq (lb rb : Int) (Z Z' : qz_Z) : Prop := ∀ (k : Nat) i j, zhall k = true → Z k lb i j = Z' k rb i j
/-- and rows made on the way: those from lo to hi, at the right dn higher -/
def zQ (lb rb dn lo hi : Int) (Z Z' : qz_Z) : Prop := zq lb rb Z Z' ∧ ∀ n i j, lo ≤ n → n < hi → Z 200 n i j = Z' 200 (n + dn) i j
def dMe {α : Type} (P : qz_Z → qz_Z → Prop) (x y : qz_Z × α) : Prop := P x.1 y.1 ∧ x.2 = y.2
def dMk (P : qz_Z → qz_Z → Prop) (d : Int) (x y : qz_Z × Int) : Prop := P x.1 y.1 ∧ y.2 = x.2 + d
def dMn {α : Type} (P : qz_Z → qz_Z → Prop) (d : Int) (x y : qz_Z × Int × α) : Prop := P x.1 y.1 ∧ y.2.1 = x.2.1 + d ∧ x.2.2 = y.2.2
def dS {α β : Type} (P : α → α → Prop) (Q : β → β → Prop) (x y : α ⊕ β) : Prop := match x, y with
  | .inl a, .inl b => P a b
  | .inr a, .inr b => Q a b
  | _, _ => False
theorem dS_l {α β : Type} {P : α → α → Prop} {Q : β → β → Prop} {a b : α} (h : P a b) : dS P Q (.inl a) (.inl b) := h
theorem dS_r {α β : Type} {P : α → α → Prop} {Q : β → β → Prop} {a b : β} (h : Q a b) : dS P Q (.inr a) (.inr b) := h
section DET
variable {α β γ : Type} {G : α → α → Prop} {P : qz_Z → qz_Z → Prop} {d : Int}
theorem dite {p p' : Prop} [Decidable p] [Decidable p'] {a a' b b' : α} (e : p = p') (h1 : p → G a a') (h2 : ¬ p → G b b') : G (if p then a else b) (if p' then a' else b') := by
  by_cases c : p
  · rw [if_pos c, if_pos (e ▸ c)]
    exact h1 c
  · rw [if_neg c, if_neg (e ▸ c)]
    exact h2 c
theorem dlet_i {v v' : β} {k k' : β → α} (e : v = v') (hk : ∀ x, G (k x) (k' x)) : G (zlet v k) (zlet v' k') := by
  subst e
  exact hk v
theorem dlet_n {v v' : Int} {k k' : Int → α} (e : v' = v + d) (hk : ∀ n, v = n → G (k n) (k' (n + d))) : G (zlet v k) (zlet v' k') := by
  subst e
  exact hk v rfl
theorem dlet_Z {v v' : qz_Z} {k k' : qz_Z → α} (h : P v v') (hk : ∀ z z', P z z' → G (k z) (k' z')) : G (zlet v k) (zlet v' k') := hk v v' h
theorem dlet2 {q q' : qz_Z × β} {k k' : qz_Z → β → α} (h : dMe P q q') (hk : ∀ z z' x, P z z' → G (k z x) (k' z' x)) : G (zlet2 q k) (zlet2 q' k') := by
  obtain ⟨z, x⟩ := q
  obtain ⟨z', x'⟩ := q'
  obtain ⟨h1, h2⟩ := h
  cases h2
  exact hk _ _ _ h1
theorem dlet3 {q q' : qz_Z × β × γ} {k k' : qz_Z → β → γ → α} (h : dMe P q q') (hk : ∀ z z' x y, P z z' → G (k z x y) (k' z' x y)) : G (zlet3 q k) (zlet3 q' k') := by
  obtain ⟨z, x⟩ := q
  obtain ⟨z', x'⟩ := q'
  obtain ⟨h1, h2⟩ := h
  cases h2
  exact hk _ _ _ _ h1
theorem dlet4 {δ : Type} {q q' : qz_Z × β × γ × δ} {k k' : qz_Z → β → γ → δ → α} (h : dMe P q q') (hk : ∀ z z' x y w, P z z' → G (k z x y w) (k' z' x y w)) : G (zlet4 q k) (zlet4 q' k') := by
  obtain ⟨z, x⟩ := q
  obtain ⟨z', x'⟩ := q'
  obtain ⟨h1, h2⟩ := h
  cases h2
  exact hk _ _ _ _ _ h1
theorem dlet2n {q q' : qz_Z × Int} {k k' : qz_Z → Int → α} (h : dMk P d q q') (hk : ∀ z z' n, P z z' → G (k z n) (k' z' (n + d))) : G (zlet2 q k) (zlet2 q' k') := by
  obtain ⟨z, x⟩ := q
  obtain ⟨z', x'⟩ := q'
  obtain ⟨h1, h2⟩ := h
  cases h2
  exact hk _ _ _ h1
theorem dlet3n {q q' : qz_Z × Int × β} {k k' : qz_Z → Int → β → α} (h : dMn P d q q') (hk : ∀ z z' n x, P z z' → G (k z n x) (k' z' (n + d) x)) : G (zlet3 q k) (zlet3 q' k') := by
  obtain ⟨z, n, x⟩ := q
  obtain ⟨z', n', x'⟩ := q'
  obtain ⟨h1, h2, h3⟩ := h
  cases h2
  cases h3
  exact hk _ _ _ _ h1
theorem dlet2e {q q' : β × γ} {k k' : β → γ → α} (e : q = q') (hk : ∀ x y, G (k x y) (k' x y)) : G (zlet2 q k) (zlet2 q' k') := by
  subst e
  exact hk _ _
theorem dlet3e {δ : Type} {q q' : β × γ × δ} {k k' : β → γ → δ → α} (e : q = q') (hk : ∀ x y w, G (k x y w) (k' x y w)) : G (zlet3 q k) (zlet3 q' k') := by
  subst e
  exact hk _ _ _
theorem dlet4e {δ ε : Type} {q q' : β × γ × δ × ε} {k k' : β → γ → δ → ε → α} (e : q = q') (hk : ∀ x y w u, G (k x y w u) (k' x y w u)) : G (zlet4 q k) (zlet4 q' k') := by
  subst e
  exact hk _ _ _ _
theorem dlet5e {δ ε ζ : Type} {q q' : β × γ × δ × ε × ζ} {k k' : β → γ → δ → ε → ζ → α} (e : q = q') (hk : ∀ x y w u o, G (k x y w u o) (k' x y w u o)) : G (zlet5 q k) (zlet5 q' k') := by
  subst e
  exact hk _ _ _ _ _
theorem dzsum {t t' : β ⊕ γ} {f f' : β → α} {g g' : γ → α} {Q1 : β → β → Prop} {Q2 : γ → γ → Prop} (h : dS Q1 Q2 t t') (h1 : ∀ q q', Q1 q q' → G (f q) (f' q')) (h2 : ∀ r r', Q2 r r' → G (g r) (g' r')) : G (zsum t f g) (zsum t' f' g') := by
  cases t with
  | inl a =>
    cases t' with
    | inl b => exact h1 _ _ h
    | inr b => exact h.elim
  | inr a =>
    cases t' with
    | inl b => exact h.elim
    | inr b => exact h2 _ _ h
end DET
section DETW
variable {lb rb dn lo hi : Int} {Z Z' : qz_Z}
theorem zq_u {k : Nat} {i i' j j' v v' : Int} (h : zq lb rb Z Z') (e1 : i = i') (e2 : j = j') (e3 : v = v') : zq lb rb (zu Z k lb i j v) (zu Z' k rb i' j' v') := fun k0 i0 j0 hk => by
  subst e1 e2 e3
  rw [zuq, zuq]
  by_cases c : k0 = k ∧ i0 = i ∧ j0 = j
  · rw [if_pos ⟨c.1, rfl, c.2⟩, if_pos ⟨c.1, rfl, c.2⟩]
  · rw [if_neg (fun q => c ⟨q.1, q.2.2⟩), if_neg (fun q => c ⟨q.1, q.2.2⟩)]
    exact h k0 i0 j0 hk
theorem zQ_u {k : Nat} {i i' j j' v v' : Int} (h : zQ lb rb dn lo hi Z Z') (k2 : k ≠ 200) (e1 : i = i') (e2 : j = j') (e3 : v = v') : zQ lb rb dn lo hi (zu Z k lb i j v) (zu Z' k rb i' j' v') := ⟨zq_u h.1 e1 e2 e3, fun n i0 j0 h0 h1 => by
  rw [zu_ne rfl (fun q => k2 q.1.symm), zu_ne rfl (fun q => k2 q.1.symm)]
  exact h.2 n i0 j0 h0 h1⟩
theorem zq_200 {P : qz_Z → Prop} (hk : zhall 200 = false) {k : Nat} (h : zhall k = true) : k ≠ 200 := fun e => by
  rw [e, hk] at h
  cases h
theorem zQ_a {x i i' j j' v v' : Int} (h : zQ lb rb dn lo hi Z Z') (e1 : i = i') (e2 : j = j') (e3 : v = v') : zQ lb rb dn lo hi (zu Z 200 x i j v) (zu Z' 200 (x + dn) i' j' v') := by
  subst e1 e2 e3
  refine ⟨fun k0 i0 j0 hk => ?_, fun n i0 j0 h0 h1 => ?_⟩
  · have n2 : k0 ≠ 200 := fun e => by
      rw [e] at hk
      cases hk
    rw [zu_ne rfl (fun q => n2 q.1), zu_ne rfl (fun q => n2 q.1)]
    exact h.1 k0 i0 j0 hk
  · rw [zuq, zuq]
    by_cases c : n = x ∧ i0 = i ∧ j0 = j
    · rw [if_pos ⟨rfl, c⟩, if_pos ⟨rfl, by omega, c.2⟩]
    · rw [if_neg (fun q => c q.2), if_neg (fun q => c ⟨by omega, q.2.2⟩)]
      exact h.2 n i0 j0 h0 h1
theorem zQ_py {x y m m' : Int} (h : zQ lb rb dn lo hi Z Z') (e : m = m') (l : lo ≤ x ∧ x < hi) : zQ lb rb dn lo hi (zpy Z 200 x 0 200 y 0 0 m) (zpy Z' 200 (x + dn) 0 200 (y + dn) 0 0 m') := by
  subst e
  refine ⟨fun k0 i0 j0 hk => ?_, fun n i0 j0 h0 h1 => ?_⟩
  · have n2 : k0 ≠ 200 := fun e => by
      rw [e] at hk
      cases hk
    unfold zpy
    rw [if_neg (fun q => n2 q.1), if_neg (fun q => n2 q.1)]
    exact h.1 k0 i0 j0 hk
  · unfold zpy
    by_cases c : n = y ∧ i0 = 0 ∧ 0 ≤ j0 ∧ j0 < 0 + m
    · rw [if_pos ⟨rfl, c⟩, if_pos ⟨rfl, by omega, c.2⟩]
      exact h.2 x 0 _ l.1 l.2
    · rw [if_neg (fun q => c q.2), if_neg (fun q => c ⟨by omega, q.2.2⟩)]
      exact h.2 n i0 j0 h0 h1
theorem zQ_ph {k : Nat} {x i i' o m : Int} (h : zQ lb rb dn lo hi Z Z') (e : i = i') (k2 : k ≠ 200) (l : lo ≤ x ∧ x < hi) : zQ lb rb dn lo hi (zpy Z 200 x 0 k lb i o m) (zpy Z' 200 (x + dn) 0 k rb i' o m) := by
  subst e
  refine ⟨fun k0 i0 j0 hk => ?_, fun n i0 j0 h0 h1 => ?_⟩
  · unfold zpy
    by_cases c : k0 = k ∧ i0 = i ∧ o ≤ j0 ∧ j0 < o + m
    · rw [if_pos ⟨c.1, rfl, c.2⟩, if_pos ⟨c.1, rfl, c.2⟩]
      exact h.2 x 0 _ l.1 l.2
    · rw [if_neg (fun q => c ⟨q.1, q.2.2⟩), if_neg (fun q => c ⟨q.1, q.2.2⟩)]
      exact h.1 k0 i0 j0 hk
  · unfold zpy
    rw [if_neg (fun q => k2 q.1.symm), if_neg (fun q => k2 q.1.symm)]
    exact h.2 n i0 j0 h0 h1
theorem zq_zzi {n : Int} (h : zq lb rb Z Z') : zQ lb rb dn n (n + 1) (zzi Z n) (zzi Z' (n + dn)) := by
  refine ⟨fun k0 i0 j0 hk => ?_, fun n0 i0 j0 h0 h1 => ?_⟩
  · have n2 : k0 ≠ 200 := fun e => by
      rw [e] at hk
      cases hk
    unfold zzi
    rw [if_neg (fun q => n2 q.1), if_neg (fun q => n2 q.1)]
    exact h k0 i0 j0 hk
  · unfold zzi
    rw [if_pos ⟨rfl, by omega⟩, if_pos ⟨rfl, by omega⟩]
theorem zQ_zzi {n : Int} (h : zQ lb rb dn lo n Z Z') : zQ lb rb dn lo (n + 1) (zzi Z n) (zzi Z' (n + dn)) := by
  refine ⟨fun k0 i0 j0 hk => ?_, fun n0 i0 j0 h0 h1 => ?_⟩
  · have n2 : k0 ≠ 200 := fun e => by
      rw [e] at hk
      cases hk
    unfold zzi
    rw [if_neg (fun q => n2 q.1), if_neg (fun q => n2 q.1)]
    exact h.1 k0 i0 j0 hk
  · unfold zzi
    by_cases c : n0 = n
    · rw [if_pos ⟨rfl, c⟩, if_pos ⟨rfl, by omega⟩]
    · rw [if_neg (fun q => c q.2), if_neg (fun q => c (by omega))]
      exact h.2 n0 i0 j0 h0 (by omega)
theorem zQ_w {hi' : Int} (h : zQ lb rb dn lo hi' Z Z') (l : hi ≤ hi') : zQ lb rb dn lo hi Z Z' := ⟨h.1, fun n i j h0 h1 => h.2 n i j h0 (by omega)⟩
/-- shares on a row made on the way -/
theorem dq_shM {x : Int} {Q : Int → Int} (h : zQ lb rb dn lo hi Z Z') : zQ lb rb dn lo hi (shM Z 200 x Q) (shM Z' 200 (x + dn) Q) := by
  refine ⟨fun k0 i0 j0 hk => ?_, fun n i0 j0 h0 h1 => ?_⟩
  · have n2 : k0 ≠ 200 := fun e => by
      rw [e] at hk
      cases hk
    unfold shM
    rw [if_neg (fun q => n2 q.1), if_neg (fun q => n2 q.1)]
    exact h.1 k0 i0 j0 hk
  · unfold shM
    by_cases c : n = x ∧ i0 = 0 ∧ 0 ≤ j0 ∧ j0 < 3
    · rw [if_pos ⟨rfl, c⟩, if_pos ⟨rfl, by omega, c.2⟩]
    · rw [if_neg (fun q => c q.2), if_neg (fun q => c ⟨by omega, q.2.2⟩)]
      exact h.2 n i0 j0 h0 h1
end DETW
theorem dq_1009 {lb rb dn lo : Int} {Z Z' : qz_Z} {a0 a1 a2 a3 a0' a1' a2' a3' n9 a4b : Int} (h0 : zQ lb rb dn lo n9 Z Z') (i0 : a0 = a0') (i1 : a1 = a1') (i2 : a2 = a2') (i3' : a3 = a3') (la4b : lo ≤ a4b ∧ a4b < n9) : dMk (zQ lb rb dn lo n9) dn (zf_1009 Z n9 a0 a1 a2 a3 a4b) (zf_1009 Z' (n9 + dn) a0' a1' a2' a3' (a4b + dn)) := by
  subst i0 i1 i2 i3'
  unfold zf_1009 shX
  have w : zQ lb rb dn lo (n9 + 1) (shW Z n9 a1 a2 a3) (shW Z' (n9 + dn) a1 a2 a3) := by
    unfold shW
    exact zQ_a (zQ_a (zQ_a (zQ_zzi h0) rfl rfl rfl) rfl rfl rfl) rfl rfl rfl
  by_cases c : 1 ≤ shA a1 a2 a3
  · rw [if_pos c, if_pos c]
    refine ⟨?_, by show n9 + dn + 2 = n9 + 2 + dn; omega⟩
    have w2 := zQ_zzi w
    rw [show n9 + 1 + dn = n9 + dn + 1 by omega] at w2
    exact zQ_w (dq_shM w2) (by omega)
  · rw [if_neg c, if_neg c]
    exact ⟨zQ_w w (by omega), by show n9 + dn + 1 = n9 + 1 + dn; omega⟩
theorem dl_41_1 {lb rb : Int} : ∀ (m : Nat) {Z Z' : qz_Z} {x1 x2 x3 x1' x2' x3' : Int}, x1 = x1' → x2 = x2' → zq lb rb Z Z' → x3 = x3' → dMe (zq lb rb) (zl_41_1 lb x1 x2 m Z x3) (zl_41_1 rb x1' x2' m Z' x3')
  | 0, Z, Z', x1, x2, x3, x1', x2', x3', ix1, ix2, h0, ix3 => by
    subst ix1
    subst ix2
    subst ix3
    unfold zl_41_1
    exact ⟨h0, rfl⟩
  | m + 1, Z, Z', x1, x2, x3, x1', x2', x3', ix1, ix2, h0, ix3 => by
    subst ix1
    subst ix2
    subst ix3
    have e0_11 : ∀ i j, Z 11 lb i j = Z' 11 rb i j := fun i j => h0 11 i j rfl
    have e0_45 : ∀ i j, Z 45 lb i j = Z' 45 rb i j := fun i j => h0 45 i j rfl
    have e0_47 : ∀ i j, Z 47 lb i j = Z' 47 rb i j := fun i j => h0 47 i j rfl
    unfold zl_41_1
    refine dite (by simp only [e0_11]) (fun _ => ?_) (fun _ => ?_)
    · exact ⟨h0, rfl⟩
    · refine dite (by simp only [e0_47]) (fun _ => ?_) (fun _ => ?_)
      · exact dl_41_1 m rfl rfl h0 rfl
      · refine dite (by simp only [e0_45, e0_47]) (fun _ => ?_) (fun _ => ?_)
        · exact dl_41_1 m rfl rfl h0 rfl
        · refine dlet_Z (P := zq lb rb) (zq_u h0 rfl rfl rfl) (fun Z9 Z9' h9 => ?_)
          refine dlet_Z (P := zq lb rb) (zq_u h9 rfl rfl rfl) (fun Z10 Z10' h10 => ?_)
          have e10_11 : ∀ i j, Z10 11 lb i j = Z10' 11 rb i j := fun i j => h10 11 i j rfl
          refine dlet_Z (P := zq lb rb) (zq_u h10 rfl rfl (by simp only [e10_11])) (fun Z15 Z15' h15 => ?_)
          have e15_45 : ∀ i j, Z15 45 lb i j = Z15' 45 rb i j := fun i j => h15 45 i j rfl
          have e15_47 : ∀ i j, Z15 47 lb i j = Z15' 47 rb i j := fun i j => h15 47 i j rfl
          refine dlet_Z (P := zq lb rb) (zq_u h15 (by simp only [e15_47]) rfl (by simp only [e15_45, e15_47])) (fun Z21 Z21' h21 => ?_)
          exact dl_41_1 m rfl rfl h21 rfl
theorem dq_41 {lb rb : Int} {Z Z' : qz_Z} {a1 a2 a1' a2' : Int} (h0 : zq lb rb Z Z') (ia1 : a1 = a1') (ia2 : a2 = a2') : zq lb rb (zf_41 Z lb a1 a2) (zf_41 Z' rb a1' a2') := by
  subst ia1
  subst ia2
  unfold zf_41
  refine dlet2 (dl_41_1 _ rfl rfl h0 rfl) (fun Z2 Z2' y1 h2 => ?_)
  exact h2
theorem dl_39_1 {lb rb : Int} : ∀ (m : Nat) {Z Z' : qz_Z} {x2ij x1 x3 x2ij' x1' x3' : Int}, x2ij = x2ij' → x1 = x1' → zq lb rb Z Z' → x3 = x3' → dMe (zq lb rb) (zl_39_1 lb x2ij x1 m Z x3) (zl_39_1 rb x2ij' x1' m Z' x3')
  | 0, Z, Z', x2ij, x1, x3, x2ij', x1', x3', ix2ij, ix1, h0, ix3 => by
    subst ix2ij
    subst ix1
    subst ix3
    unfold zl_39_1
    exact ⟨h0, rfl⟩
  | m + 1, Z, Z', x2ij, x1, x3, x2ij', x1', x3', ix2ij, ix1, h0, ix3 => by
    subst ix2ij
    subst ix1
    subst ix3
    have e0_11 : ∀ i j, Z 11 lb i j = Z' 11 rb i j := fun i j => h0 11 i j rfl
    have e0_50 : ∀ i j, Z 50 lb i j = Z' 50 rb i j := fun i j => h0 50 i j rfl
    unfold zl_39_1
    refine dite rfl (fun _ => ?_) (fun _ => ?_)
    · exact ⟨h0, rfl⟩
    · refine dite (by simp only [e0_11, e0_50]) (fun _ => ?_) (fun _ => ?_)
      · exact dl_39_1 m rfl rfl h0 rfl
      · refine dlet_Z (P := zq lb rb) (dq_41 h0 rfl (by simp only [e0_50])) (fun Z6 Z6' h6 => ?_)
        exact dl_39_1 m rfl rfl h6 rfl
theorem dl_39_4 {lb rb : Int} : ∀ (m : Nat) {Z Z' : qz_Z} {x1 x1' : Int}, zq lb rb Z Z' → x1 = x1' → dMe (zq lb rb) (zl_39_4 lb m Z x1) (zl_39_4 rb m Z' x1')
  | 0, Z, Z', x1, x1', h0, ix1 => by
    subst ix1
    unfold zl_39_4
    exact ⟨h0, rfl⟩
  | m + 1, Z, Z', x1, x1', h0, ix1 => by
    subst ix1
    have e0_11 : ∀ i j, Z 11 lb i j = Z' 11 rb i j := fun i j => h0 11 i j rfl
    have e0_50 : ∀ i j, Z 50 lb i j = Z' 50 rb i j := fun i j => h0 50 i j rfl
    unfold zl_39_4
    refine dite (by simp only [e0_11]) (fun _ => ?_) (fun _ => ?_)
    · exact ⟨h0, rfl⟩
    · refine dite (by simp only [e0_50]) (fun _ => ?_) (fun _ => ?_)
      · exact dl_39_4 m h0 rfl
      · refine dlet2 (dl_39_1 _ rfl rfl h0 rfl) (fun Z6 Z6' y5 h6 => ?_)
        have e6_11 : ∀ i j, Z6 11 lb i j = Z6' 11 rb i j := fun i j => h6 11 i j rfl
        have e6_50 : ∀ i j, Z6 50 lb i j = Z6' 50 rb i j := fun i j => h6 50 i j rfl
        refine dite (by simp only [e6_11, e6_50]) (fun _ => ?_) (fun _ => ?_)
        · exact dl_39_4 m h6 rfl
        · refine dlet_Z (P := zq lb rb) (zq_u h6 rfl rfl rfl) (fun Z12 Z12' h12 => ?_)
          refine dlet_Z (P := zq lb rb) (zq_u h12 rfl rfl rfl) (fun Z14 Z14' h14 => ?_)
          have e14_50 : ∀ i j, Z14 50 lb i j = Z14' 50 rb i j := fun i j => h14 50 i j rfl
          refine dlet_Z (P := zq lb rb) (zq_u h14 rfl rfl (by simp only [e14_50])) (fun Z19 Z19' h19 => ?_)
          have e19_13 : ∀ i j, Z19 13 lb i j = Z19' 13 rb i j := fun i j => h19 13 i j rfl
          have e19_14 : ∀ i j, Z19 14 lb i j = Z19' 14 rb i j := fun i j => h19 14 i j rfl
          have e19_50 : ∀ i j, Z19 50 lb i j = Z19' 50 rb i j := fun i j => h19 50 i j rfl
          refine dite (by simp only [e19_13, e19_50]) (fun _ => ?_) (fun _ => ?_)
          · refine dlet_Z (P := zq lb rb) (zq_u h19 rfl rfl (by simp only [e19_13, e19_14, e19_50])) (fun Z28 Z28' h28 => ?_)
            have e28_14 : ∀ i j, Z28 14 lb i j = Z28' 14 rb i j := fun i j => h28 14 i j rfl
            refine dlet_Z (P := zq lb rb) (zq_u h28 rfl rfl (by simp only [e19_13, e19_50, e28_14])) (fun Z32 Z32' h32 => ?_)
            have e32_11 : ∀ i j, Z32 11 lb i j = Z32' 11 rb i j := fun i j => h32 11 i j rfl
            refine dlet_Z (P := zq lb rb) (zq_u h32 (by simp only [e32_11]) rfl rfl) (fun Z35 Z35' h35 => ?_)
            refine dlet_Z (P := zq lb rb) (zq_u h35 (by simp only [e32_11]) rfl rfl) (fun Z37 Z37' h37 => ?_)
            refine dlet_Z (P := zq lb rb) (zq_u h37 (by simp only [e32_11]) rfl (by simp only [e19_13, e19_50])) (fun Z39 Z39' h39 => ?_)
            refine dlet_Z (P := zq lb rb) (zq_u h39 (by simp only [e32_11]) rfl rfl) (fun Z41 Z41' h41 => ?_)
            have e41_11 : ∀ i j, Z41 11 lb i j = Z41' 11 rb i j := fun i j => h41 11 i j rfl
            refine dlet_Z (P := zq lb rb) (zq_u h41 (by simp only [e32_11]) rfl (by simp only [e41_11])) (fun Z45 Z45' h45 => ?_)
            have e45_11 : ∀ i j, Z45 11 lb i j = Z45' 11 rb i j := fun i j => h45 11 i j rfl
            refine dlet_Z (P := zq lb rb) (zq_u h45 rfl rfl (by simp only [e45_11])) (fun Z49 Z49' h49 => ?_)
            exact dl_39_4 m h49 rfl
          · exact dl_39_4 m h19 rfl
theorem dq_39 {lb rb : Int} {Z Z' : qz_Z} (h0 : zq lb rb Z Z') : zq lb rb (zf_39 Z lb) (zf_39 Z' rb) := by
  unfold zf_39
  refine dlet2 (dl_39_4 _ h0 rfl) (fun Z2 Z2' y1 h2 => ?_)
  exact h2
theorem dq_168 {lb rb : Int} {Z Z' : qz_Z} {a0ij a1 a0ij' a1' : Int} (h0 : zq lb rb Z Z') (ia0ij : a0ij = a0ij') (ia1 : a1 = a1') : zq lb rb (zf_168 Z lb a0ij a1) (zf_168 Z' rb a0ij' a1') := by
  subst ia0ij
  subst ia1
  have e0_43 : ∀ i j, Z 43 lb i j = Z' 43 rb i j := fun i j => h0 43 i j rfl
  unfold zf_168
  refine dite (by simp only [e0_43]) (fun _ => ?_) (fun _ => ?_)
  · refine dite (by simp only [e0_43]) (fun _ => ?_) (fun _ => ?_)
    · refine dite (by simp only [e0_43]) (fun _ => ?_) (fun _ => ?_)
      · refine dite (by simp only [e0_43]) (fun _ => ?_) (fun _ => ?_)
        · refine dite (by simp only [e0_43]) (fun _ => ?_) (fun _ => ?_)
          · refine dlet_Z (P := zq lb rb) (zq_u h0 rfl rfl (by simp only [e0_43])) (fun Z11 Z11' h11 => ?_)
            refine dlet_Z (P := zq lb rb) (zq_u h11 rfl rfl rfl) (fun Z12 Z12' h12 => ?_)
            exact h12
          · refine dlet_Z (P := zq lb rb) (zq_u h0 rfl rfl (by simp only [e0_43])) (fun Z15 Z15' h15 => ?_)
            have e15_43 : ∀ i j, Z15 43 lb i j = Z15' 43 rb i j := fun i j => h15 43 i j rfl
            refine dlet_Z (P := zq lb rb) (zq_u h15 rfl rfl (by simp only [e15_43])) (fun Z18 Z18' h18 => ?_)
            refine dlet_Z (P := zq lb rb) (zq_u h18 rfl rfl (by simp only [e0_43])) (fun Z19 Z19' h19 => ?_)
            refine dlet_Z (P := zq lb rb) (zq_u h19 rfl rfl rfl) (fun Z20 Z20' h20 => ?_)
            exact h20
        · refine dite (by simp only [e0_43]) (fun _ => ?_) (fun _ => ?_)
          · refine dlet_Z (P := zq lb rb) (zq_u h0 rfl rfl (by simp only [e0_43])) (fun Z22 Z22' h22 => ?_)
            refine dlet_Z (P := zq lb rb) (zq_u h22 rfl rfl rfl) (fun Z23 Z23' h23 => ?_)
            exact h23
          · refine dlet_Z (P := zq lb rb) (zq_u h0 rfl rfl (by simp only [e0_43])) (fun Z26 Z26' h26 => ?_)
            have e26_43 : ∀ i j, Z26 43 lb i j = Z26' 43 rb i j := fun i j => h26 43 i j rfl
            refine dlet_Z (P := zq lb rb) (zq_u h26 rfl rfl (by simp only [e26_43])) (fun Z29 Z29' h29 => ?_)
            refine dlet_Z (P := zq lb rb) (zq_u h29 rfl rfl (by simp only [e0_43])) (fun Z30 Z30' h30 => ?_)
            refine dlet_Z (P := zq lb rb) (zq_u h30 rfl rfl rfl) (fun Z31 Z31' h31 => ?_)
            exact h31
      · refine dite (by simp only [e0_43]) (fun _ => ?_) (fun _ => ?_)
        · refine dite (by simp only [e0_43]) (fun _ => ?_) (fun _ => ?_)
          · refine dlet_Z (P := zq lb rb) (zq_u h0 rfl rfl (by simp only [e0_43])) (fun Z35 Z35' h35 => ?_)
            refine dlet_Z (P := zq lb rb) (zq_u h35 rfl rfl rfl) (fun Z36 Z36' h36 => ?_)
            exact h36
          · refine dlet_Z (P := zq lb rb) (zq_u h0 rfl rfl (by simp only [e0_43])) (fun Z39 Z39' h39 => ?_)
            have e39_43 : ∀ i j, Z39 43 lb i j = Z39' 43 rb i j := fun i j => h39 43 i j rfl
            refine dlet_Z (P := zq lb rb) (zq_u h39 rfl rfl (by simp only [e39_43])) (fun Z42 Z42' h42 => ?_)
            refine dlet_Z (P := zq lb rb) (zq_u h42 rfl rfl (by simp only [e0_43])) (fun Z43 Z43' h43 => ?_)
            refine dlet_Z (P := zq lb rb) (zq_u h43 rfl rfl rfl) (fun Z44 Z44' h44 => ?_)
            exact h44
        · refine dite (by simp only [e0_43]) (fun _ => ?_) (fun _ => ?_)
          · refine dlet_Z (P := zq lb rb) (zq_u h0 rfl rfl (by simp only [e0_43])) (fun Z46 Z46' h46 => ?_)
            refine dlet_Z (P := zq lb rb) (zq_u h46 rfl rfl rfl) (fun Z47 Z47' h47 => ?_)
            exact h47
          · refine dlet_Z (P := zq lb rb) (zq_u h0 rfl rfl (by simp only [e0_43])) (fun Z50 Z50' h50 => ?_)
            have e50_43 : ∀ i j, Z50 43 lb i j = Z50' 43 rb i j := fun i j => h50 43 i j rfl
            refine dlet_Z (P := zq lb rb) (zq_u h50 rfl rfl (by simp only [e50_43])) (fun Z53 Z53' h53 => ?_)
            refine dlet_Z (P := zq lb rb) (zq_u h53 rfl rfl (by simp only [e0_43])) (fun Z54 Z54' h54 => ?_)
            refine dlet_Z (P := zq lb rb) (zq_u h54 rfl rfl rfl) (fun Z55 Z55' h55 => ?_)
            exact h55
    · refine dite (by simp only [e0_43]) (fun _ => ?_) (fun _ => ?_)
      · refine dite (by simp only [e0_43]) (fun _ => ?_) (fun _ => ?_)
        · refine dite (by simp only [e0_43]) (fun _ => ?_) (fun _ => ?_)
          · refine dlet_Z (P := zq lb rb) (zq_u h0 rfl rfl (by simp only [e0_43])) (fun Z61 Z61' h61 => ?_)
            refine dlet_Z (P := zq lb rb) (zq_u h61 rfl rfl rfl) (fun Z62 Z62' h62 => ?_)
            exact h62
          · refine dlet_Z (P := zq lb rb) (zq_u h0 rfl rfl (by simp only [e0_43])) (fun Z65 Z65' h65 => ?_)
            have e65_43 : ∀ i j, Z65 43 lb i j = Z65' 43 rb i j := fun i j => h65 43 i j rfl
            refine dlet_Z (P := zq lb rb) (zq_u h65 rfl rfl (by simp only [e65_43])) (fun Z68 Z68' h68 => ?_)
            refine dlet_Z (P := zq lb rb) (zq_u h68 rfl rfl (by simp only [e0_43])) (fun Z69 Z69' h69 => ?_)
            refine dlet_Z (P := zq lb rb) (zq_u h69 rfl rfl rfl) (fun Z70 Z70' h70 => ?_)
            exact h70
        · refine dite (by simp only [e0_43]) (fun _ => ?_) (fun _ => ?_)
          · refine dlet_Z (P := zq lb rb) (zq_u h0 rfl rfl (by simp only [e0_43])) (fun Z72 Z72' h72 => ?_)
            refine dlet_Z (P := zq lb rb) (zq_u h72 rfl rfl rfl) (fun Z73 Z73' h73 => ?_)
            exact h73
          · refine dlet_Z (P := zq lb rb) (zq_u h0 rfl rfl (by simp only [e0_43])) (fun Z76 Z76' h76 => ?_)
            have e76_43 : ∀ i j, Z76 43 lb i j = Z76' 43 rb i j := fun i j => h76 43 i j rfl
            refine dlet_Z (P := zq lb rb) (zq_u h76 rfl rfl (by simp only [e76_43])) (fun Z79 Z79' h79 => ?_)
            refine dlet_Z (P := zq lb rb) (zq_u h79 rfl rfl (by simp only [e0_43])) (fun Z80 Z80' h80 => ?_)
            refine dlet_Z (P := zq lb rb) (zq_u h80 rfl rfl rfl) (fun Z81 Z81' h81 => ?_)
            exact h81
      · refine dite (by simp only [e0_43]) (fun _ => ?_) (fun _ => ?_)
        · refine dite (by simp only [e0_43]) (fun _ => ?_) (fun _ => ?_)
          · refine dlet_Z (P := zq lb rb) (zq_u h0 rfl rfl (by simp only [e0_43])) (fun Z85 Z85' h85 => ?_)
            refine dlet_Z (P := zq lb rb) (zq_u h85 rfl rfl rfl) (fun Z86 Z86' h86 => ?_)
            exact h86
          · refine dlet_Z (P := zq lb rb) (zq_u h0 rfl rfl (by simp only [e0_43])) (fun Z89 Z89' h89 => ?_)
            have e89_43 : ∀ i j, Z89 43 lb i j = Z89' 43 rb i j := fun i j => h89 43 i j rfl
            refine dlet_Z (P := zq lb rb) (zq_u h89 rfl rfl (by simp only [e89_43])) (fun Z92 Z92' h92 => ?_)
            refine dlet_Z (P := zq lb rb) (zq_u h92 rfl rfl (by simp only [e0_43])) (fun Z93 Z93' h93 => ?_)
            refine dlet_Z (P := zq lb rb) (zq_u h93 rfl rfl rfl) (fun Z94 Z94' h94 => ?_)
            exact h94
        · refine dite (by simp only [e0_43]) (fun _ => ?_) (fun _ => ?_)
          · refine dlet_Z (P := zq lb rb) (zq_u h0 rfl rfl (by simp only [e0_43])) (fun Z96 Z96' h96 => ?_)
            refine dlet_Z (P := zq lb rb) (zq_u h96 rfl rfl rfl) (fun Z97 Z97' h97 => ?_)
            exact h97
          · refine dlet_Z (P := zq lb rb) (zq_u h0 rfl rfl (by simp only [e0_43])) (fun Z100 Z100' h100 => ?_)
            have e100_43 : ∀ i j, Z100 43 lb i j = Z100' 43 rb i j := fun i j => h100 43 i j rfl
            refine dlet_Z (P := zq lb rb) (zq_u h100 rfl rfl (by simp only [e100_43])) (fun Z103 Z103' h103 => ?_)
            refine dlet_Z (P := zq lb rb) (zq_u h103 rfl rfl (by simp only [e0_43])) (fun Z104 Z104' h104 => ?_)
            refine dlet_Z (P := zq lb rb) (zq_u h104 rfl rfl rfl) (fun Z105 Z105' h105 => ?_)
            exact h105
  · refine dite (by simp only [e0_43]) (fun _ => ?_) (fun _ => ?_)
    · refine dite (by simp only [e0_43]) (fun _ => ?_) (fun _ => ?_)
      · refine dite (by simp only [e0_43]) (fun _ => ?_) (fun _ => ?_)
        · refine dite (by simp only [e0_43]) (fun _ => ?_) (fun _ => ?_)
          · refine dlet_Z (P := zq lb rb) (zq_u h0 rfl rfl (by simp only [e0_43])) (fun Z114 Z114' h114 => ?_)
            refine dlet_Z (P := zq lb rb) (zq_u h114 rfl rfl rfl) (fun Z115 Z115' h115 => ?_)
            exact h115
          · refine dlet_Z (P := zq lb rb) (zq_u h0 rfl rfl (by simp only [e0_43])) (fun Z118 Z118' h118 => ?_)
            have e118_43 : ∀ i j, Z118 43 lb i j = Z118' 43 rb i j := fun i j => h118 43 i j rfl
            refine dlet_Z (P := zq lb rb) (zq_u h118 rfl rfl (by simp only [e118_43])) (fun Z121 Z121' h121 => ?_)
            refine dlet_Z (P := zq lb rb) (zq_u h121 rfl rfl (by simp only [e0_43])) (fun Z122 Z122' h122 => ?_)
            refine dlet_Z (P := zq lb rb) (zq_u h122 rfl rfl rfl) (fun Z123 Z123' h123 => ?_)
            exact h123
        · refine dite (by simp only [e0_43]) (fun _ => ?_) (fun _ => ?_)
          · refine dlet_Z (P := zq lb rb) (zq_u h0 rfl rfl (by simp only [e0_43])) (fun Z125 Z125' h125 => ?_)
            refine dlet_Z (P := zq lb rb) (zq_u h125 rfl rfl rfl) (fun Z126 Z126' h126 => ?_)
            exact h126
          · refine dlet_Z (P := zq lb rb) (zq_u h0 rfl rfl (by simp only [e0_43])) (fun Z129 Z129' h129 => ?_)
            have e129_43 : ∀ i j, Z129 43 lb i j = Z129' 43 rb i j := fun i j => h129 43 i j rfl
            refine dlet_Z (P := zq lb rb) (zq_u h129 rfl rfl (by simp only [e129_43])) (fun Z132 Z132' h132 => ?_)
            refine dlet_Z (P := zq lb rb) (zq_u h132 rfl rfl (by simp only [e0_43])) (fun Z133 Z133' h133 => ?_)
            refine dlet_Z (P := zq lb rb) (zq_u h133 rfl rfl rfl) (fun Z134 Z134' h134 => ?_)
            exact h134
      · refine dite (by simp only [e0_43]) (fun _ => ?_) (fun _ => ?_)
        · refine dite (by simp only [e0_43]) (fun _ => ?_) (fun _ => ?_)
          · refine dlet_Z (P := zq lb rb) (zq_u h0 rfl rfl (by simp only [e0_43])) (fun Z138 Z138' h138 => ?_)
            refine dlet_Z (P := zq lb rb) (zq_u h138 rfl rfl rfl) (fun Z139 Z139' h139 => ?_)
            exact h139
          · refine dlet_Z (P := zq lb rb) (zq_u h0 rfl rfl (by simp only [e0_43])) (fun Z142 Z142' h142 => ?_)
            have e142_43 : ∀ i j, Z142 43 lb i j = Z142' 43 rb i j := fun i j => h142 43 i j rfl
            refine dlet_Z (P := zq lb rb) (zq_u h142 rfl rfl (by simp only [e142_43])) (fun Z145 Z145' h145 => ?_)
            refine dlet_Z (P := zq lb rb) (zq_u h145 rfl rfl (by simp only [e0_43])) (fun Z146 Z146' h146 => ?_)
            refine dlet_Z (P := zq lb rb) (zq_u h146 rfl rfl rfl) (fun Z147 Z147' h147 => ?_)
            exact h147
        · refine dite (by simp only [e0_43]) (fun _ => ?_) (fun _ => ?_)
          · refine dlet_Z (P := zq lb rb) (zq_u h0 rfl rfl (by simp only [e0_43])) (fun Z149 Z149' h149 => ?_)
            refine dlet_Z (P := zq lb rb) (zq_u h149 rfl rfl rfl) (fun Z150 Z150' h150 => ?_)
            exact h150
          · refine dlet_Z (P := zq lb rb) (zq_u h0 rfl rfl (by simp only [e0_43])) (fun Z153 Z153' h153 => ?_)
            have e153_43 : ∀ i j, Z153 43 lb i j = Z153' 43 rb i j := fun i j => h153 43 i j rfl
            refine dlet_Z (P := zq lb rb) (zq_u h153 rfl rfl (by simp only [e153_43])) (fun Z156 Z156' h156 => ?_)
            refine dlet_Z (P := zq lb rb) (zq_u h156 rfl rfl (by simp only [e0_43])) (fun Z157 Z157' h157 => ?_)
            refine dlet_Z (P := zq lb rb) (zq_u h157 rfl rfl rfl) (fun Z158 Z158' h158 => ?_)
            exact h158
    · refine dite (by simp only [e0_43]) (fun _ => ?_) (fun _ => ?_)
      · refine dite (by simp only [e0_43]) (fun _ => ?_) (fun _ => ?_)
        · refine dite (by simp only [e0_43]) (fun _ => ?_) (fun _ => ?_)
          · refine dlet_Z (P := zq lb rb) (zq_u h0 rfl rfl (by simp only [e0_43])) (fun Z164 Z164' h164 => ?_)
            refine dlet_Z (P := zq lb rb) (zq_u h164 rfl rfl rfl) (fun Z165 Z165' h165 => ?_)
            exact h165
          · refine dlet_Z (P := zq lb rb) (zq_u h0 rfl rfl (by simp only [e0_43])) (fun Z168 Z168' h168 => ?_)
            have e168_43 : ∀ i j, Z168 43 lb i j = Z168' 43 rb i j := fun i j => h168 43 i j rfl
            refine dlet_Z (P := zq lb rb) (zq_u h168 rfl rfl (by simp only [e168_43])) (fun Z171 Z171' h171 => ?_)
            refine dlet_Z (P := zq lb rb) (zq_u h171 rfl rfl (by simp only [e0_43])) (fun Z172 Z172' h172 => ?_)
            refine dlet_Z (P := zq lb rb) (zq_u h172 rfl rfl rfl) (fun Z173 Z173' h173 => ?_)
            exact h173
        · refine dite (by simp only [e0_43]) (fun _ => ?_) (fun _ => ?_)
          · refine dlet_Z (P := zq lb rb) (zq_u h0 rfl rfl (by simp only [e0_43])) (fun Z175 Z175' h175 => ?_)
            refine dlet_Z (P := zq lb rb) (zq_u h175 rfl rfl rfl) (fun Z176 Z176' h176 => ?_)
            exact h176
          · refine dlet_Z (P := zq lb rb) (zq_u h0 rfl rfl (by simp only [e0_43])) (fun Z179 Z179' h179 => ?_)
            have e179_43 : ∀ i j, Z179 43 lb i j = Z179' 43 rb i j := fun i j => h179 43 i j rfl
            refine dlet_Z (P := zq lb rb) (zq_u h179 rfl rfl (by simp only [e179_43])) (fun Z182 Z182' h182 => ?_)
            refine dlet_Z (P := zq lb rb) (zq_u h182 rfl rfl (by simp only [e0_43])) (fun Z183 Z183' h183 => ?_)
            refine dlet_Z (P := zq lb rb) (zq_u h183 rfl rfl rfl) (fun Z184 Z184' h184 => ?_)
            exact h184
      · refine dite (by simp only [e0_43]) (fun _ => ?_) (fun _ => ?_)
        · refine dite (by simp only [e0_43]) (fun _ => ?_) (fun _ => ?_)
          · refine dlet_Z (P := zq lb rb) (zq_u h0 rfl rfl (by simp only [e0_43])) (fun Z188 Z188' h188 => ?_)
            refine dlet_Z (P := zq lb rb) (zq_u h188 rfl rfl rfl) (fun Z189 Z189' h189 => ?_)
            exact h189
          · refine dlet_Z (P := zq lb rb) (zq_u h0 rfl rfl (by simp only [e0_43])) (fun Z192 Z192' h192 => ?_)
            have e192_43 : ∀ i j, Z192 43 lb i j = Z192' 43 rb i j := fun i j => h192 43 i j rfl
            refine dlet_Z (P := zq lb rb) (zq_u h192 rfl rfl (by simp only [e192_43])) (fun Z195 Z195' h195 => ?_)
            refine dlet_Z (P := zq lb rb) (zq_u h195 rfl rfl (by simp only [e0_43])) (fun Z196 Z196' h196 => ?_)
            refine dlet_Z (P := zq lb rb) (zq_u h196 rfl rfl rfl) (fun Z197 Z197' h197 => ?_)
            exact h197
        · refine dite (by simp only [e0_43]) (fun _ => ?_) (fun _ => ?_)
          · refine dlet_Z (P := zq lb rb) (zq_u h0 rfl rfl (by simp only [e0_43])) (fun Z199 Z199' h199 => ?_)
            refine dlet_Z (P := zq lb rb) (zq_u h199 rfl rfl rfl) (fun Z200 Z200' h200 => ?_)
            exact h200
          · refine dlet_Z (P := zq lb rb) (zq_u h0 rfl rfl (by simp only [e0_43])) (fun Z203 Z203' h203 => ?_)
            have e203_43 : ∀ i j, Z203 43 lb i j = Z203' 43 rb i j := fun i j => h203 43 i j rfl
            refine dlet_Z (P := zq lb rb) (zq_u h203 rfl rfl (by simp only [e203_43])) (fun Z206 Z206' h206 => ?_)
            refine dlet_Z (P := zq lb rb) (zq_u h206 rfl rfl (by simp only [e0_43])) (fun Z207 Z207' h207 => ?_)
            refine dlet_Z (P := zq lb rb) (zq_u h207 rfl rfl rfl) (fun Z208 Z208' h208 => ?_)
            exact h208
theorem dl_171_1 {lb rb : Int} : ∀ (m : Nat) {Z Z' : qz_Z} {x1 x2 x1' x2' : Int}, x1 = x1' → zq lb rb Z Z' → x2 = x2' → dMe (zq lb rb) (zl_171_1 lb x1 m Z x2) (zl_171_1 rb x1' m Z' x2')
  | 0, Z, Z', x1, x2, x1', x2', ix1, h0, ix2 => by
    subst ix1
    subst ix2
    unfold zl_171_1
    exact ⟨h0, rfl⟩
  | m + 1, Z, Z', x1, x2, x1', x2', ix1, h0, ix2 => by
    subst ix1
    subst ix2
    have e0_11 : ∀ i j, Z 11 lb i j = Z' 11 rb i j := fun i j => h0 11 i j rfl
    unfold zl_171_1
    refine dite (by simp only [e0_11]) (fun _ => ?_) (fun _ => ?_)
    · exact ⟨h0, rfl⟩
    · refine dlet_Z (P := zq lb rb) (dq_168 h0 rfl rfl) (fun Z3 Z3' h3 => ?_)
      exact dl_171_1 m rfl h3 rfl
theorem dl_171_2 {lb rb : Int} : ∀ (m : Nat) {Z Z' : qz_Z} {x1 x2 x1' x2' : Int}, x1 = x1' → zq lb rb Z Z' → x2 = x2' → dMe (zq lb rb) (zl_171_2 lb x1 m Z x2) (zl_171_2 rb x1' m Z' x2')
  | 0, Z, Z', x1, x2, x1', x2', ix1, h0, ix2 => by
    subst ix1
    subst ix2
    unfold zl_171_2
    exact ⟨h0, rfl⟩
  | m + 1, Z, Z', x1, x2, x1', x2', ix1, h0, ix2 => by
    subst ix1
    subst ix2
    have e0_11 : ∀ i j, Z 11 lb i j = Z' 11 rb i j := fun i j => h0 11 i j rfl
    have e0_41 : ∀ i j, Z 41 lb i j = Z' 41 rb i j := fun i j => h0 41 i j rfl
    have e0_43 : ∀ i j, Z 43 lb i j = Z' 43 rb i j := fun i j => h0 43 i j rfl
    have e0_44 : ∀ i j, Z 44 lb i j = Z' 44 rb i j := fun i j => h0 44 i j rfl
    unfold zl_171_2
    refine dite (by simp only [e0_11]) (fun _ => ?_) (fun _ => ?_)
    · exact ⟨h0, rfl⟩
    · refine dite (by simp only [e0_44]) (fun _ => ?_) (fun _ => ?_)
      · exact dl_171_2 m rfl h0 rfl
      · refine dite (by simp only [e0_44]) (fun _ => ?_) (fun _ => ?_)
        · refine dite (by simp only [e0_43, e0_44]) (fun _ => ?_) (fun _ => ?_)
          · refine dlet_Z (P := zq lb rb) (zq_u h0 rfl rfl (by simp only [e0_41, e0_43, e0_44])) (fun Z14 Z14' h14 => ?_)
            have e14_41 : ∀ i j, Z14 41 lb i j = Z14' 41 rb i j := fun i j => h14 41 i j rfl
            have e14_44 : ∀ i j, Z14 44 lb i j = Z14' 44 rb i j := fun i j => h14 44 i j rfl
            refine dite (by simp only [e0_43, e0_44, e14_41]) (fun _ => ?_) (fun _ => ?_)
            · refine dlet_Z (P := zq lb rb) (zq_u h14 rfl rfl (by simp only [e14_44])) (fun Z18 Z18' h18 => ?_)
              exact dl_171_2 m rfl h18 rfl
            · refine dlet_Z (P := zq lb rb) (zq_u h14 rfl rfl (by simp only [e14_44])) (fun Z20 Z20' h20 => ?_)
              exact dl_171_2 m rfl h20 rfl
          · refine dlet_Z (P := zq lb rb) (zq_u h0 rfl rfl (by simp only [e0_41, e0_43, e0_44])) (fun Z26 Z26' h26 => ?_)
            have e26_41 : ∀ i j, Z26 41 lb i j = Z26' 41 rb i j := fun i j => h26 41 i j rfl
            have e26_44 : ∀ i j, Z26 44 lb i j = Z26' 44 rb i j := fun i j => h26 44 i j rfl
            refine dite (by simp only [e0_43, e0_44, e26_41]) (fun _ => ?_) (fun _ => ?_)
            · refine dlet_Z (P := zq lb rb) (zq_u h26 rfl rfl (by simp only [e26_44])) (fun Z30 Z30' h30 => ?_)
              exact dl_171_2 m rfl h30 rfl
            · refine dlet_Z (P := zq lb rb) (zq_u h26 rfl rfl (by simp only [e26_44])) (fun Z32 Z32' h32 => ?_)
              exact dl_171_2 m rfl h32 rfl
        · refine dlet_Z (P := zq lb rb) (zq_u h0 rfl rfl (by simp only [e0_41, e0_44])) (fun Z37 Z37' h37 => ?_)
          have e37_41 : ∀ i j, Z37 41 lb i j = Z37' 41 rb i j := fun i j => h37 41 i j rfl
          have e37_44 : ∀ i j, Z37 44 lb i j = Z37' 44 rb i j := fun i j => h37 44 i j rfl
          refine dite (by simp only [e0_44, e37_41]) (fun _ => ?_) (fun _ => ?_)
          · refine dlet_Z (P := zq lb rb) (zq_u h37 rfl rfl (by simp only [e37_44])) (fun Z41 Z41' h41 => ?_)
            exact dl_171_2 m rfl h41 rfl
          · refine dlet_Z (P := zq lb rb) (zq_u h37 rfl rfl (by simp only [e37_44])) (fun Z43 Z43' h43 => ?_)
            exact dl_171_2 m rfl h43 rfl
theorem dl_171_3 {lb rb : Int} : ∀ (m : Nat) {Z Z' : qz_Z} {x2 x2' : Int}, zq lb rb Z Z' → x2 = x2' → dMe (zq lb rb) (zl_171_3 lb m Z x2) (zl_171_3 rb m Z' x2')
  | 0, Z, Z', x2, x2', h0, ix2 => by
    subst ix2
    unfold zl_171_3
    exact ⟨h0, rfl⟩
  | m + 1, Z, Z', x2, x2', h0, ix2 => by
    subst ix2
    have e0_11 : ∀ i j, Z 11 lb i j = Z' 11 rb i j := fun i j => h0 11 i j rfl
    have e0_41 : ∀ i j, Z 41 lb i j = Z' 41 rb i j := fun i j => h0 41 i j rfl
    have e0_44 : ∀ i j, Z 44 lb i j = Z' 44 rb i j := fun i j => h0 44 i j rfl
    have e0_47 : ∀ i j, Z 47 lb i j = Z' 47 rb i j := fun i j => h0 47 i j rfl
    have e0_50 : ∀ i j, Z 50 lb i j = Z' 50 rb i j := fun i j => h0 50 i j rfl
    unfold zl_171_3
    refine dite (by simp only [e0_11]) (fun _ => ?_) (fun _ => ?_)
    · exact ⟨h0, rfl⟩
    · refine dite (by simp only [e0_47]) (fun _ => ?_) (fun _ => ?_)
      · exact dl_171_3 m h0 rfl
      · refine dlet_Z (P := zq lb rb) (zq_u h0 rfl rfl (by simp only [e0_41, e0_44, e0_47, e0_50])) (fun Z14 Z14' h14 => ?_)
        have e14_41 : ∀ i j, Z14 41 lb i j = Z14' 41 rb i j := fun i j => h14 41 i j rfl
        have e14_47 : ∀ i j, Z14 47 lb i j = Z14' 47 rb i j := fun i j => h14 47 i j rfl
        refine dite (by simp only [e0_44, e0_47, e0_50, e14_41]) (fun _ => ?_) (fun _ => ?_)
        · refine dlet_Z (P := zq lb rb) (zq_u h14 rfl rfl (by simp only [e14_47])) (fun Z18 Z18' h18 => ?_)
          exact dl_171_3 m h18 rfl
        · refine dlet_Z (P := zq lb rb) (zq_u h14 rfl rfl (by simp only [e14_47])) (fun Z20 Z20' h20 => ?_)
          exact dl_171_3 m h20 rfl
theorem dq_171 {lb rb : Int} {Z Z' : qz_Z} (h0 : zq lb rb Z Z') : zq lb rb (zf_171 Z lb) (zf_171 Z' rb) := by
  have e0_11 : ∀ i j, Z 11 lb i j = Z' 11 rb i j := fun i j => h0 11 i j rfl
  have e0_12 : ∀ i j, Z 12 lb i j = Z' 12 rb i j := fun i j => h0 12 i j rfl
  unfold zf_171
  refine dlet2 (dl_171_1 _ (by simp only [e0_11, e0_12]) h0 rfl) (fun Z4 Z4' y3 h4 => ?_)
  refine dlet2 (dl_171_2 _ (by simp only [e0_11, e0_12]) h4 rfl) (fun Z7 Z7' y6 h7 => ?_)
  refine dlet2 (dl_171_3 _ h7 rfl) (fun Z10 Z10' y9 h10 => ?_)
  exact h10
theorem dq_133 {lb rb : Int} {Z Z' : qz_Z} {a0 a0' : Int} (h0 : zq lb rb Z Z') (ia0 : a0 = a0') : zf_133 Z a0 = zf_133 Z' a0' := by
  subst ia0
  unfold zf_133
  exact rfl
theorem dl_139_1 {lb rb : Int} : ∀ (m : Nat) {Z Z' : qz_Z} {x3 x4 x5 x3' x4' x5' : Int}, x3 = x3' → zq lb rb Z Z' → x4 = x4' → x5 = x5' → zl_139_1 x3 m Z x4 x5 = zl_139_1 x3' m Z' x4' x5'
  | 0, Z, Z', x3, x4, x5, x3', x4', x5', ix3, h0, ix4, ix5 => by
    subst ix3
    subst ix4
    subst ix5
    unfold zl_139_1
    exact rfl
  | m + 1, Z, Z', x3, x4, x5, x3', x4', x5', ix3, h0, ix4, ix5 => by
    subst ix3
    subst ix4
    subst ix5
    unfold zl_139_1
    refine dite rfl (fun _ => ?_) (fun _ => ?_)
    · exact rfl
    · exact dl_139_1 m rfl h0 rfl rfl
theorem dq_139 {lb rb : Int} {Z Z' : qz_Z} {a0ij a1 a0ij' a1' : Int} (h0 : zq lb rb Z Z') (ia0ij : a0ij = a0ij') (ia1 : a1 = a1') : zf_139 Z lb a0ij a1 = zf_139 Z' rb a0ij' a1' := by
  subst ia0ij
  subst ia1
  have e0_51 : ∀ i j, Z 51 lb i j = Z' 51 rb i j := fun i j => h0 51 i j rfl
  have p0_133 : ∀ u1 : Int, zf_133 Z u1 = zf_133 Z' u1 := fun u1 => dq_133 h0 rfl
  unfold zf_139
  refine dlet_i (by simp only [e0_51, p0_133]) (fun v2 => ?_)
  refine dite (by simp only [e0_51]) (fun _ => ?_) (fun _ => ?_)
  · exact rfl
  · refine dite (by simp only [e0_51]) (fun _ => ?_) (fun _ => ?_)
    · exact rfl
    · refine dite (by simp only [e0_51]) (fun _ => ?_) (fun _ => ?_)
      · refine dlet2e (dl_139_1 _ (by simp only [e0_51]) h0 (by simp only [e0_51]) rfl) (fun y11 y12 => ?_)
        exact rfl
      · exact rfl
theorem dq_100 {lb rb : Int} {Z Z' : qz_Z} {a1ij a1ij' : Int} (h0 : zq lb rb Z Z') (ia1ij : a1ij = a1ij') : zf_100 Z lb lb a1ij = zf_100 Z' rb rb a1ij' := by
  subst ia1ij
  have e0_41 : ∀ i j, Z 41 lb i j = Z' 41 rb i j := fun i j => h0 41 i j rfl
  have e0_44 : ∀ i j, Z 44 lb i j = Z' 44 rb i j := fun i j => h0 44 i j rfl
  unfold zf_100
  refine dite (by simp only [e0_41, e0_44]) (fun _ => ?_) (fun _ => ?_)
  · refine dite (by simp only [e0_41, e0_44]) (fun _ => ?_) (fun _ => ?_)
    · refine dite (by simp only [e0_41, e0_44]) (fun _ => ?_) (fun _ => ?_)
      · exact rfl
      · exact rfl
    · exact rfl
  · exact rfl
theorem dq_135 {lb rb : Int} {Z Z' : qz_Z} {a1ij a2ij a1ij' a2ij' : Int} (h0 : zq lb rb Z Z') (ia1ij : a1ij = a1ij') (ia2ij : a2ij = a2ij') : zf_135 Z lb lb a1ij lb a2ij = zf_135 Z' rb rb a1ij' rb a2ij' := by
  subst ia1ij
  subst ia2ij
  have e0_44 : ∀ i j, Z 44 lb i j = Z' 44 rb i j := fun i j => h0 44 i j rfl
  have e0_51 : ∀ i j, Z 51 lb i j = Z' 51 rb i j := fun i j => h0 51 i j rfl
  have p0_100 : ∀ u3 : Int, zf_100 Z lb lb u3 = zf_100 Z' rb rb u3 := fun u3 => dq_100 h0 rfl
  unfold zf_135
  refine dlet_i (by simp only [p0_100]) (fun v1 => ?_)
  refine dite rfl (fun _ => ?_) (fun _ => ?_)
  · refine dite (by simp only [e0_44]) (fun _ => ?_) (fun _ => ?_)
    · refine dite (by simp only [e0_51]) (fun _ => ?_) (fun _ => ?_)
      · exact rfl
      · refine dite (by simp only [e0_44]) (fun _ => ?_) (fun _ => ?_)
        · exact rfl
        · refine dite (by simp only [e0_44]) (fun _ => ?_) (fun _ => ?_)
          · exact rfl
          · exact rfl
    · refine dite (by simp only [e0_44]) (fun _ => ?_) (fun _ => ?_)
      · refine dite (by simp only [e0_51]) (fun _ => ?_) (fun _ => ?_)
        · exact rfl
        · exact rfl
      · refine dite (by simp only [e0_44]) (fun _ => ?_) (fun _ => ?_)
        · refine dite (by simp only [e0_51]) (fun _ => ?_) (fun _ => ?_)
          · exact rfl
          · exact rfl
        · exact rfl
  · exact rfl
theorem dq_175 {lb rb : Int} {Z Z' : qz_Z} {a1ij a2 a1ij' a2' : Int} (h0 : zq lb rb Z Z') (ia1ij : a1ij = a1ij') (ia2 : a2 = a2') : zq lb rb (zf_175 Z lb lb a1ij a2) (zf_175 Z' rb rb a1ij' a2') := by
  subst ia1ij
  subst ia2
  have e0_43 : ∀ i j, Z 43 lb i j = Z' 43 rb i j := fun i j => h0 43 i j rfl
  have e0_44 : ∀ i j, Z 44 lb i j = Z' 44 rb i j := fun i j => h0 44 i j rfl
  unfold zf_175
  refine dite (by simp only [e0_44]) (fun _ => ?_) (fun _ => ?_)
  · refine dite rfl (fun _ => ?_) (fun _ => ?_)
    · refine dlet_Z (P := zq lb rb) (zq_u h0 rfl rfl rfl) (fun Z4 Z4' h4 => ?_)
      exact h4
    · refine dite rfl (fun _ => ?_) (fun _ => ?_)
      · refine dlet_Z (P := zq lb rb) (zq_u h0 rfl rfl rfl) (fun Z6 Z6' h6 => ?_)
        exact h6
      · refine dlet_Z (P := zq lb rb) (zq_u h0 rfl rfl (by simp only [e0_43])) (fun Z8 Z8' h8 => ?_)
        refine dlet_Z (P := zq lb rb) (zq_u h8 rfl rfl rfl) (fun Z9 Z9' h9 => ?_)
        exact h9
  · refine dite (by simp only [e0_44]) (fun _ => ?_) (fun _ => ?_)
    · refine dite rfl (fun _ => ?_) (fun _ => ?_)
      · refine dlet_Z (P := zq lb rb) (zq_u h0 rfl rfl rfl) (fun Z12 Z12' h12 => ?_)
        exact h12
      · refine dite rfl (fun _ => ?_) (fun _ => ?_)
        · refine dlet_Z (P := zq lb rb) (zq_u h0 rfl rfl rfl) (fun Z14 Z14' h14 => ?_)
          exact h14
        · refine dlet_Z (P := zq lb rb) (zq_u h0 rfl rfl (by simp only [e0_43])) (fun Z16 Z16' h16 => ?_)
          refine dlet_Z (P := zq lb rb) (zq_u h16 rfl rfl rfl) (fun Z17 Z17' h17 => ?_)
          exact h17
    · refine dlet_Z (P := zq lb rb) (zq_u h0 (by simp only [e0_44]) rfl (by simp only [e0_43, e0_44])) (fun Z19 Z19' h19 => ?_)
      have e19_43 : ∀ i j, Z19 43 lb i j = Z19' 43 rb i j := fun i j => h19 43 i j rfl
      refine dite rfl (fun _ => ?_) (fun _ => ?_)
      · refine dlet_Z (P := zq lb rb) (zq_u h19 rfl rfl rfl) (fun Z21 Z21' h21 => ?_)
        exact h21
      · refine dite rfl (fun _ => ?_) (fun _ => ?_)
        · refine dlet_Z (P := zq lb rb) (zq_u h19 rfl rfl rfl) (fun Z23 Z23' h23 => ?_)
          exact h23
        · refine dlet_Z (P := zq lb rb) (zq_u h19 rfl rfl (by simp only [e19_43])) (fun Z25 Z25' h25 => ?_)
          refine dlet_Z (P := zq lb rb) (zq_u h25 rfl rfl rfl) (fun Z26 Z26' h26 => ?_)
          exact h26
theorem dq_20 {lb rb : Int} {Z Z' : qz_Z} {a1ij a1ij' : Int} (h0 : zq lb rb Z Z') (ia1ij : a1ij = a1ij') : zq lb rb (zf_20 Z lb lb a1ij) (zf_20 Z' rb rb a1ij') := by
  subst ia1ij
  have e0_45 : ∀ i j, Z 45 lb i j = Z' 45 rb i j := fun i j => h0 45 i j rfl
  have e0_47 : ∀ i j, Z 47 lb i j = Z' 47 rb i j := fun i j => h0 47 i j rfl
  unfold zf_20
  refine dlet_Z (P := zq lb rb) (zq_u h0 (by simp only [e0_47]) rfl (by simp only [e0_45, e0_47])) (fun Z8 Z8' h8 => ?_)
  have e8_45 : ∀ i j, Z8 45 lb i j = Z8' 45 rb i j := fun i j => h8 45 i j rfl
  have e8_47 : ∀ i j, Z8 47 lb i j = Z8' 47 rb i j := fun i j => h8 47 i j rfl
  refine dlet_Z (P := zq lb rb) (zq_u h8 (by simp only [e0_47]) rfl (by simp only [e0_47, e8_45, e8_47])) (fun Z13 Z13' h13 => ?_)
  refine dlet_Z (P := zq lb rb) (zq_u h13 rfl rfl rfl) (fun Z14 Z14' h14 => ?_)
  have e14_45 : ∀ i j, Z14 45 lb i j = Z14' 45 rb i j := fun i j => h14 45 i j rfl
  have e14_47 : ∀ i j, Z14 47 lb i j = Z14' 47 rb i j := fun i j => h14 47 i j rfl
  refine dlet_Z (P := zq lb rb) (zq_u h14 (by simp only [e0_47]) rfl (by simp only [e0_47, e14_45, e14_47])) (fun Z18 Z18' h18 => ?_)
  have e18_46 : ∀ i j, Z18 46 lb i j = Z18' 46 rb i j := fun i j => h18 46 i j rfl
  have e18_47 : ∀ i j, Z18 47 lb i j = Z18' 47 rb i j := fun i j => h18 47 i j rfl
  refine dite (by simp only [e0_47, e18_46]) (fun _ => ?_) (fun _ => ?_)
  · exact h18
  · refine dlet_Z (P := zq lb rb) (zq_u h18 (by simp only [e0_47]) rfl (by simp only [e0_47, e18_46, e18_47])) (fun Z25 Z25' h25 => ?_)
    exact h25
theorem dl_105_1 {lb rb : Int} : ∀ (m : Nat) {Z Z' : qz_Z} {x3ij x1 x4 x5 x3ij' x1' x4' x5' : Int}, x3ij = x3ij' → x1 = x1' → x4 = x4' → zq lb rb Z Z' → x5 = x5' → dMe (zq lb rb) (zl_105_1 lb x3ij x1 x4 m Z x5) (zl_105_1 rb x3ij' x1' x4' m Z' x5')
  | 0, Z, Z', x3ij, x1, x4, x5, x3ij', x1', x4', x5', ix3ij, ix1, ix4, h0, ix5 => by
    subst ix3ij
    subst ix1
    subst ix4
    subst ix5
    unfold zl_105_1
    exact ⟨h0, rfl⟩
  | m + 1, Z, Z', x3ij, x1, x4, x5, x3ij', x1', x4', x5', ix3ij, ix1, ix4, h0, ix5 => by
    subst ix3ij
    subst ix1
    subst ix4
    subst ix5
    have e0_11 : ∀ i j, Z 11 lb i j = Z' 11 rb i j := fun i j => h0 11 i j rfl
    have e0_47 : ∀ i j, Z 47 lb i j = Z' 47 rb i j := fun i j => h0 47 i j rfl
    unfold zl_105_1
    refine dite (by simp only [e0_11]) (fun _ => ?_) (fun _ => ?_)
    · exact ⟨h0, rfl⟩
    · refine dite (by simp only [e0_47]) (fun _ => ?_) (fun _ => ?_)
      · exact dl_105_1 m rfl rfl rfl h0 rfl
      · refine dite (by simp only [e0_47]) (fun _ => ?_) (fun _ => ?_)
        · exact dl_105_1 m rfl rfl rfl h0 rfl
        · refine dlet_Z (P := zq lb rb) (zq_u h0 rfl rfl rfl) (fun Z8 Z8' h8 => ?_)
          have e8_44 : ∀ i j, Z8 44 lb i j = Z8' 44 rb i j := fun i j => h8 44 i j rfl
          refine dlet_Z (P := zq lb rb) (zq_u h8 rfl rfl (by simp only [e8_44])) (fun Z11 Z11' h11 => ?_)
          have e11_44 : ∀ i j, Z11 44 lb i j = Z11' 44 rb i j := fun i j => h11 44 i j rfl
          refine dlet_Z (P := zq lb rb) (zq_u h11 rfl rfl (by simp only [e11_44])) (fun Z13 Z13' h13 => ?_)
          have e13_11 : ∀ i j, Z13 11 lb i j = Z13' 11 rb i j := fun i j => h13 11 i j rfl
          refine dlet_Z (P := zq lb rb) (zq_u h13 rfl rfl (by simp only [e13_11])) (fun Z15 Z15' h15 => ?_)
          refine dlet_Z (P := zq lb rb) (dq_20 h15 rfl) (fun Z16 Z16' h16 => ?_)
          have e16_14 : ∀ i j, Z16 14 lb i j = Z16' 14 rb i j := fun i j => h16 14 i j rfl
          have e16_47 : ∀ i j, Z16 47 lb i j = Z16' 47 rb i j := fun i j => h16 47 i j rfl
          refine dite (by simp only [e16_47]) (fun _ => ?_) (fun _ => ?_)
          · refine dlet_Z (P := zq lb rb) (zq_u h16 rfl rfl (by simp only [e16_14, e16_47])) (fun Z21 Z21' h21 => ?_)
            have e21_14 : ∀ i j, Z21 14 lb i j = Z21' 14 rb i j := fun i j => h21 14 i j rfl
            refine dlet_Z (P := zq lb rb) (zq_u h21 rfl rfl (by simp only [e16_47, e21_14])) (fun Z24 Z24' h24 => ?_)
            have e24_11 : ∀ i j, Z24 11 lb i j = Z24' 11 rb i j := fun i j => h24 11 i j rfl
            refine dlet_Z (P := zq lb rb) (zq_u h24 (by simp only [e24_11]) rfl rfl) (fun Z26 Z26' h26 => ?_)
            refine dlet_Z (P := zq lb rb) (zq_u h26 (by simp only [e24_11]) rfl rfl) (fun Z27 Z27' h27 => ?_)
            refine dlet_Z (P := zq lb rb) (zq_u h27 (by simp only [e24_11]) rfl (by simp only [e16_47])) (fun Z28 Z28' h28 => ?_)
            refine dlet_Z (P := zq lb rb) (zq_u h28 (by simp only [e24_11]) rfl rfl) (fun Z29 Z29' h29 => ?_)
            have e29_11 : ∀ i j, Z29 11 lb i j = Z29' 11 rb i j := fun i j => h29 11 i j rfl
            refine dlet_Z (P := zq lb rb) (zq_u h29 (by simp only [e24_11]) rfl (by simp only [e29_11])) (fun Z32 Z32' h32 => ?_)
            have e32_11 : ∀ i j, Z32 11 lb i j = Z32' 11 rb i j := fun i j => h32 11 i j rfl
            refine dlet_Z (P := zq lb rb) (zq_u h32 rfl rfl (by simp only [e32_11])) (fun Z35 Z35' h35 => ?_)
            exact dl_105_1 m rfl rfl rfl h35 rfl
          · exact dl_105_1 m rfl rfl rfl h16 rfl
theorem dl_69_1 {lb rb : Int} : ∀ (m : Nat) {Z Z' : qz_Z} {x1 x3 x4 x5 x1' x3' x4' x5' : Int}, x1 = x1' → x3 = x3' → x4 = x4' → zq lb rb Z Z' → x5 = x5' → dMe (zq lb rb) (zl_69_1 lb x1 x3 x4 m Z x5) (zl_69_1 rb x1' x3' x4' m Z' x5')
  | 0, Z, Z', x1, x3, x4, x5, x1', x3', x4', x5', ix1, ix3, ix4, h0, ix5 => by
    subst ix1
    subst ix3
    subst ix4
    subst ix5
    unfold zl_69_1
    exact ⟨h0, rfl⟩
  | m + 1, Z, Z', x1, x3, x4, x5, x1', x3', x4', x5', ix1, ix3, ix4, h0, ix5 => by
    subst ix1
    subst ix3
    subst ix4
    subst ix5
    have e0_49 : ∀ i j, Z 49 lb i j = Z' 49 rb i j := fun i j => h0 49 i j rfl
    unfold zl_69_1
    refine dite rfl (fun _ => ?_) (fun _ => ?_)
    · exact ⟨h0, rfl⟩
    · refine dlet_Z (P := zq lb rb) (zq_u h0 rfl rfl (by simp only [e0_49])) (fun Z3 Z3' h3 => ?_)
      exact dl_69_1 m rfl rfl rfl h3 rfl
theorem dl_69_3 {lb rb : Int} : ∀ (m : Nat) {Z Z' : qz_Z} {x1 x3 x4 x1' x3' x4' : Int}, x1 = x1' → x3 = x3' → zq lb rb Z Z' → x4 = x4' → dMe (zq lb rb) (zl_69_3 lb x1 x3 m Z x4) (zl_69_3 rb x1' x3' m Z' x4')
  | 0, Z, Z', x1, x3, x4, x1', x3', x4', ix1, ix3, h0, ix4 => by
    subst ix1
    subst ix3
    subst ix4
    unfold zl_69_3
    exact ⟨h0, rfl⟩
  | m + 1, Z, Z', x1, x3, x4, x1', x3', x4', ix1, ix3, h0, ix4 => by
    subst ix1
    subst ix3
    subst ix4
    unfold zl_69_3
    refine dite rfl (fun _ => ?_) (fun _ => ?_)
    · exact ⟨h0, rfl⟩
    · refine dlet2 (dl_69_1 _ rfl rfl rfl h0 rfl) (fun Z3 Z3' y2 h3 => ?_)
      exact dl_69_3 m rfl rfl h3 rfl
theorem dq_69 {lb rb : Int} {Z Z' : qz_Z} {a1 a2 a1' a2' : Int} (h0 : zq lb rb Z Z') (ia1 : a1 = a1') (ia2 : a2 = a2') : zq lb rb (zf_69 Z lb a1 a2) (zf_69 Z' rb a1' a2') := by
  subst ia1
  subst ia2
  have e0_48 : ∀ i j, Z 48 lb i j = Z' 48 rb i j := fun i j => h0 48 i j rfl
  unfold zf_69
  refine dlet2 (dl_69_3 _ rfl (by simp only [e0_48]) h0 rfl) (fun Z3 Z3' y2 h3 => ?_)
  refine dlet_Z (P := zq lb rb) (zq_u h3 rfl rfl (by simp only [e0_48])) (fun Z5 Z5' h5 => ?_)
  exact h5
theorem dl_76_1 {lb rb : Int} : ∀ (m : Nat) {Z Z' : qz_Z} {x1 x2 x3 x1' x2' x3' : Int}, x1 = x1' → x2 = x2' → zq lb rb Z Z' → x3 = x3' → dS (dMe (zq lb rb)) (dMe (zq lb rb)) (zl_76_1 lb x1 x2 m Z x3) (zl_76_1 rb x1' x2' m Z' x3')
  | 0, Z, Z', x1, x2, x3, x1', x2', x3', ix1, ix2, h0, ix3 => by
    subst ix1
    subst ix2
    subst ix3
    unfold zl_76_1
    exact dS_l ⟨h0, rfl⟩
  | m + 1, Z, Z', x1, x2, x3, x1', x2', x3', ix1, ix2, h0, ix3 => by
    subst ix1
    subst ix2
    subst ix3
    have e0_48 : ∀ i j, Z 48 lb i j = Z' 48 rb i j := fun i j => h0 48 i j rfl
    have e0_49 : ∀ i j, Z 49 lb i j = Z' 49 rb i j := fun i j => h0 49 i j rfl
    unfold zl_76_1
    refine dite (by simp only [e0_48]) (fun _ => ?_) (fun _ => ?_)
    · exact dS_l ⟨h0, rfl⟩
    · refine dite (by simp only [e0_49]) (fun _ => ?_) (fun _ => ?_)
      · exact dl_76_1 m rfl rfl h0 rfl
      · refine dlet_Z (P := zq lb rb) (zq_u h0 rfl rfl rfl) (fun Z5 Z5' h5 => ?_)
        refine dlet_Z (P := zq lb rb) (dq_69 h5 rfl rfl) (fun Z8 Z8' h8 => ?_)
        have e8_48 : ∀ i j, Z8 48 lb i j = Z8' 48 rb i j := fun i j => h8 48 i j rfl
        exact dS_r ⟨h8, (by simp only [e8_48])⟩
theorem dl_76_3 {lb rb : Int} : ∀ (m : Nat) {Z Z' : qz_Z} {x1 x2 x1' x2' : Int}, x1 = x1' → zq lb rb Z Z' → x2 = x2' → dS (dMe (zq lb rb)) (dMe (zq lb rb)) (zl_76_3 lb x1 m Z x2) (zl_76_3 rb x1' m Z' x2')
  | 0, Z, Z', x1, x2, x1', x2', ix1, h0, ix2 => by
    subst ix1
    subst ix2
    unfold zl_76_3
    exact dS_l ⟨h0, rfl⟩
  | m + 1, Z, Z', x1, x2, x1', x2', ix1, h0, ix2 => by
    subst ix1
    subst ix2
    have e0_11 : ∀ i j, Z 11 lb i j = Z' 11 rb i j := fun i j => h0 11 i j rfl
    unfold zl_76_3
    refine dite (by simp only [e0_11]) (fun _ => ?_) (fun _ => ?_)
    · exact dS_l ⟨h0, rfl⟩
    · refine dzsum (dl_76_1 _ rfl rfl h0 rfl) (fun q q' hq => ?_) (fun r r' hr => ?_)
      · refine dlet2 hq (fun Z4 Z4' y3 h4 => ?_)
        exact dl_76_3 m rfl h4 rfl
      · exact dS_r hr
theorem dq_76 {lb rb : Int} {Z Z' : qz_Z} {a1 a1' : Int} (h0 : zq lb rb Z Z') (ia1 : a1 = a1') : dMe (zq lb rb) (zf_76 Z lb a1) (zf_76 Z' rb a1') := by
  subst ia1
  unfold zf_76
  refine dzsum (dl_76_3 _ rfl h0 rfl) (fun q q' hq => ?_) (fun r r' hr => ?_)
  · refine dlet2 hq (fun Z2 Z2' y1 h2 => ?_)
    exact ⟨h2, rfl⟩
  · exact hr
theorem dq_105 {lb rb : Int} {Z Z' : qz_Z} {a1 a2 a1' a2' : Int} (h0 : zq lb rb Z Z') (ia1 : a1 = a1') (ia2 : a2 = a2') : dMe (zq lb rb) (zf_105 Z lb a1 a2) (zf_105 Z' rb a1' a2') := by
  subst ia1
  subst ia2
  have e0_44 : ∀ i j, Z 44 lb i j = Z' 44 rb i j := fun i j => h0 44 i j rfl
  unfold zf_105
  refine dite (by simp only [e0_44]) (fun _ => ?_) (fun _ => ?_)
  · refine dlet_Z (P := zq lb rb) (zq_u h0 rfl rfl (by simp only [e0_44])) (fun Z6 Z6' h6 => ?_)
    refine dlet_Z (P := zq lb rb) (zq_u h6 rfl rfl rfl) (fun Z7 Z7' h7 => ?_)
    refine dlet_Z (P := zq lb rb) (zq_u h7 rfl rfl rfl) (fun Z8 Z8' h8 => ?_)
    refine dlet_Z (P := zq lb rb) (zq_u h8 rfl rfl rfl) (fun Z9 Z9' h9 => ?_)
    refine dlet_Z (P := zq lb rb) (dq_175 h9 rfl rfl) (fun Z10 Z10' h10 => ?_)
    refine dlet2 (dl_105_1 _ rfl rfl (by simp only [e0_44]) h10 rfl) (fun Z12 Z12' y11 h12 => ?_)
    exact ⟨h12, (by simp only [e0_44])⟩
  · refine dlet2 (dq_76 h0 rfl) (fun Z14 Z14' v15 h14 => ?_)
    have e14_44 : ∀ i j, Z14 44 lb i j = Z14' 44 rb i j := fun i j => h14 44 i j rfl
    refine dlet_Z (P := zq lb rb) (zq_u h14 rfl rfl (by simp only [e14_44])) (fun Z19 Z19' h19 => ?_)
    refine dlet_Z (P := zq lb rb) (zq_u h19 rfl rfl rfl) (fun Z20 Z20' h20 => ?_)
    refine dlet_Z (P := zq lb rb) (zq_u h20 rfl rfl rfl) (fun Z21 Z21' h21 => ?_)
    refine dlet_Z (P := zq lb rb) (zq_u h21 rfl rfl rfl) (fun Z22 Z22' h22 => ?_)
    refine dlet_Z (P := zq lb rb) (dq_175 h22 rfl rfl) (fun Z23 Z23' h23 => ?_)
    refine dlet2 (dl_105_1 _ rfl rfl (by simp only [e14_44]) h23 rfl) (fun Z25 Z25' y24 h25 => ?_)
    exact ⟨h25, (by simp only [e14_44])⟩
theorem dl_136_1 {lb rb : Int} : ∀ (m : Nat) {Z Z' : qz_Z} {x3ij x1 x2 x4 x5 x6 x3ij' x1' x2' x4' x5' x6' : Int}, x3ij = x3ij' → x1 = x1' → x2 = x2' → x4 = x4' → zq lb rb Z Z' → x5 = x5' → x6 = x6' → dMe (zq lb rb) (zl_136_1 lb x3ij x1 x2 x4 m Z x5 x6) (zl_136_1 rb x3ij' x1' x2' x4' m Z' x5' x6')
  | 0, Z, Z', x3ij, x1, x2, x4, x5, x6, x3ij', x1', x2', x4', x5', x6', ix3ij, ix1, ix2, ix4, h0, ix5, ix6 => by
    subst ix3ij
    subst ix1
    subst ix2
    subst ix4
    subst ix5
    subst ix6
    unfold zl_136_1
    exact ⟨h0, rfl⟩
  | m + 1, Z, Z', x3ij, x1, x2, x4, x5, x6, x3ij', x1', x2', x4', x5', x6', ix3ij, ix1, ix2, ix4, h0, ix5, ix6 => by
    subst ix3ij
    subst ix1
    subst ix2
    subst ix4
    subst ix5
    subst ix6
    have e0_11 : ∀ i j, Z 11 lb i j = Z' 11 rb i j := fun i j => h0 11 i j rfl
    have e0_44 : ∀ i j, Z 44 lb i j = Z' 44 rb i j := fun i j => h0 44 i j rfl
    have p0_135 : ∀ u3 u5 : Int, zf_135 Z lb lb u3 lb u5 = zf_135 Z' rb rb u3 rb u5 := fun u3 u5 => dq_135 h0 rfl rfl
    unfold zl_136_1
    refine dite (by simp only [e0_11]) (fun _ => ?_) (fun _ => ?_)
    · exact ⟨h0, rfl⟩
    · refine dite (by simp only [e0_44]) (fun _ => ?_) (fun _ => ?_)
      · exact dl_136_1 m rfl rfl rfl rfl h0 rfl rfl
      · refine dlet_i (by simp only [p0_135]) (fun v5 => ?_)
        refine dite rfl (fun _ => ?_) (fun _ => ?_)
        · exact dl_136_1 m rfl rfl rfl rfl h0 rfl rfl
        · refine dlet_Z (P := zq lb rb) (zq_u h0 (by simp only [e0_11]) rfl rfl) (fun Z8 Z8' h8 => ?_)
          have e8_11 : ∀ i j, Z8 11 lb i j = Z8' 11 rb i j := fun i j => h8 11 i j rfl
          refine dlet_Z (P := zq lb rb) (zq_u h8 (by simp only [e0_11]) rfl (by simp only [e8_11])) (fun Z10 Z10' h10 => ?_)
          refine dlet_Z (P := zq lb rb) (zq_u h10 (by simp only [e0_11]) rfl rfl) (fun Z11 Z11' h11 => ?_)
          refine dlet_Z (P := zq lb rb) (zq_u h11 (by simp only [e0_11]) rfl rfl) (fun Z12 Z12' h12 => ?_)
          refine dlet_Z (P := zq lb rb) (zq_u h12 (by simp only [e0_11]) rfl rfl) (fun Z13 Z13' h13 => ?_)
          have e13_44 : ∀ i j, Z13 44 lb i j = Z13' 44 rb i j := fun i j => h13 44 i j rfl
          refine dlet_Z (P := zq lb rb) (zq_u h13 (by simp only [e0_11]) rfl (by simp only [e13_44])) (fun Z15 Z15' h15 => ?_)
          have e15_11 : ∀ i j, Z15 11 lb i j = Z15' 11 rb i j := fun i j => h15 11 i j rfl
          refine dlet_Z (P := zq lb rb) (zq_u h15 rfl rfl (by simp only [e15_11])) (fun Z18 Z18' h18 => ?_)
          have p18_100 : ∀ u3 : Int, zf_100 Z18 lb lb u3 = zf_100 Z18' rb rb u3 := fun u3 => dq_100 h18 rfl
          refine dite rfl (fun _ => ?_) (fun _ => ?_)
          · refine dite rfl (fun _ => ?_) (fun _ => ?_)
            · refine dlet_i (by simp only [p18_100]) (fun v21 => ?_)
              refine dlet_Z (P := zq lb rb) (zq_u h18 rfl rfl rfl) (fun Z22 Z22' h22 => ?_)
              have e22_13 : ∀ i j, Z22 13 lb i j = Z22' 13 rb i j := fun i j => h22 13 i j rfl
              have e22_14 : ∀ i j, Z22 14 lb i j = Z22' 14 rb i j := fun i j => h22 14 i j rfl
              refine dite (by simp only [e22_13]) (fun _ => ?_) (fun _ => ?_)
              · refine dlet_Z (P := zq lb rb) (zq_u h22 rfl rfl (by simp only [e22_13, e22_14])) (fun Z27 Z27' h27 => ?_)
                have e27_14 : ∀ i j, Z27 14 lb i j = Z27' 14 rb i j := fun i j => h27 14 i j rfl
                refine dlet_Z (P := zq lb rb) (zq_u h27 rfl rfl (by simp only [e22_13, e27_14])) (fun Z30 Z30' h30 => ?_)
                have e30_11 : ∀ i j, Z30 11 lb i j = Z30' 11 rb i j := fun i j => h30 11 i j rfl
                refine dlet_Z (P := zq lb rb) (zq_u h30 (by simp only [e30_11]) rfl rfl) (fun Z32 Z32' h32 => ?_)
                refine dlet_Z (P := zq lb rb) (zq_u h32 (by simp only [e30_11]) rfl rfl) (fun Z33 Z33' h33 => ?_)
                refine dlet_Z (P := zq lb rb) (zq_u h33 (by simp only [e30_11]) rfl (by simp only [e22_13])) (fun Z34 Z34' h34 => ?_)
                refine dlet_Z (P := zq lb rb) (zq_u h34 (by simp only [e30_11]) rfl rfl) (fun Z35 Z35' h35 => ?_)
                have e35_11 : ∀ i j, Z35 11 lb i j = Z35' 11 rb i j := fun i j => h35 11 i j rfl
                refine dlet_Z (P := zq lb rb) (zq_u h35 (by simp only [e30_11]) rfl (by simp only [e35_11])) (fun Z38 Z38' h38 => ?_)
                have e38_11 : ∀ i j, Z38 11 lb i j = Z38' 11 rb i j := fun i j => h38 11 i j rfl
                refine dlet_Z (P := zq lb rb) (zq_u h38 rfl rfl (by simp only [e38_11])) (fun Z41 Z41' h41 => ?_)
                exact dl_136_1 m rfl rfl rfl rfl h41 rfl rfl
              · exact dl_136_1 m rfl rfl rfl rfl h22 rfl rfl
            · refine dlet_Z (P := zq lb rb) (zq_u h18 rfl rfl rfl) (fun Z42 Z42' h42 => ?_)
              have e42_13 : ∀ i j, Z42 13 lb i j = Z42' 13 rb i j := fun i j => h42 13 i j rfl
              have e42_14 : ∀ i j, Z42 14 lb i j = Z42' 14 rb i j := fun i j => h42 14 i j rfl
              refine dite (by simp only [e42_13]) (fun _ => ?_) (fun _ => ?_)
              · refine dlet_Z (P := zq lb rb) (zq_u h42 rfl rfl (by simp only [e42_13, e42_14])) (fun Z47 Z47' h47 => ?_)
                have e47_14 : ∀ i j, Z47 14 lb i j = Z47' 14 rb i j := fun i j => h47 14 i j rfl
                refine dlet_Z (P := zq lb rb) (zq_u h47 rfl rfl (by simp only [e42_13, e47_14])) (fun Z50 Z50' h50 => ?_)
                have e50_11 : ∀ i j, Z50 11 lb i j = Z50' 11 rb i j := fun i j => h50 11 i j rfl
                refine dlet_Z (P := zq lb rb) (zq_u h50 (by simp only [e50_11]) rfl rfl) (fun Z52 Z52' h52 => ?_)
                refine dlet_Z (P := zq lb rb) (zq_u h52 (by simp only [e50_11]) rfl rfl) (fun Z53 Z53' h53 => ?_)
                refine dlet_Z (P := zq lb rb) (zq_u h53 (by simp only [e50_11]) rfl (by simp only [e42_13])) (fun Z54 Z54' h54 => ?_)
                refine dlet_Z (P := zq lb rb) (zq_u h54 (by simp only [e50_11]) rfl rfl) (fun Z55 Z55' h55 => ?_)
                have e55_11 : ∀ i j, Z55 11 lb i j = Z55' 11 rb i j := fun i j => h55 11 i j rfl
                refine dlet_Z (P := zq lb rb) (zq_u h55 (by simp only [e50_11]) rfl (by simp only [e55_11])) (fun Z58 Z58' h58 => ?_)
                have e58_11 : ∀ i j, Z58 11 lb i j = Z58' 11 rb i j := fun i j => h58 11 i j rfl
                refine dlet_Z (P := zq lb rb) (zq_u h58 rfl rfl (by simp only [e58_11])) (fun Z61 Z61' h61 => ?_)
                exact dl_136_1 m rfl rfl rfl rfl h61 rfl rfl
              · exact dl_136_1 m rfl rfl rfl rfl h42 rfl rfl
          · refine dlet2 (dq_105 h18 rfl rfl) (fun Z62 Z62' v63 h62 => ?_)
            have e62_51 : ∀ i j, Z62 51 lb i j = Z62' 51 rb i j := fun i j => h62 51 i j rfl
            refine dlet_Z (P := zq lb rb) (zq_u h62 rfl rfl (by simp only [e62_51])) (fun Z66 Z66' h66 => ?_)
            have e66_13 : ∀ i j, Z66 13 lb i j = Z66' 13 rb i j := fun i j => h66 13 i j rfl
            have e66_14 : ∀ i j, Z66 14 lb i j = Z66' 14 rb i j := fun i j => h66 14 i j rfl
            refine dite (by simp only [e66_13]) (fun _ => ?_) (fun _ => ?_)
            · refine dlet_Z (P := zq lb rb) (zq_u h66 rfl rfl (by simp only [e66_13, e66_14])) (fun Z71 Z71' h71 => ?_)
              have e71_14 : ∀ i j, Z71 14 lb i j = Z71' 14 rb i j := fun i j => h71 14 i j rfl
              refine dlet_Z (P := zq lb rb) (zq_u h71 rfl rfl (by simp only [e66_13, e71_14])) (fun Z74 Z74' h74 => ?_)
              have e74_11 : ∀ i j, Z74 11 lb i j = Z74' 11 rb i j := fun i j => h74 11 i j rfl
              refine dlet_Z (P := zq lb rb) (zq_u h74 (by simp only [e74_11]) rfl rfl) (fun Z76 Z76' h76 => ?_)
              refine dlet_Z (P := zq lb rb) (zq_u h76 (by simp only [e74_11]) rfl rfl) (fun Z77 Z77' h77 => ?_)
              refine dlet_Z (P := zq lb rb) (zq_u h77 (by simp only [e74_11]) rfl (by simp only [e66_13])) (fun Z78 Z78' h78 => ?_)
              refine dlet_Z (P := zq lb rb) (zq_u h78 (by simp only [e74_11]) rfl rfl) (fun Z79 Z79' h79 => ?_)
              have e79_11 : ∀ i j, Z79 11 lb i j = Z79' 11 rb i j := fun i j => h79 11 i j rfl
              refine dlet_Z (P := zq lb rb) (zq_u h79 (by simp only [e74_11]) rfl (by simp only [e79_11])) (fun Z82 Z82' h82 => ?_)
              have e82_11 : ∀ i j, Z82 11 lb i j = Z82' 11 rb i j := fun i j => h82 11 i j rfl
              refine dlet_Z (P := zq lb rb) (zq_u h82 rfl rfl (by simp only [e82_11])) (fun Z85 Z85' h85 => ?_)
              exact dl_136_1 m rfl rfl rfl rfl h85 rfl rfl
            · exact dl_136_1 m rfl rfl rfl rfl h66 rfl rfl
theorem dq_136 {lb rb : Int} {Z Z' : qz_Z} {a1 a2 a1' a2' : Int} (h0 : zq lb rb Z Z') (ia1 : a1 = a1') (ia2 : a2 = a2') : dMe (zq lb rb) (zf_136 Z lb a1 a2) (zf_136 Z' rb a1' a2') := by
  subst ia1
  subst ia2
  unfold zf_136
  refine dite rfl (fun _ => ?_) (fun _ => ?_)
  · refine dlet3 (dl_136_1 _ rfl rfl rfl rfl h0 rfl rfl) (fun Z4 Z4' y2 y3 h4 => ?_)
    have e4_51 : ∀ i j, Z4 51 lb i j = Z4' 51 rb i j := fun i j => h4 51 i j rfl
    refine dlet_Z (P := zq lb rb) (zq_u h4 rfl rfl (by simp only [e4_51])) (fun Z8 Z8' h8 => ?_)
    have e8_51 : ∀ i j, Z8 51 lb i j = Z8' 51 rb i j := fun i j => h8 51 i j rfl
    refine dlet_Z (P := zq lb rb) (zq_u h8 rfl rfl (by simp only [e8_51])) (fun Z11 Z11' h11 => ?_)
    have e11_11 : ∀ i j, Z11 11 lb i j = Z11' 11 rb i j := fun i j => h11 11 i j rfl
    refine dlet_Z (P := zq lb rb) (zq_u h11 rfl rfl (by simp only [e11_11])) (fun Z13 Z13' h13 => ?_)
    have e13_11 : ∀ i j, Z13 11 lb i j = Z13' 11 rb i j := fun i j => h13 11 i j rfl
    have e13_51 : ∀ i j, Z13 51 lb i j = Z13' 51 rb i j := fun i j => h13 51 i j rfl
    refine dite rfl (fun _ => ?_) (fun _ => ?_)
    · exact ⟨h13, rfl⟩
    · refine dite rfl (fun _ => ?_) (fun _ => ?_)
      · exact ⟨h13, rfl⟩
      · refine dite (by simp only [e13_51]) (fun _ => ?_) (fun _ => ?_)
        · exact ⟨h13, rfl⟩
        · refine dlet_Z (P := zq lb rb) (zq_u h13 rfl rfl (by simp only [e13_11])) (fun Z20 Z20' h20 => ?_)
          exact ⟨h20, rfl⟩
  · refine dlet3 (dl_136_1 _ rfl rfl rfl rfl h0 rfl rfl) (fun Z23 Z23' y21 y22 h23 => ?_)
    have e23_51 : ∀ i j, Z23 51 lb i j = Z23' 51 rb i j := fun i j => h23 51 i j rfl
    refine dlet_Z (P := zq lb rb) (zq_u h23 rfl rfl (by simp only [e23_51])) (fun Z27 Z27' h27 => ?_)
    have e27_51 : ∀ i j, Z27 51 lb i j = Z27' 51 rb i j := fun i j => h27 51 i j rfl
    refine dlet_Z (P := zq lb rb) (zq_u h27 rfl rfl (by simp only [e27_51])) (fun Z30 Z30' h30 => ?_)
    have e30_11 : ∀ i j, Z30 11 lb i j = Z30' 11 rb i j := fun i j => h30 11 i j rfl
    refine dlet_Z (P := zq lb rb) (zq_u h30 rfl rfl (by simp only [e30_11])) (fun Z32 Z32' h32 => ?_)
    exact ⟨h32, rfl⟩
theorem dl_118_1 {lb rb : Int} : ∀ (m : Nat) {Z Z' : qz_Z} {x1 x2 x3 x1' x2' x3' : Int}, x1 = x1' → x2 = x2' → zq lb rb Z Z' → x3 = x3' → dMe (zq lb rb) (zl_118_1 lb x1 x2 m Z x3) (zl_118_1 rb x1' x2' m Z' x3')
  | 0, Z, Z', x1, x2, x3, x1', x2', x3', ix1, ix2, h0, ix3 => by
    subst ix1
    subst ix2
    subst ix3
    unfold zl_118_1
    exact ⟨h0, rfl⟩
  | m + 1, Z, Z', x1, x2, x3, x1', x2', x3', ix1, ix2, h0, ix3 => by
    subst ix1
    subst ix2
    subst ix3
    have e0_11 : ∀ i j, Z 11 lb i j = Z' 11 rb i j := fun i j => h0 11 i j rfl
    have p0_139 : ∀ u2 u3 : Int, zf_139 Z lb u2 u3 = zf_139 Z' rb u2 u3 := fun u2 u3 => dq_139 h0 rfl rfl
    unfold zl_118_1
    refine dite (by simp only [e0_11]) (fun _ => ?_) (fun _ => ?_)
    · exact ⟨h0, rfl⟩
    · refine dlet_i (by simp only [e0_11, p0_139]) (fun v4 => ?_)
      refine dite rfl (fun _ => ?_) (fun _ => ?_)
      · exact dl_118_1 m rfl rfl h0 rfl
      · refine dlet2 (dq_136 h0 rfl rfl) (fun Z6 Z6' v7 h6 => ?_)
        exact dl_118_1 m rfl rfl h6 rfl
theorem dq_14 {lb rb : Int} {Z Z' : qz_Z} {a1ij a1ij' : Int} (h0 : zq lb rb Z Z') (ia1ij : a1ij = a1ij') : zf_14 Z lb lb a1ij = zf_14 Z' rb rb a1ij' := by
  subst ia1ij
  have e0_11 : ∀ i j, Z 11 lb i j = Z' 11 rb i j := fun i j => h0 11 i j rfl
  have e0_45 : ∀ i j, Z 45 lb i j = Z' 45 rb i j := fun i j => h0 45 i j rfl
  have e0_46 : ∀ i j, Z 46 lb i j = Z' 46 rb i j := fun i j => h0 46 i j rfl
  unfold zf_14
  refine dite (by simp only [e0_46]) (fun _ => ?_) (fun _ => ?_)
  · exact rfl
  · refine dite (by simp only [e0_45, e0_46]) (fun _ => ?_) (fun _ => ?_)
    · exact rfl
    · refine dite (by simp only [e0_11, e0_46]) (fun _ => ?_) (fun _ => ?_)
      · exact rfl
      · exact rfl
theorem dq_33 {lb rb : Int} {Z Z' : qz_Z} {a0ij a1ij a0ij' a1ij' : Int} (h0 : zq lb rb Z Z') (ia0ij : a0ij = a0ij') (ia1ij : a1ij = a1ij') : zf_33 Z lb a0ij lb a1ij = zf_33 Z' rb a0ij' rb a1ij' := by
  subst ia0ij
  subst ia1ij
  have e0_44 : ∀ i j, Z 44 lb i j = Z' 44 rb i j := fun i j => h0 44 i j rfl
  have e0_46 : ∀ i j, Z 46 lb i j = Z' 46 rb i j := fun i j => h0 46 i j rfl
  unfold zf_33
  refine dite (by simp only [e0_44]) (fun _ => ?_) (fun _ => ?_)
  · exact rfl
  · refine dite (by simp only [e0_44]) (fun _ => ?_) (fun _ => ?_)
    · exact rfl
    · refine dite (by simp only [e0_44, e0_46]) (fun _ => ?_) (fun _ => ?_)
      · exact rfl
      · refine dite (by simp only [e0_44, e0_46]) (fun _ => ?_) (fun _ => ?_)
        · exact rfl
        · exact rfl
theorem dl_26_1 {lb rb : Int} : ∀ (m : Nat) {Z Z' : qz_Z} {x1ij x2 x3 x1ij' x2' x3' : Int}, x1ij = x1ij' → zq lb rb Z Z' → x2 = x2' → x3 = x3' → zl_26_1 lb lb x1ij m Z x2 x3 = zl_26_1 rb rb x1ij' m Z' x2' x3'
  | 0, Z, Z', x1ij, x2, x3, x1ij', x2', x3', ix1ij, h0, ix2, ix3 => by
    subst ix1ij
    subst ix2
    subst ix3
    unfold zl_26_1
    exact rfl
  | m + 1, Z, Z', x1ij, x2, x3, x1ij', x2', x3', ix1ij, h0, ix2, ix3 => by
    subst ix1ij
    subst ix2
    subst ix3
    have e0_11 : ∀ i j, Z 11 lb i j = Z' 11 rb i j := fun i j => h0 11 i j rfl
    have e0_45 : ∀ i j, Z 45 lb i j = Z' 45 rb i j := fun i j => h0 45 i j rfl
    have e0_46 : ∀ i j, Z 46 lb i j = Z' 46 rb i j := fun i j => h0 46 i j rfl
    have p0_14 : ∀ u3 : Int, zf_14 Z lb lb u3 = zf_14 Z' rb rb u3 := fun u3 => dq_14 h0 rfl
    have p0_33 : ∀ u2 u4 : Int, zf_33 Z lb u2 lb u4 = zf_33 Z' rb u2 rb u4 := fun u2 u4 => dq_33 h0 rfl rfl
    unfold zl_26_1
    refine dite (by simp only [e0_11]) (fun _ => ?_) (fun _ => ?_)
    · exact rfl
    · refine dlet_i (by simp only [p0_14]) (fun v3 => ?_)
      refine dite rfl (fun _ => ?_) (fun _ => ?_)
      · exact dl_26_1 m rfl h0 rfl rfl
      · refine dite (by simp only [e0_11]) (fun _ => ?_) (fun _ => ?_)
        · exact dl_26_1 m rfl h0 rfl rfl
        · refine dlet_i (by simp only [p0_33]) (fun v7 => ?_)
          refine dite rfl (fun _ => ?_) (fun _ => ?_)
          · exact dl_26_1 m rfl h0 (by simp only [e0_45, e0_46]) rfl
          · exact dl_26_1 m rfl h0 rfl rfl
theorem dq_26 {lb rb : Int} {Z Z' : qz_Z} {a1ij a1ij' : Int} (h0 : zq lb rb Z Z') (ia1ij : a1ij = a1ij') : zf_26 Z lb lb a1ij = zf_26 Z' rb rb a1ij' := by
  subst ia1ij
  unfold zf_26
  refine dlet2e (dl_26_1 _ rfl h0 rfl rfl) (fun y1 y2 => ?_)
  exact rfl
theorem dl_34_1 {lb rb : Int} : ∀ (m : Nat) {Z Z' : qz_Z} {x1ij x2 x3 x4 x5 x1ij' x2' x3' x4' x5' : Int}, x1ij = x1ij' → x2 = x2' → zq lb rb Z Z' → x3 = x3' → x4 = x4' → x5 = x5' → zl_34_1 lb lb x1ij x2 m Z x3 x4 x5 = zl_34_1 rb rb x1ij' x2' m Z' x3' x4' x5'
  | 0, Z, Z', x1ij, x2, x3, x4, x5, x1ij', x2', x3', x4', x5', ix1ij, ix2, h0, ix3, ix4, ix5 => by
    subst ix1ij
    subst ix2
    subst ix3
    subst ix4
    subst ix5
    unfold zl_34_1
    exact rfl
  | m + 1, Z, Z', x1ij, x2, x3, x4, x5, x1ij', x2', x3', x4', x5', ix1ij, ix2, h0, ix3, ix4, ix5 => by
    subst ix1ij
    subst ix2
    subst ix3
    subst ix4
    subst ix5
    have e0_11 : ∀ i j, Z 11 lb i j = Z' 11 rb i j := fun i j => h0 11 i j rfl
    have e0_45 : ∀ i j, Z 45 lb i j = Z' 45 rb i j := fun i j => h0 45 i j rfl
    have e0_46 : ∀ i j, Z 46 lb i j = Z' 46 rb i j := fun i j => h0 46 i j rfl
    have p0_14 : ∀ u3 : Int, zf_14 Z lb lb u3 = zf_14 Z' rb rb u3 := fun u3 => dq_14 h0 rfl
    have p0_33 : ∀ u2 u4 : Int, zf_33 Z lb u2 lb u4 = zf_33 Z' rb u2 rb u4 := fun u2 u4 => dq_33 h0 rfl rfl
    unfold zl_34_1
    refine dite (by simp only [e0_11]) (fun _ => ?_) (fun _ => ?_)
    · exact rfl
    · refine dite (by simp only [e0_46]) (fun _ => ?_) (fun _ => ?_)
      · exact dl_34_1 m rfl rfl h0 rfl rfl rfl
      · refine dlet_i (by simp only [p0_14]) (fun v9 => ?_)
        refine dite rfl (fun _ => ?_) (fun _ => ?_)
        · exact dl_34_1 m rfl rfl h0 rfl rfl rfl
        · refine dite (by simp only [e0_11]) (fun _ => ?_) (fun _ => ?_)
          · exact dl_34_1 m rfl rfl h0 rfl rfl rfl
          · refine dlet_i (by simp only [p0_33]) (fun v12 => ?_)
            refine dite rfl (fun _ => ?_) (fun _ => ?_)
            · refine dite (by simp only [e0_45, e0_46]) (fun _ => ?_) (fun _ => ?_)
              · exact dl_34_1 m rfl rfl h0 rfl rfl rfl
              · exact dl_34_1 m rfl rfl h0 rfl (by simp only [e0_46]) rfl
            · exact dl_34_1 m rfl rfl h0 rfl rfl rfl
theorem dq_34 {lb rb : Int} {Z Z' : qz_Z} {a1ij a2 a1ij' a2' : Int} (h0 : zq lb rb Z Z') (ia1ij : a1ij = a1ij') (ia2 : a2 = a2') : zf_34 Z lb lb a1ij a2 = zf_34 Z' rb rb a1ij' a2' := by
  subst ia1ij
  subst ia2
  unfold zf_34
  refine dlet3e (dl_34_1 _ rfl rfl h0 rfl rfl rfl) (fun y1 y2 y3 => ?_)
  exact rfl
theorem dq_6 {lb rb : Int} {Z Z' : qz_Z} {a1ij a1ij' : Int} (h0 : zq lb rb Z Z') (ia1ij : a1ij = a1ij') : zq lb rb (zf_6 Z lb lb a1ij) (zf_6 Z' rb rb a1ij') := by
  subst ia1ij
  have e0_14 : ∀ i j, Z 14 lb i j = Z' 14 rb i j := fun i j => h0 14 i j rfl
  have e0_42 : ∀ i j, Z 42 lb i j = Z' 42 rb i j := fun i j => h0 42 i j rfl
  have e0_44 : ∀ i j, Z 44 lb i j = Z' 44 rb i j := fun i j => h0 44 i j rfl
  have e0_47 : ∀ i j, Z 47 lb i j = Z' 47 rb i j := fun i j => h0 47 i j rfl
  unfold zf_6
  refine dite (by simp only [e0_47]) (fun _ => ?_) (fun _ => ?_)
  · refine dlet_Z (P := zq lb rb) (zq_u h0 rfl rfl (by simp only [e0_14, e0_47])) (fun Z7 Z7' h7 => ?_)
    have e7_14 : ∀ i j, Z7 14 lb i j = Z7' 14 rb i j := fun i j => h7 14 i j rfl
    refine dlet_Z (P := zq lb rb) (zq_u h7 rfl rfl (by simp only [e0_47, e7_14])) (fun Z10 Z10' h10 => ?_)
    have e10_11 : ∀ i j, Z10 11 lb i j = Z10' 11 rb i j := fun i j => h10 11 i j rfl
    refine dlet_Z (P := zq lb rb) (zq_u h10 (by simp only [e10_11]) rfl rfl) (fun Z12 Z12' h12 => ?_)
    refine dlet_Z (P := zq lb rb) (zq_u h12 (by simp only [e10_11]) rfl rfl) (fun Z13 Z13' h13 => ?_)
    refine dlet_Z (P := zq lb rb) (zq_u h13 (by simp only [e10_11]) rfl (by simp only [e0_47])) (fun Z14 Z14' h14 => ?_)
    refine dlet_Z (P := zq lb rb) (zq_u h14 (by simp only [e10_11]) rfl (by simp only [e0_47])) (fun Z15 Z15' h15 => ?_)
    have e15_11 : ∀ i j, Z15 11 lb i j = Z15' 11 rb i j := fun i j => h15 11 i j rfl
    refine dlet_Z (P := zq lb rb) (zq_u h15 (by simp only [e10_11]) rfl (by simp only [e15_11])) (fun Z17 Z17' h17 => ?_)
    have e17_11 : ∀ i j, Z17 11 lb i j = Z17' 11 rb i j := fun i j => h17 11 i j rfl
    refine dlet_Z (P := zq lb rb) (zq_u h17 rfl rfl (by simp only [e17_11])) (fun Z20 Z20' h20 => ?_)
    have e20_14 : ∀ i j, Z20 14 lb i j = Z20' 14 rb i j := fun i j => h20 14 i j rfl
    have e20_42 : ∀ i j, Z20 42 lb i j = Z20' 42 rb i j := fun i j => h20 42 i j rfl
    refine dite (by simp only [e0_42, e0_44, e0_47]) (fun _ => ?_) (fun _ => ?_)
    · refine dlet_Z (P := zq lb rb) (zq_u h20 rfl rfl (by simp only [e0_42, e0_44, e0_47, e20_14])) (fun Z26 Z26' h26 => ?_)
      have e26_14 : ∀ i j, Z26 14 lb i j = Z26' 14 rb i j := fun i j => h26 14 i j rfl
      refine dlet_Z (P := zq lb rb) (zq_u h26 rfl rfl (by simp only [e0_42, e0_44, e0_47, e26_14])) (fun Z30 Z30' h30 => ?_)
      have e30_11 : ∀ i j, Z30 11 lb i j = Z30' 11 rb i j := fun i j => h30 11 i j rfl
      refine dlet_Z (P := zq lb rb) (zq_u h30 (by simp only [e30_11]) rfl rfl) (fun Z33 Z33' h33 => ?_)
      refine dlet_Z (P := zq lb rb) (zq_u h33 (by simp only [e30_11]) rfl rfl) (fun Z34 Z34' h34 => ?_)
      refine dlet_Z (P := zq lb rb) (zq_u h34 (by simp only [e30_11]) rfl (by simp only [e0_42, e0_44, e0_47])) (fun Z35 Z35' h35 => ?_)
      refine dlet_Z (P := zq lb rb) (zq_u h35 (by simp only [e30_11]) rfl (by simp only [e0_47])) (fun Z36 Z36' h36 => ?_)
      have e36_11 : ∀ i j, Z36 11 lb i j = Z36' 11 rb i j := fun i j => h36 11 i j rfl
      refine dlet_Z (P := zq lb rb) (zq_u h36 (by simp only [e30_11]) rfl (by simp only [e36_11])) (fun Z39 Z39' h39 => ?_)
      have e39_11 : ∀ i j, Z39 11 lb i j = Z39' 11 rb i j := fun i j => h39 11 i j rfl
      refine dlet_Z (P := zq lb rb) (zq_u h39 rfl rfl (by simp only [e39_11])) (fun Z42 Z42' h42 => ?_)
      have e42_42 : ∀ i j, Z42 42 lb i j = Z42' 42 rb i j := fun i j => h42 42 i j rfl
      refine dlet_Z (P := zq lb rb) (zq_u h42 (by simp only [e0_44, e0_47]) rfl (by simp only [e0_42, e0_44, e0_47, e42_42])) (fun Z45 Z45' h45 => ?_)
      have e45_42 : ∀ i j, Z45 42 lb i j = Z45' 42 rb i j := fun i j => h45 42 i j rfl
      refine dlet_Z (P := zq lb rb) (zq_u h45 (by simp only [e0_44, e0_47]) rfl (by simp only [e0_44, e0_47, e45_42])) (fun Z48 Z48' h48 => ?_)
      have e48_42 : ∀ i j, Z48 42 lb i j = Z48' 42 rb i j := fun i j => h48 42 i j rfl
      refine dlet_Z (P := zq lb rb) (zq_u h48 (by simp only [e0_44, e0_47]) rfl (by simp only [e0_42, e0_44, e0_47, e48_42])) (fun Z51 Z51' h51 => ?_)
      exact h51
    · refine dlet_Z (P := zq lb rb) (zq_u h20 (by simp only [e0_44, e0_47]) rfl (by simp only [e0_42, e0_44, e0_47, e20_42])) (fun Z54 Z54' h54 => ?_)
      have e54_42 : ∀ i j, Z54 42 lb i j = Z54' 42 rb i j := fun i j => h54 42 i j rfl
      refine dlet_Z (P := zq lb rb) (zq_u h54 (by simp only [e0_44, e0_47]) rfl (by simp only [e0_44, e0_47, e54_42])) (fun Z57 Z57' h57 => ?_)
      have e57_42 : ∀ i j, Z57 42 lb i j = Z57' 42 rb i j := fun i j => h57 42 i j rfl
      refine dlet_Z (P := zq lb rb) (zq_u h57 (by simp only [e0_44, e0_47]) rfl (by simp only [e0_42, e0_44, e0_47, e57_42])) (fun Z59 Z59' h59 => ?_)
      exact h59
  · refine dlet_Z (P := zq lb rb) (zq_u h0 (by simp only [e0_44, e0_47]) rfl (by simp only [e0_42, e0_44, e0_47])) (fun Z63 Z63' h63 => ?_)
    have e63_42 : ∀ i j, Z63 42 lb i j = Z63' 42 rb i j := fun i j => h63 42 i j rfl
    refine dlet_Z (P := zq lb rb) (zq_u h63 (by simp only [e0_44, e0_47]) rfl (by simp only [e0_44, e0_47, e63_42])) (fun Z65 Z65' h65 => ?_)
    have e65_42 : ∀ i j, Z65 42 lb i j = Z65' 42 rb i j := fun i j => h65 42 i j rfl
    refine dlet_Z (P := zq lb rb) (zq_u h65 (by simp only [e0_44, e0_47]) rfl (by simp only [e0_42, e0_44, e0_47, e65_42])) (fun Z67 Z67' h67 => ?_)
    exact h67
theorem dl_73_1 {lb rb : Int} : ∀ (m : Nat) {Z Z' : qz_Z} {x2ij x7ij x1 x4 x5 x6 x8 x9 x10 x2ij' x7ij' x1' x4' x5' x6' x8' x9' x10' : Int}, x2ij = x2ij' → x7ij = x7ij' → x1 = x1' → x4 = x4' → x5 = x5' → x6 = x6' → x8 = x8' → zq lb rb Z Z' → x9 = x9' → x10 = x10' → dMe (zq lb rb) (zl_73_1 lb x2ij x7ij x1 x4 x5 x6 x8 m Z x9 x10) (zl_73_1 rb x2ij' x7ij' x1' x4' x5' x6' x8' m Z' x9' x10')
  | 0, Z, Z', x2ij, x7ij, x1, x4, x5, x6, x8, x9, x10, x2ij', x7ij', x1', x4', x5', x6', x8', x9', x10', ix2ij, ix7ij, ix1, ix4, ix5, ix6, ix8, h0, ix9, ix10 => by
    subst ix2ij
    subst ix7ij
    subst ix1
    subst ix4
    subst ix5
    subst ix6
    subst ix8
    subst ix9
    subst ix10
    unfold zl_73_1
    exact ⟨h0, rfl⟩
  | m + 1, Z, Z', x2ij, x7ij, x1, x4, x5, x6, x8, x9, x10, x2ij', x7ij', x1', x4', x5', x6', x8', x9', x10', ix2ij, ix7ij, ix1, ix4, ix5, ix6, ix8, h0, ix9, ix10 => by
    subst ix2ij
    subst ix7ij
    subst ix1
    subst ix4
    subst ix5
    subst ix6
    subst ix8
    subst ix9
    subst ix10
    have e0_11 : ∀ i j, Z 11 lb i j = Z' 11 rb i j := fun i j => h0 11 i j rfl
    have e0_44 : ∀ i j, Z 44 lb i j = Z' 44 rb i j := fun i j => h0 44 i j rfl
    have e0_45 : ∀ i j, Z 45 lb i j = Z' 45 rb i j := fun i j => h0 45 i j rfl
    have e0_46 : ∀ i j, Z 46 lb i j = Z' 46 rb i j := fun i j => h0 46 i j rfl
    have e0_48 : ∀ i j, Z 48 lb i j = Z' 48 rb i j := fun i j => h0 48 i j rfl
    have p0_26 : ∀ u3 : Int, zf_26 Z lb lb u3 = zf_26 Z' rb rb u3 := fun u3 => dq_26 h0 rfl
    have p0_34 : ∀ u3 u4 : Int, zf_34 Z lb lb u3 u4 = zf_34 Z' rb rb u3 u4 := fun u3 u4 => dq_34 h0 rfl rfl
    unfold zl_73_1
    refine dite rfl (fun _ => ?_) (fun _ => ?_)
    · exact ⟨h0, rfl⟩
    · refine dite (by simp only [e0_44]) (fun _ => ?_) (fun _ => ?_)
      · exact ⟨h0, rfl⟩
      · refine dite rfl (fun _ => ?_) (fun _ => ?_)
        · refine dlet_i (by simp only [p0_26]) (fun v8 => ?_)
          refine dite rfl (fun _ => ?_) (fun _ => ?_)
          · refine dlet_i (by simp only [p0_34]) (fun v18 => ?_)
            refine dite rfl (fun _ => ?_) (fun _ => ?_)
            · refine dlet_Z (P := zq lb rb) (zq_u h0 rfl rfl (by simp only [e0_11])) (fun Z27 Z27' h27 => ?_)
              refine dlet_Z (P := zq lb rb) (zq_u h27 (by simp only [e0_11]) rfl rfl) (fun Z28 Z28' h28 => ?_)
              have e28_46 : ∀ i j, Z28 46 lb i j = Z28' 46 rb i j := fun i j => h28 46 i j rfl
              refine dlet_Z (P := zq lb rb) (zq_u h28 (by simp only [e0_11]) rfl (by simp only [e28_46])) (fun Z31 Z31' h31 => ?_)
              refine dlet_Z (P := zq lb rb) (zq_u h31 (by simp only [e0_11]) rfl rfl) (fun Z32 Z32' h32 => ?_)
              refine dlet_Z (P := zq lb rb) (zq_u h32 (by simp only [e0_11]) rfl (by simp only [e0_44, e0_45, e0_46])) (fun Z37 Z37' h37 => ?_)
              have e37_44 : ∀ i j, Z37 44 lb i j = Z37' 44 rb i j := fun i j => h37 44 i j rfl
              refine dlet_Z (P := zq lb rb) (zq_u h37 (by simp only [e0_11]) rfl (by simp only [e0_44, e0_45, e0_46, e37_44])) (fun Z46 Z46' h46 => ?_)
              refine dlet_Z (P := zq lb rb) (zq_u h46 (by simp only [e0_11]) rfl rfl) (fun Z47 Z47' h47 => ?_)
              have e47_11 : ∀ i j, Z47 11 lb i j = Z47' 11 rb i j := fun i j => h47 11 i j rfl
              refine dlet_Z (P := zq lb rb) (zq_u h47 (by simp only [e0_11]) rfl (by simp only [e47_11])) (fun Z49 Z49' h49 => ?_)
              have e49_44 : ∀ i j, Z49 44 lb i j = Z49' 44 rb i j := fun i j => h49 44 i j rfl
              refine dlet_Z (P := zq lb rb) (zq_u h49 (by simp only [e0_11]) rfl (by simp only [e49_44])) (fun Z51 Z51' h51 => ?_)
              have e51_44 : ∀ i j, Z51 44 lb i j = Z51' 44 rb i j := fun i j => h51 44 i j rfl
              refine dlet_Z (P := zq lb rb) (zq_u h51 (by simp only [e0_11]) rfl (by simp only [e51_44])) (fun Z53 Z53' h53 => ?_)
              refine dlet_Z (P := zq lb rb) (zq_u h53 (by simp only [e0_11]) rfl rfl) (fun Z54 Z54' h54 => ?_)
              refine dlet_Z (P := zq lb rb) (zq_u h54 (by simp only [e0_11]) rfl rfl) (fun Z57 Z57' h57 => ?_)
              refine dlet_Z (P := zq lb rb) (zq_u h57 (by simp only [e0_11]) rfl rfl) (fun Z61 Z61' h61 => ?_)
              refine dlet_Z (P := zq lb rb) (zq_u h61 (by simp only [e0_11]) rfl rfl) (fun Z62 Z62' h62 => ?_)
              refine dlet_Z (P := zq lb rb) (zq_u h62 (by simp only [e0_11]) rfl rfl) (fun Z63 Z63' h63 => ?_)
              refine dlet_Z (P := zq lb rb) (zq_u h63 (by simp only [e0_11]) rfl rfl) (fun Z64 Z64' h64 => ?_)
              refine dlet_Z (P := zq lb rb) (zq_u h64 (by simp only [e0_11]) rfl (by simp only [e0_44, e0_45, e0_46])) (fun Z66 Z66' h66 => ?_)
              have e66_47 : ∀ i j, Z66 47 lb i j = Z66' 47 rb i j := fun i j => h66 47 i j rfl
              refine dlet_Z (P := zq lb rb) (zq_u h66 (by simp only [e0_11]) rfl (by simp only [e0_11, e66_47])) (fun Z69 Z69' h69 => ?_)
              have e69_11 : ∀ i j, Z69 11 lb i j = Z69' 11 rb i j := fun i j => h69 11 i j rfl
              have e69_45 : ∀ i j, Z69 45 lb i j = Z69' 45 rb i j := fun i j => h69 45 i j rfl
              refine dlet_Z (P := zq lb rb) (zq_u h69 (by simp only [e0_11]) rfl (by simp only [e0_46, e69_11, e69_45])) (fun Z73 Z73' h73 => ?_)
              have e73_44 : ∀ i j, Z73 44 lb i j = Z73' 44 rb i j := fun i j => h73 44 i j rfl
              refine dlet_Z (P := zq lb rb) (zq_u h73 rfl rfl (by simp only [e0_44, e0_45, e0_46, e73_44])) (fun Z76 Z76' h76 => ?_)
              have e76_44 : ∀ i j, Z76 44 lb i j = Z76' 44 rb i j := fun i j => h76 44 i j rfl
              have e76_47 : ∀ i j, Z76 47 lb i j = Z76' 47 rb i j := fun i j => h76 47 i j rfl
              refine dlet_Z (P := zq lb rb) (zq_u h76 rfl rfl (by simp only [e0_11, e76_44, e76_47])) (fun Z81 Z81' h81 => ?_)
              have e81_46 : ∀ i j, Z81 46 lb i j = Z81' 46 rb i j := fun i j => h81 46 i j rfl
              refine dlet_Z (P := zq lb rb) (zq_u h81 rfl rfl (by simp only [e0_44, e0_45, e0_46, e81_46])) (fun Z84 Z84' h84 => ?_)
              have e84_46 : ∀ i j, Z84 46 lb i j = Z84' 46 rb i j := fun i j => h84 46 i j rfl
              refine dlet_Z (P := zq lb rb) (zq_u h84 rfl rfl (by simp only [e0_44, e0_45, e0_46, e84_46])) (fun Z87 Z87' h87 => ?_)
              have e87_45 : ∀ i j, Z87 45 lb i j = Z87' 45 rb i j := fun i j => h87 45 i j rfl
              have e87_47 : ∀ i j, Z87 47 lb i j = Z87' 47 rb i j := fun i j => h87 47 i j rfl
              refine dlet_Z (P := zq lb rb) (zq_u h87 (by simp only [e0_46]) rfl (by simp only [e0_11, e0_46, e87_45, e87_47])) (fun Z93 Z93' h93 => ?_)
              have e93_45 : ∀ i j, Z93 45 lb i j = Z93' 45 rb i j := fun i j => h93 45 i j rfl
              refine dlet_Z (P := zq lb rb) (zq_u h93 (by simp only [e0_46]) rfl (by simp only [e0_44, e0_45, e0_46, e93_45])) (fun Z96 Z96' h96 => ?_)
              refine dlet_Z (P := zq lb rb) (dq_6 h96 (by simp only [e0_11])) (fun Z97 Z97' h97 => ?_)
              have e97_48 : ∀ i j, Z97 48 lb i j = Z97' 48 rb i j := fun i j => h97 48 i j rfl
              refine dlet_Z (P := zq lb rb) (zq_u h97 rfl rfl (by simp only [e97_48])) (fun Z100 Z100' h100 => ?_)
              have e100_47 : ∀ i j, Z100 47 lb i j = Z100' 47 rb i j := fun i j => h100 47 i j rfl
              have e100_48 : ∀ i j, Z100 48 lb i j = Z100' 48 rb i j := fun i j => h100 48 i j rfl
              refine dlet_Z (P := zq lb rb) (zq_u h100 rfl rfl (by simp only [e0_11, e100_47, e100_48])) (fun Z105 Z105' h105 => ?_)
              have e105_47 : ∀ i j, Z105 47 lb i j = Z105' 47 rb i j := fun i j => h105 47 i j rfl
              have e105_48 : ∀ i j, Z105 48 lb i j = Z105' 48 rb i j := fun i j => h105 48 i j rfl
              refine dlet_Z (P := zq lb rb) (zq_u h105 rfl rfl (by simp only [e0_11, e105_47, e105_48])) (fun Z110 Z110' h110 => ?_)
              exact dl_73_1 m rfl rfl rfl rfl rfl rfl rfl h110 rfl rfl
            · exact ⟨h0, rfl⟩
          · exact ⟨h0, rfl⟩
        · refine dlet_i (by simp only [p0_26]) (fun v118 => ?_)
          refine dite (by simp only [e0_48]) (fun _ => ?_) (fun _ => ?_)
          · refine dlet_i (by simp only [e0_48, p0_34]) (fun v130 => ?_)
            refine dite rfl (fun _ => ?_) (fun _ => ?_)
            · refine dlet_Z (P := zq lb rb) (zq_u h0 rfl rfl (by simp only [e0_11])) (fun Z139 Z139' h139 => ?_)
              refine dlet_Z (P := zq lb rb) (zq_u h139 (by simp only [e0_11]) rfl rfl) (fun Z140 Z140' h140 => ?_)
              have e140_46 : ∀ i j, Z140 46 lb i j = Z140' 46 rb i j := fun i j => h140 46 i j rfl
              refine dlet_Z (P := zq lb rb) (zq_u h140 (by simp only [e0_11]) rfl (by simp only [e140_46])) (fun Z143 Z143' h143 => ?_)
              refine dlet_Z (P := zq lb rb) (zq_u h143 (by simp only [e0_11]) rfl rfl) (fun Z144 Z144' h144 => ?_)
              refine dlet_Z (P := zq lb rb) (zq_u h144 (by simp only [e0_11]) rfl (by simp only [e0_44, e0_45, e0_46, e0_48])) (fun Z149 Z149' h149 => ?_)
              have e149_44 : ∀ i j, Z149 44 lb i j = Z149' 44 rb i j := fun i j => h149 44 i j rfl
              refine dlet_Z (P := zq lb rb) (zq_u h149 (by simp only [e0_11]) rfl (by simp only [e0_44, e0_45, e0_46, e0_48, e149_44])) (fun Z158 Z158' h158 => ?_)
              refine dlet_Z (P := zq lb rb) (zq_u h158 (by simp only [e0_11]) rfl (by simp only [e0_48])) (fun Z159 Z159' h159 => ?_)
              have e159_11 : ∀ i j, Z159 11 lb i j = Z159' 11 rb i j := fun i j => h159 11 i j rfl
              refine dlet_Z (P := zq lb rb) (zq_u h159 (by simp only [e0_11]) rfl (by simp only [e159_11])) (fun Z161 Z161' h161 => ?_)
              have e161_44 : ∀ i j, Z161 44 lb i j = Z161' 44 rb i j := fun i j => h161 44 i j rfl
              refine dlet_Z (P := zq lb rb) (zq_u h161 (by simp only [e0_11]) rfl (by simp only [e161_44])) (fun Z163 Z163' h163 => ?_)
              have e163_44 : ∀ i j, Z163 44 lb i j = Z163' 44 rb i j := fun i j => h163 44 i j rfl
              refine dlet_Z (P := zq lb rb) (zq_u h163 (by simp only [e0_11]) rfl (by simp only [e163_44])) (fun Z165 Z165' h165 => ?_)
              refine dlet_Z (P := zq lb rb) (zq_u h165 (by simp only [e0_11]) rfl rfl) (fun Z166 Z166' h166 => ?_)
              refine dlet_Z (P := zq lb rb) (zq_u h166 (by simp only [e0_11]) rfl rfl) (fun Z169 Z169' h169 => ?_)
              refine dlet_Z (P := zq lb rb) (zq_u h169 (by simp only [e0_11]) rfl rfl) (fun Z173 Z173' h173 => ?_)
              refine dlet_Z (P := zq lb rb) (zq_u h173 (by simp only [e0_11]) rfl rfl) (fun Z174 Z174' h174 => ?_)
              refine dlet_Z (P := zq lb rb) (zq_u h174 (by simp only [e0_11]) rfl rfl) (fun Z175 Z175' h175 => ?_)
              refine dlet_Z (P := zq lb rb) (zq_u h175 (by simp only [e0_11]) rfl rfl) (fun Z176 Z176' h176 => ?_)
              refine dlet_Z (P := zq lb rb) (zq_u h176 (by simp only [e0_11]) rfl (by simp only [e0_44, e0_45, e0_46, e0_48])) (fun Z178 Z178' h178 => ?_)
              have e178_47 : ∀ i j, Z178 47 lb i j = Z178' 47 rb i j := fun i j => h178 47 i j rfl
              refine dlet_Z (P := zq lb rb) (zq_u h178 (by simp only [e0_11]) rfl (by simp only [e0_11, e178_47])) (fun Z181 Z181' h181 => ?_)
              have e181_11 : ∀ i j, Z181 11 lb i j = Z181' 11 rb i j := fun i j => h181 11 i j rfl
              have e181_45 : ∀ i j, Z181 45 lb i j = Z181' 45 rb i j := fun i j => h181 45 i j rfl
              refine dlet_Z (P := zq lb rb) (zq_u h181 (by simp only [e0_11]) rfl (by simp only [e0_46, e181_11, e181_45])) (fun Z185 Z185' h185 => ?_)
              have e185_44 : ∀ i j, Z185 44 lb i j = Z185' 44 rb i j := fun i j => h185 44 i j rfl
              refine dlet_Z (P := zq lb rb) (zq_u h185 rfl rfl (by simp only [e0_44, e0_45, e0_46, e0_48, e185_44])) (fun Z188 Z188' h188 => ?_)
              have e188_44 : ∀ i j, Z188 44 lb i j = Z188' 44 rb i j := fun i j => h188 44 i j rfl
              have e188_47 : ∀ i j, Z188 47 lb i j = Z188' 47 rb i j := fun i j => h188 47 i j rfl
              refine dlet_Z (P := zq lb rb) (zq_u h188 rfl rfl (by simp only [e0_11, e188_44, e188_47])) (fun Z193 Z193' h193 => ?_)
              have e193_46 : ∀ i j, Z193 46 lb i j = Z193' 46 rb i j := fun i j => h193 46 i j rfl
              refine dlet_Z (P := zq lb rb) (zq_u h193 rfl rfl (by simp only [e0_44, e0_45, e0_46, e0_48, e193_46])) (fun Z196 Z196' h196 => ?_)
              have e196_46 : ∀ i j, Z196 46 lb i j = Z196' 46 rb i j := fun i j => h196 46 i j rfl
              refine dlet_Z (P := zq lb rb) (zq_u h196 rfl rfl (by simp only [e0_44, e0_45, e0_46, e0_48, e196_46])) (fun Z199 Z199' h199 => ?_)
              have e199_45 : ∀ i j, Z199 45 lb i j = Z199' 45 rb i j := fun i j => h199 45 i j rfl
              have e199_47 : ∀ i j, Z199 47 lb i j = Z199' 47 rb i j := fun i j => h199 47 i j rfl
              refine dlet_Z (P := zq lb rb) (zq_u h199 (by simp only [e0_46]) rfl (by simp only [e0_11, e0_46, e199_45, e199_47])) (fun Z205 Z205' h205 => ?_)
              have e205_45 : ∀ i j, Z205 45 lb i j = Z205' 45 rb i j := fun i j => h205 45 i j rfl
              refine dlet_Z (P := zq lb rb) (zq_u h205 (by simp only [e0_46]) rfl (by simp only [e0_44, e0_45, e0_46, e0_48, e205_45])) (fun Z208 Z208' h208 => ?_)
              refine dlet_Z (P := zq lb rb) (dq_6 h208 (by simp only [e0_11])) (fun Z209 Z209' h209 => ?_)
              have e209_48 : ∀ i j, Z209 48 lb i j = Z209' 48 rb i j := fun i j => h209 48 i j rfl
              refine dlet_Z (P := zq lb rb) (zq_u h209 rfl rfl (by simp only [e209_48])) (fun Z212 Z212' h212 => ?_)
              have e212_47 : ∀ i j, Z212 47 lb i j = Z212' 47 rb i j := fun i j => h212 47 i j rfl
              have e212_48 : ∀ i j, Z212 48 lb i j = Z212' 48 rb i j := fun i j => h212 48 i j rfl
              refine dlet_Z (P := zq lb rb) (zq_u h212 rfl rfl (by simp only [e0_11, e212_47, e212_48])) (fun Z217 Z217' h217 => ?_)
              have e217_47 : ∀ i j, Z217 47 lb i j = Z217' 47 rb i j := fun i j => h217 47 i j rfl
              have e217_48 : ∀ i j, Z217 48 lb i j = Z217' 48 rb i j := fun i j => h217 48 i j rfl
              refine dlet_Z (P := zq lb rb) (zq_u h217 rfl rfl (by simp only [e0_11, e217_47, e217_48])) (fun Z222 Z222' h222 => ?_)
              exact dl_73_1 m rfl rfl rfl rfl rfl rfl rfl h222 (by simp only [e0_48]) rfl
            · exact ⟨h0, (by simp only [e0_48])⟩
          · exact ⟨h0, (by simp only [e0_48])⟩
theorem dq_73 {lb rb : Int} {Z Z' : qz_Z} {a1 a1' : Int} (h0 : zq lb rb Z Z') (ia1 : a1 = a1') : zq lb rb (zf_73 Z lb a1) (zf_73 Z' rb a1') := by
  subst ia1
  have e0_48 : ∀ i j, Z 48 lb i j = Z' 48 rb i j := fun i j => h0 48 i j rfl
  have e0_49 : ∀ i j, Z 49 lb i j = Z' 49 rb i j := fun i j => h0 49 i j rfl
  unfold zf_73
  refine dlet3 (dl_73_1 _ rfl (by simp only [e0_49]) rfl (by simp only [e0_49]) (by simp only [e0_49]) (by simp only [e0_49]) (by simp only [e0_48]) h0 (by simp only [e0_49]) rfl) (fun Z9 Z9' y7 y8 h9 => ?_)
  refine dlet_Z (P := zq lb rb) (zq_u h9 rfl rfl rfl) (fun Z12 Z12' h12 => ?_)
  refine dlet_Z (P := zq lb rb) (zq_u h12 rfl rfl (by simp only [e0_49])) (fun Z13 Z13' h13 => ?_)
  have e13_48 : ∀ i j, Z13 48 lb i j = Z13' 48 rb i j := fun i j => h13 48 i j rfl
  refine dlet_Z (P := zq lb rb) (zq_u h13 rfl rfl (by simp only [e13_48])) (fun Z16 Z16' h16 => ?_)
  refine dlet_Z (P := zq lb rb) (zq_u h16 (by simp only [e0_49]) rfl rfl) (fun Z17 Z17' h17 => ?_)
  refine dlet_Z (P := zq lb rb) (dq_69 h17 rfl rfl) (fun Z20 Z20' h20 => ?_)
  exact h20
theorem dl_118_2 {lb rb : Int} : ∀ (m : Nat) {Z Z' : qz_Z} {x1 x2 x3 x4 x5 x1' x2' x3' x4' x5' : Int}, x1 = x1' → x2 = x2' → x3 = x3' → x4 = x4' → zq lb rb Z Z' → x5 = x5' → dMe (zq lb rb) (zl_118_2 lb x1 x2 x3 x4 m Z x5) (zl_118_2 rb x1' x2' x3' x4' m Z' x5')
  | 0, Z, Z', x1, x2, x3, x4, x5, x1', x2', x3', x4', x5', ix1, ix2, ix3, ix4, h0, ix5 => by
    subst ix1
    subst ix2
    subst ix3
    subst ix4
    subst ix5
    unfold zl_118_2
    exact ⟨h0, rfl⟩
  | m + 1, Z, Z', x1, x2, x3, x4, x5, x1', x2', x3', x4', x5', ix1, ix2, ix3, ix4, h0, ix5 => by
    subst ix1
    subst ix2
    subst ix3
    subst ix4
    subst ix5
    unfold zl_118_2
    refine dite rfl (fun _ => ?_) (fun _ => ?_)
    · exact ⟨h0, rfl⟩
    · refine dlet_Z (P := zq lb rb) (dq_73 h0 rfl) (fun Z3 Z3' h3 => ?_)
      exact dl_118_2 m rfl rfl rfl rfl h3 rfl
theorem dl_118_4 {lb rb : Int} : ∀ (m : Nat) {Z Z' : qz_Z} {x1 x2 x3 x1' x2' x3' : Int}, x1 = x1' → x2 = x2' → zq lb rb Z Z' → x3 = x3' → dMe (zq lb rb) (zl_118_4 lb x1 x2 m Z x3) (zl_118_4 rb x1' x2' m Z' x3')
  | 0, Z, Z', x1, x2, x3, x1', x2', x3', ix1, ix2, h0, ix3 => by
    subst ix1
    subst ix2
    subst ix3
    unfold zl_118_4
    exact ⟨h0, rfl⟩
  | m + 1, Z, Z', x1, x2, x3, x1', x2', x3', ix1, ix2, h0, ix3 => by
    subst ix1
    subst ix2
    subst ix3
    have e0_11 : ∀ i j, Z 11 lb i j = Z' 11 rb i j := fun i j => h0 11 i j rfl
    have e0_48 : ∀ i j, Z 48 lb i j = Z' 48 rb i j := fun i j => h0 48 i j rfl
    unfold zl_118_4
    refine dite (by simp only [e0_11]) (fun _ => ?_) (fun _ => ?_)
    · exact ⟨h0, rfl⟩
    · refine dite (by simp only [e0_11, e0_48]) (fun _ => ?_) (fun _ => ?_)
      · refine dlet2 (dl_118_2 _ rfl rfl rfl rfl h0 rfl) (fun Z7 Z7' y6 h7 => ?_)
        exact dl_118_4 m rfl rfl h7 rfl
      · refine dite (by simp only [e0_11, e0_48]) (fun _ => ?_) (fun _ => ?_)
        · refine dlet2 (dl_118_2 _ rfl rfl rfl rfl h0 rfl) (fun Z15 Z15' y14 h15 => ?_)
          exact dl_118_4 m rfl rfl h15 rfl
        · refine dlet2 (dl_118_2 _ rfl rfl rfl (by simp only [e0_48]) h0 rfl) (fun Z23 Z23' y22 h23 => ?_)
          exact dl_118_4 m rfl rfl h23 rfl
theorem dl_59_1 {lb rb : Int} : ∀ (m : Nat) {Z Z' : qz_Z} {x1 x2 x3 x1' x2' x3' : Int}, x1 = x1' → zq lb rb Z Z' → x2 = x2' → x3 = x3' → zl_59_1 lb x1 m Z x2 x3 = zl_59_1 rb x1' m Z' x2' x3'
  | 0, Z, Z', x1, x2, x3, x1', x2', x3', ix1, h0, ix2, ix3 => by
    subst ix1
    subst ix2
    subst ix3
    unfold zl_59_1
    exact rfl
  | m + 1, Z, Z', x1, x2, x3, x1', x2', x3', ix1, h0, ix2, ix3 => by
    subst ix1
    subst ix2
    subst ix3
    have e0_11 : ∀ i j, Z 11 lb i j = Z' 11 rb i j := fun i j => h0 11 i j rfl
    have e0_45 : ∀ i j, Z 45 lb i j = Z' 45 rb i j := fun i j => h0 45 i j rfl
    have e0_47 : ∀ i j, Z 47 lb i j = Z' 47 rb i j := fun i j => h0 47 i j rfl
    unfold zl_59_1
    refine dite (by simp only [e0_11]) (fun _ => ?_) (fun _ => ?_)
    · exact rfl
    · refine dite (by simp only [e0_47]) (fun _ => ?_) (fun _ => ?_)
      · exact dl_59_1 m rfl h0 rfl rfl
      · exact dl_59_1 m rfl h0 (by simp only [e0_45, e0_47]) rfl
theorem dq_59 {lb rb : Int} {Z Z' : qz_Z} {a1 a1' : Int} (h0 : zq lb rb Z Z') (ia1 : a1 = a1') : zf_59 Z lb a1 = zf_59 Z' rb a1' := by
  subst ia1
  unfold zf_59
  refine dlet2e (dl_59_1 _ rfl h0 rfl rfl) (fun y1 y2 => ?_)
  exact rfl
theorem dl_1056_1 {lb rb dn lo hi : Int} : ∀ (m : Nat) {Z Z' : qz_Z} {x1 x4 x5 x1' x4' x5' x2b x3 : Int}, lo ≤ x2b ∧ x2b < hi → lo ≤ x3 ∧ x3 < hi → x1 = x1' → zQ lb rb dn lo hi Z Z' → x4 = x4' → x5 = x5' → dMe (zQ lb rb dn lo hi) (zl_1056_1 lb x2b x3 x1 m Z x4 x5) (zl_1056_1 rb (x2b + dn) (x3 + dn) x1' m Z' x4' x5')
  | 0, Z, Z', x1, x4, x5, x1', x4', x5', x2b, x3, lx2b, lx3, ix1, h0, ix4, ix5 => by
    subst ix1
    subst ix4
    subst ix5
    unfold zl_1056_1
    exact ⟨h0, rfl⟩
  | m + 1, Z, Z', x1, x4, x5, x1', x4', x5', x2b, x3, lx2b, lx3, ix1, h0, ix4, ix5 => by
    subst ix1
    subst ix4
    subst ix5
    unfold zl_1056_1
    refine dite rfl (fun _ => ?_) (fun _ => ?_)
    · exact ⟨h0, rfl⟩
    · refine dlet_Z (P := zQ lb rb dn lo hi) (zQ_a h0 rfl rfl rfl) (fun Z4 Z4' h4 => ?_)
      refine dite rfl (fun _ => ?_) (fun _ => ?_)
      · exact dl_1056_1 m (by omega) (by omega) rfl h4 rfl rfl
      · refine dlet_Z (P := zQ lb rb dn lo hi) (zQ_a h4 rfl rfl rfl) (fun Z9 Z9' h9 => ?_)
        exact dl_1056_1 m (by omega) (by omega) rfl h9 rfl rfl
theorem dl_47_1 {lb rb dn lo hi : Int} : ∀ (m : Nat) {Z Z' : qz_Z} {x2 x3 x4 x5 x2' x3' x4' x5' x1b : Int}, lo ≤ x1b ∧ x1b < hi → x2 = x2' → zQ lb rb dn lo hi Z Z' → x3 = x3' → x4 = x4' → x5 = x5' → zl_47_1 lb x1b x2 m Z x3 x4 x5 = zl_47_1 rb (x1b + dn) x2' m Z' x3' x4' x5'
  | 0, Z, Z', x2, x3, x4, x5, x2', x3', x4', x5', x1b, lx1b, ix2, h0, ix3, ix4, ix5 => by
    subst ix2
    subst ix3
    subst ix4
    subst ix5
    unfold zl_47_1
    exact rfl
  | m + 1, Z, Z', x2, x3, x4, x5, x2', x3', x4', x5', x1b, lx1b, ix2, h0, ix3, ix4, ix5 => by
    subst ix2
    subst ix3
    subst ix4
    subst ix5
    have e0_40 : ∀ i j, Z 40 lb i j = Z' 40 rb i j := fun i j => h0.1 40 i j rfl
    have a0_x1b : ∀ i j, Z 200 x1b i j = Z' 200 (x1b + dn) i j := fun i j => h0.2 x1b i j (by omega) (by omega)
    unfold zl_47_1
    refine dite rfl (fun _ => ?_) (fun _ => ?_)
    · exact rfl
    · exact dl_47_1 m (by omega) rfl h0 (by simp only [e0_40, a0_x1b]) (by simp only [a0_x1b]) rfl
theorem dq_47 {lb rb dn lo hi : Int} {Z Z' : qz_Z} {a2 a2' a1b : Int} (h0 : zQ lb rb dn lo hi Z Z') (la1b : lo ≤ a1b ∧ a1b < hi) (ia2 : a2 = a2') : zf_47 Z lb a1b a2 = zf_47 Z' rb (a1b + dn) a2' := by
  subst ia2
  have e0_40 : ∀ i j, Z 40 lb i j = Z' 40 rb i j := fun i j => h0.1 40 i j rfl
  unfold zf_47
  refine dlet3e (dl_47_1 _ (by omega) rfl h0 rfl rfl rfl) (fun y1 y2 y3 => ?_)
  exact (by simp only [e0_40])
theorem dl_1070_1 {lb rb dn lo hi : Int} : ∀ (m : Nat) {Z Z' : qz_Z} {x1 x2 x1' x2' x0b : Int}, lo ≤ x0b ∧ x0b < hi → x1 = x1' → zQ lb rb dn lo hi Z Z' → x2 = x2' → zl_1070_1 x0b x1 m Z x2 = zl_1070_1 (x0b + dn) x1' m Z' x2'
  | 0, Z, Z', x1, x2, x1', x2', x0b, lx0b, ix1, h0, ix2 => by
    subst ix1
    subst ix2
    unfold zl_1070_1
    exact rfl
  | m + 1, Z, Z', x1, x2, x1', x2', x0b, lx0b, ix1, h0, ix2 => by
    subst ix1
    subst ix2
    have a0_x0b : ∀ i j, Z 200 x0b i j = Z' 200 (x0b + dn) i j := fun i j => h0.2 x0b i j (by omega) (by omega)
    unfold zl_1070_1
    refine dite rfl (fun _ => ?_) (fun _ => ?_)
    · exact rfl
    · refine dite (by simp only [a0_x0b]) (fun _ => ?_) (fun _ => ?_)
      · exact rfl
      · exact dl_1070_1 m (by omega) rfl h0 rfl
theorem dl_1070_2 {lb rb dn lo hi : Int} : ∀ (m : Nat) {Z Z' : qz_Z} {x1 x2 x3 x1' x2' x3' x0b : Int}, lo ≤ x0b ∧ x0b < hi → x1 = x1' → x2 = x2' → zQ lb rb dn lo hi Z Z' → x3 = x3' → zl_1070_2 x0b x1 x2 m Z x3 = zl_1070_2 (x0b + dn) x1' x2' m Z' x3'
  | 0, Z, Z', x1, x2, x3, x1', x2', x3', x0b, lx0b, ix1, ix2, h0, ix3 => by
    subst ix1
    subst ix2
    subst ix3
    unfold zl_1070_2
    exact rfl
  | m + 1, Z, Z', x1, x2, x3, x1', x2', x3', x0b, lx0b, ix1, ix2, h0, ix3 => by
    subst ix1
    subst ix2
    subst ix3
    have a0_x0b : ∀ i j, Z 200 x0b i j = Z' 200 (x0b + dn) i j := fun i j => h0.2 x0b i j (by omega) (by omega)
    unfold zl_1070_2
    refine dite rfl (fun _ => ?_) (fun _ => ?_)
    · exact rfl
    · refine dite (by simp only [a0_x0b]) (fun _ => ?_) (fun _ => ?_)
      · exact rfl
      · exact dl_1070_2 m (by omega) rfl rfl h0 rfl
theorem dl_1070_3 {lb rb dn lo hi : Int} : ∀ (m : Nat) {Z Z' : qz_Z} {x4 x5 x4' x5' x0b : Int}, lo ≤ x0b ∧ x0b < hi → zQ lb rb dn lo hi Z Z' → x4 = x4' → x5 = x5' → dMe (zQ lb rb dn lo hi) (zl_1070_3 x0b m Z x4 x5) (zl_1070_3 (x0b + dn) m Z' x4' x5')
  | 0, Z, Z', x4, x5, x4', x5', x0b, lx0b, h0, ix4, ix5 => by
    subst ix4
    subst ix5
    unfold zl_1070_3
    exact ⟨h0, rfl⟩
  | m + 1, Z, Z', x4, x5, x4', x5', x0b, lx0b, h0, ix4, ix5 => by
    subst ix4
    subst ix5
    have a0_x0b : ∀ i j, Z 200 x0b i j = Z' 200 (x0b + dn) i j := fun i j => h0.2 x0b i j (by omega) (by omega)
    unfold zl_1070_3
    refine dite rfl (fun _ => ?_) (fun _ => ?_)
    · exact ⟨h0, rfl⟩
    · refine dlet_Z (P := zQ lb rb dn lo hi) (zQ_a h0 rfl rfl (by simp only [a0_x0b])) (fun Z4 Z4' h4 => ?_)
      refine dlet_Z (P := zQ lb rb dn lo hi) (zQ_a h4 rfl rfl (by simp only [a0_x0b])) (fun Z6 Z6' h6 => ?_)
      exact dl_1070_3 m (by omega) h6 rfl rfl
theorem dq_1070 {lb rb dn lo hi : Int} {Z Z' : qz_Z} {a1 a1' a0b : Int} (h0 : zQ lb rb dn lo hi Z Z') (la0b : lo ≤ a0b ∧ a0b < hi) (ia1 : a1 = a1') : dMe (zQ lb rb dn lo hi) (zf_1070 Z a0b a1) (zf_1070 Z' (a0b + dn) a1') := by
  subst ia1
  have a0_a0b : ∀ i j, Z 200 a0b i j = Z' 200 (a0b + dn) i j := fun i j => h0.2 a0b i j (by omega) (by omega)
  unfold zf_1070
  refine dlet_i (dl_1070_1 _ (by omega) rfl h0 rfl) (fun y2 => ?_)
  refine dite rfl (fun _ => ?_) (fun _ => ?_)
  · refine dlet_i (dl_1070_2 _ (by omega) rfl rfl h0 rfl) (fun y5 => ?_)
    refine dlet_Z (P := zQ lb rb dn lo hi) (zQ_a h0 rfl rfl (by simp only [a0_a0b])) (fun Z8 Z8' h8 => ?_)
    refine dlet_Z (P := zQ lb rb dn lo hi) (zQ_a h8 rfl rfl (by simp only [a0_a0b])) (fun Z10 Z10' h10 => ?_)
    refine dlet3 (dl_1070_3 _ (by omega) h10 rfl rfl) (fun Z13 Z13' y11 y12 h13 => ?_)
    exact ⟨h13, rfl⟩
  · exact ⟨h0, rfl⟩
theorem dl_1056_2 {lb rb dn lo hi : Int} : ∀ (m : Nat) {Z Z' : qz_Z} {x4 x5 x6 x7 x4' x5' x6' x7' x2b x3 : Int}, lo ≤ x2b ∧ x2b < hi → lo ≤ x3 ∧ x3 < hi → x4 = x4' → zQ lb rb dn lo hi Z Z' → x5 = x5' → x6 = x6' → x7 = x7' → dMe (zQ lb rb dn lo hi) (zl_1056_2 lb x2b x3 x4 m Z x5 x6 x7) (zl_1056_2 rb (x2b + dn) (x3 + dn) x4' m Z' x5' x6' x7')
  | 0, Z, Z', x4, x5, x6, x7, x4', x5', x6', x7', x2b, x3, lx2b, lx3, ix4, h0, ix5, ix6, ix7 => by
    subst ix4
    subst ix5
    subst ix6
    subst ix7
    unfold zl_1056_2
    exact ⟨h0, rfl⟩
  | m + 1, Z, Z', x4, x5, x6, x7, x4', x5', x6', x7', x2b, x3, lx2b, lx3, ix4, h0, ix5, ix6, ix7 => by
    subst ix4
    subst ix5
    subst ix6
    subst ix7
    unfold zl_1056_2
    refine dite rfl (fun _ => ?_) (fun _ => ?_)
    · exact ⟨h0, rfl⟩
    · refine dite rfl (fun _ => ?_) (fun _ => ?_)
      · exact ⟨h0, rfl⟩
      · refine dlet_i (dq_47 h0 (by omega) rfl) (fun v5 => ?_)
        refine dite rfl (fun _ => ?_) (fun _ => ?_)
        · refine dlet_Z (P := zQ lb rb dn lo hi) (zQ_py h0 rfl (by omega)) (fun Z7 Z7' h7 => ?_)
          refine dlet2 (dq_1070 h7 (by omega) rfl) (fun Z8 Z8' v9 h8 => ?_)
          exact dl_1056_2 m (by omega) (by omega) rfl h8 rfl rfl rfl
        · refine dite rfl (fun _ => ?_) (fun _ => ?_)
          · refine dlet2 (dq_1070 h0 (by omega) rfl) (fun Z11 Z11' v12 h11 => ?_)
            exact dl_1056_2 m (by omega) (by omega) rfl h11 rfl rfl rfl
          · refine dlet_Z (P := zQ lb rb dn lo hi) (zQ_py h0 rfl (by omega)) (fun Z13 Z13' h13 => ?_)
            refine dlet2 (dq_1070 h13 (by omega) rfl) (fun Z14 Z14' v15 h14 => ?_)
            exact dl_1056_2 m (by omega) (by omega) rfl h14 rfl rfl rfl
theorem dq_1056 {lb rb dn lo : Int} {Z Z' : qz_Z} {a1 a1' n9 a2b : Int} (h0 : zQ lb rb dn lo n9 Z Z') (ia1 : a1 = a1') (la2b : lo ≤ a2b ∧ a2b < n9) : dMn (zQ lb rb dn lo n9) dn (zf_1056 Z n9 lb a1 a2b) (zf_1056 Z' (n9 + dn) rb a1' (a2b + dn)) := by
  subst ia1
  unfold zf_1056
  refine dlet_Z (P := zQ lb rb dn lo (n9 + 1)) (zQ_zzi h0) (fun Z2 Z2' h2 => ?_)
  refine dlet_n (d := dn) (by omega) (fun n4 en => ?_)
  subst en
  refine dlet3 (dl_1056_1 _ (by omega) (by omega) rfl h2 rfl rfl) (fun Z7 Z7' y5 y6 h7 => ?_)
  refine dlet4 (dl_1056_2 _ (by omega) (by omega) rfl h7 rfl rfl rfl) (fun Z12 Z12' y9 y10 y11 h12 => ?_)
  exact ⟨(zQ_w h12 (by omega)), rfl, rfl⟩
theorem dl_45_1 {lb rb dn lo hi : Int} : ∀ (m : Nat) {Z Z' : qz_Z} {x2ij x5 x6 x7 x2ij' x5' x6' x7' x4 : Int}, x2ij = x2ij' → lo ≤ x4 ∧ x4 < hi → zQ lb rb dn lo hi Z Z' → x5 = x5' → x6 = x6' → x7 = x7' → dMe (zQ lb rb dn lo hi) (zl_45_1 lb x2ij x4 m Z x5 x6 x7) (zl_45_1 rb x2ij' (x4 + dn) m Z' x5' x6' x7')
  | 0, Z, Z', x2ij, x5, x6, x7, x2ij', x5', x6', x7', x4, ix2ij, lx4, h0, ix5, ix6, ix7 => by
    subst ix2ij
    subst ix5
    subst ix6
    subst ix7
    unfold zl_45_1
    exact ⟨h0, rfl⟩
  | m + 1, Z, Z', x2ij, x5, x6, x7, x2ij', x5', x6', x7', x4, ix2ij, lx4, h0, ix5, ix6, ix7 => by
    subst ix2ij
    subst ix5
    subst ix6
    subst ix7
    have e0_40 : ∀ i j, Z 40 lb i j = Z' 40 rb i j := fun i j => h0.1 40 i j rfl
    have a0_x4 : ∀ i j, Z 200 x4 i j = Z' 200 (x4 + dn) i j := fun i j => h0.2 x4 i j (by omega) (by omega)
    unfold zl_45_1
    refine dite rfl (fun _ => ?_) (fun _ => ?_)
    · exact ⟨h0, rfl⟩
    · refine dite (by simp only [a0_x4]) (fun _ => ?_) (fun _ => ?_)
      · refine dlet_Z (P := zQ lb rb dn lo hi) (zQ_u h0 (by decide) rfl rfl (by simp only [a0_x4])) (fun Z4 Z4' h4 => ?_)
        refine dlet_Z (P := zQ lb rb dn lo hi) (zQ_u h4 (by decide) rfl rfl rfl) (fun Z6 Z6' h6 => ?_)
        exact dl_45_1 m rfl (by omega) h6 rfl rfl rfl
      · refine dlet_Z (P := zQ lb rb dn lo hi) (zQ_u h0 (by decide) rfl rfl (by simp only [a0_x4])) (fun Z8 Z8' h8 => ?_)
        refine dlet_Z (P := zQ lb rb dn lo hi) (zQ_u h8 (by decide) rfl rfl (by simp only [e0_40, a0_x4])) (fun Z11 Z11' h11 => ?_)
        exact dl_45_1 m rfl (by omega) h11 (by simp only [a0_x4]) (by simp only [e0_40, a0_x4]) rfl
theorem dq_45 {lb rb dn : Int} {Z Z' : qz_Z} {a1 a1' n9 : Int} (h0 : zq lb rb Z Z') (ia1 : a1 = a1') : dMk (zq lb rb) dn (zf_45 Z n9 lb a1) (zf_45 Z' (n9 + dn) rb a1') := by
  subst ia1
  have e0_11 : ∀ i j, Z 11 lb i j = Z' 11 rb i j := fun i j => h0 11 i j rfl
  have e0_50 : ∀ i j, Z 50 lb i j = Z' 50 rb i j := fun i j => h0 50 i j rfl
  unfold zf_45
  refine dite (by simp only [e0_50]) (fun _ => ?_) (fun _ => ?_)
  · exact ⟨h0, rfl⟩
  · refine dite (by simp only [e0_11, e0_50]) (fun _ => ?_) (fun _ => ?_)
    · refine dlet_Z (P := zq lb rb) (zq_u h0 rfl rfl rfl) (fun Z6 Z6' h6 => ?_)
      have p6_59 : ∀ u2 : Int, zf_59 Z6 lb u2 = zf_59 Z6' rb u2 := fun u2 => dq_59 h6 rfl
      refine dlet_i (by simp only [p6_59]) (fun v8 => ?_)
      refine dite rfl (fun _ => ?_) (fun _ => ?_)
      · refine dlet_Z (P := zQ lb rb dn n9 (n9 + 1)) (zq_zzi h6) (fun Z10 Z10' h10 => ?_)
        refine dlet_n (d := dn) (by omega) (fun n12 en => ?_)
        subst en
        refine dlet3n (dq_1056 h10 rfl (by omega)) (fun Z14 Z14' n17 v15 h14 => ?_)
        refine dlet_Z (P := zQ lb rb dn n9 (n9 + 1)) (zQ_u h14 (by decide) rfl rfl rfl) (fun Z19 Z19' h19 => ?_)
        refine dlet_Z (P := zQ lb rb dn n9 (n9 + 1)) (zQ_u h19 (by decide) rfl rfl rfl) (fun Z21 Z21' h21 => ?_)
        have e21_11 : ∀ i j, Z21 11 lb i j = Z21' 11 rb i j := fun i j => h21.1 11 i j rfl
        refine dlet_Z (P := zQ lb rb dn n9 (n9 + 1)) (zQ_u h21 (by decide) rfl rfl (by simp only [e21_11])) (fun Z25 Z25' h25 => ?_)
        have e25_11 : ∀ i j, Z25 11 lb i j = Z25' 11 rb i j := fun i j => h25.1 11 i j rfl
        have e25_50 : ∀ i j, Z25 50 lb i j = Z25' 50 rb i j := fun i j => h25.1 50 i j rfl
        refine dlet_Z (P := zQ lb rb dn n9 (n9 + 1)) (zQ_u h25 (by decide) rfl rfl (by simp only [e25_11, e25_50])) (fun Z31 Z31' h31 => ?_)
        have e31_50 : ∀ i j, Z31 50 lb i j = Z31' 50 rb i j := fun i j => h31.1 50 i j rfl
        refine dlet_Z (P := zQ lb rb dn n9 (n9 + 1)) (zQ_u h31 (by decide) rfl rfl (by simp only [e31_50])) (fun Z35 Z35' h35 => ?_)
        have e35_11 : ∀ i j, Z35 11 lb i j = Z35' 11 rb i j := fun i j => h35.1 11 i j rfl
        refine dlet4 (dl_45_1 _ rfl (by omega) h35 rfl (by simp only [e35_11]) rfl) (fun Z42 Z42' y39 y40 y41 h42 => ?_)
        exact ⟨h42.1, rfl⟩
      · exact ⟨h6, rfl⟩
    · exact ⟨h0, rfl⟩
theorem dl_118_5 {lb rb dn : Int} : ∀ (m : Nat) {Z Z' : qz_Z} {x1 x2 x3 x1' x2' x3' n8 : Int}, x1 = x1' → x2 = x2' → zq lb rb Z Z' → x3 = x3' → dMn (zq lb rb) dn (zl_118_5 lb x1 x2 m Z n8 x3) (zl_118_5 rb x1' x2' m Z' (n8 + dn) x3')
  | 0, Z, Z', x1, x2, x3, x1', x2', x3', n8, ix1, ix2, h0, ix3 => by
    subst ix1
    subst ix2
    subst ix3
    unfold zl_118_5
    exact ⟨h0, rfl, rfl⟩
  | m + 1, Z, Z', x1, x2, x3, x1', x2', x3', n8, ix1, ix2, h0, ix3 => by
    subst ix1
    subst ix2
    subst ix3
    have e0_11 : ∀ i j, Z 11 lb i j = Z' 11 rb i j := fun i j => h0 11 i j rfl
    unfold zl_118_5
    refine dite (by simp only [e0_11]) (fun _ => ?_) (fun _ => ?_)
    · exact ⟨h0, rfl, rfl⟩
    · refine dlet2n (dq_45 h0 rfl) (fun Z3 Z3' n5 h3 => ?_)
      exact dl_118_5 m rfl rfl h3 rfl
theorem dl_30_1 {lb rb : Int} : ∀ (m : Nat) {Z Z' : qz_Z} {x3ij x1 x2 x4 x3ij' x1' x2' x4' : Int}, x3ij = x3ij' → x1 = x1' → x2 = x2' → zq lb rb Z Z' → x4 = x4' → dMe (zq lb rb) (zl_30_1 lb x3ij x1 x2 m Z x4) (zl_30_1 rb x3ij' x1' x2' m Z' x4')
  | 0, Z, Z', x3ij, x1, x2, x4, x3ij', x1', x2', x4', ix3ij, ix1, ix2, h0, ix4 => by
    subst ix3ij
    subst ix1
    subst ix2
    subst ix4
    unfold zl_30_1
    exact ⟨h0, rfl⟩
  | m + 1, Z, Z', x3ij, x1, x2, x4, x3ij', x1', x2', x4', ix3ij, ix1, ix2, h0, ix4 => by
    subst ix3ij
    subst ix1
    subst ix2
    subst ix4
    have e0_11 : ∀ i j, Z 11 lb i j = Z' 11 rb i j := fun i j => h0 11 i j rfl
    have e0_45 : ∀ i j, Z 45 lb i j = Z' 45 rb i j := fun i j => h0 45 i j rfl
    have e0_47 : ∀ i j, Z 47 lb i j = Z' 47 rb i j := fun i j => h0 47 i j rfl
    unfold zl_30_1
    refine dite (by simp only [e0_11]) (fun _ => ?_) (fun _ => ?_)
    · exact ⟨h0, rfl⟩
    · refine dite (by simp only [e0_47]) (fun _ => ?_) (fun _ => ?_)
      · exact dl_30_1 m rfl rfl rfl h0 rfl
      · refine dite (by simp only [e0_47]) (fun _ => ?_) (fun _ => ?_)
        · exact dl_30_1 m rfl rfl rfl h0 rfl
        · refine dite (by simp only [e0_47]) (fun _ => ?_) (fun _ => ?_)
          · exact dl_30_1 m rfl rfl rfl h0 rfl
          · refine dlet_Z (P := zq lb rb) (zq_u h0 rfl rfl (by simp only [e0_45, e0_47])) (fun Z11 Z11' h11 => ?_)
            have e11_45 : ∀ i j, Z11 45 lb i j = Z11' 45 rb i j := fun i j => h11 45 i j rfl
            refine dlet_Z (P := zq lb rb) (zq_u h11 rfl rfl (by simp only [e0_45, e0_47, e11_45])) (fun Z14 Z14' h14 => ?_)
            have e14_45 : ∀ i j, Z14 45 lb i j = Z14' 45 rb i j := fun i j => h14 45 i j rfl
            refine dlet_Z (P := zq lb rb) (zq_u h14 rfl rfl (by simp only [e0_45, e0_47, e14_45])) (fun Z18 Z18' h18 => ?_)
            have e18_47 : ∀ i j, Z18 47 lb i j = Z18' 47 rb i j := fun i j => h18 47 i j rfl
            refine dite (by simp only [e18_47]) (fun _ => ?_) (fun _ => ?_)
            · exact dl_30_1 m rfl rfl rfl h18 rfl
            · refine dlet_Z (P := zq lb rb) (zq_u h18 rfl rfl rfl) (fun Z22 Z22' h22 => ?_)
              exact dl_30_1 m rfl rfl rfl h22 rfl
theorem dq_30 {lb rb : Int} {Z Z' : qz_Z} {a1 a2 a1' a2' : Int} (h0 : zq lb rb Z Z') (ia1 : a1 = a1') (ia2 : a2 = a2') : zq lb rb (zf_30 Z lb a1 a2) (zf_30 Z' rb a1' a2') := by
  subst ia1
  subst ia2
  unfold zf_30
  refine dlet2 (dl_30_1 _ rfl rfl rfl h0 rfl) (fun Z2 Z2' y1 h2 => ?_)
  exact h2
theorem dl_17_1 {lb rb : Int} : ∀ (m : Nat) {Z Z' : qz_Z} {x1 x2 x3 x1' x2' x3' : Int}, x1 = x1' → x2 = x2' → zq lb rb Z Z' → x3 = x3' → dMe (zq lb rb) (zl_17_1 lb x1 x2 m Z x3) (zl_17_1 rb x1' x2' m Z' x3')
  | 0, Z, Z', x1, x2, x3, x1', x2', x3', ix1, ix2, h0, ix3 => by
    subst ix1
    subst ix2
    subst ix3
    unfold zl_17_1
    exact ⟨h0, rfl⟩
  | m + 1, Z, Z', x1, x2, x3, x1', x2', x3', ix1, ix2, h0, ix3 => by
    subst ix1
    subst ix2
    subst ix3
    unfold zl_17_1
    refine dite rfl (fun _ => ?_) (fun _ => ?_)
    · exact ⟨h0, rfl⟩
    · refine dlet_Z (P := zq lb rb) (dq_30 h0 rfl rfl) (fun Z2 Z2' h2 => ?_)
      exact dl_17_1 m rfl rfl h2 rfl
theorem dl_17_3 {lb rb : Int} : ∀ (m : Nat) {Z Z' : qz_Z} {x1 x2 x1' x2' : Int}, x1 = x1' → zq lb rb Z Z' → x2 = x2' → dMe (zq lb rb) (zl_17_3 lb x1 m Z x2) (zl_17_3 rb x1' m Z' x2')
  | 0, Z, Z', x1, x2, x1', x2', ix1, h0, ix2 => by
    subst ix1
    subst ix2
    unfold zl_17_3
    exact ⟨h0, rfl⟩
  | m + 1, Z, Z', x1, x2, x1', x2', ix1, h0, ix2 => by
    subst ix1
    subst ix2
    have e0_11 : ∀ i j, Z 11 lb i j = Z' 11 rb i j := fun i j => h0 11 i j rfl
    unfold zl_17_3
    refine dite (by simp only [e0_11]) (fun _ => ?_) (fun _ => ?_)
    · exact ⟨h0, rfl⟩
    · refine dlet_Z (P := zq lb rb) (zq_u h0 rfl rfl rfl) (fun Z3 Z3' h3 => ?_)
      refine dlet2 (dl_17_1 _ rfl rfl h3 rfl) (fun Z5 Z5' y4 h5 => ?_)
      exact dl_17_3 m rfl h5 rfl
theorem dl_17_4 {lb rb : Int} : ∀ (m : Nat) {Z Z' : qz_Z} {x2 x2' : Int}, zq lb rb Z Z' → x2 = x2' → dMe (zq lb rb) (zl_17_4 lb m Z x2) (zl_17_4 rb m Z' x2')
  | 0, Z, Z', x2, x2', h0, ix2 => by
    subst ix2
    unfold zl_17_4
    exact ⟨h0, rfl⟩
  | m + 1, Z, Z', x2, x2', h0, ix2 => by
    subst ix2
    have e0_11 : ∀ i j, Z 11 lb i j = Z' 11 rb i j := fun i j => h0 11 i j rfl
    have e0_46 : ∀ i j, Z 46 lb i j = Z' 46 rb i j := fun i j => h0 46 i j rfl
    unfold zl_17_4
    refine dite (by simp only [e0_11]) (fun _ => ?_) (fun _ => ?_)
    · exact ⟨h0, rfl⟩
    · refine dite (by simp only [e0_46]) (fun _ => ?_) (fun _ => ?_)
      · exact dl_17_4 m h0 rfl
      · refine dite (by simp only [e0_11, e0_46]) (fun _ => ?_) (fun _ => ?_)
        · exact dl_17_4 m h0 rfl
        · refine dlet_Z (P := zq lb rb) (zq_u h0 rfl rfl (by simp only [e0_46])) (fun Z12 Z12' h12 => ?_)
          exact dl_17_4 m h12 rfl
theorem dq_17 {lb rb : Int} {Z Z' : qz_Z} (h0 : zq lb rb Z Z') : zq lb rb (zf_17 Z lb) (zf_17 Z' rb) := by
  have e0_11 : ∀ i j, Z 11 lb i j = Z' 11 rb i j := fun i j => h0 11 i j rfl
  unfold zf_17
  refine dlet2 (dl_17_3 _ (by simp only [e0_11]) h0 rfl) (fun Z3 Z3' y2 h3 => ?_)
  refine dlet2 (dl_17_4 _ h3 rfl) (fun Z6 Z6' y5 h6 => ?_)
  exact h6
theorem dl_4_1 {lb rb : Int} : ∀ (m : Nat) {Z Z' : qz_Z} {x1 x2 x1' x2' : Int}, zq lb rb Z Z' → x1 = x1' → x2 = x2' → dMe (zq lb rb) (zl_4_1 lb m Z x1 x2) (zl_4_1 rb m Z' x1' x2')
  | 0, Z, Z', x1, x2, x1', x2', h0, ix1, ix2 => by
    subst ix1
    subst ix2
    unfold zl_4_1
    exact ⟨h0, rfl⟩
  | m + 1, Z, Z', x1, x2, x1', x2', h0, ix1, ix2 => by
    subst ix1
    subst ix2
    have e0_11 : ∀ i j, Z 11 lb i j = Z' 11 rb i j := fun i j => h0 11 i j rfl
    have e0_43 : ∀ i j, Z 43 lb i j = Z' 43 rb i j := fun i j => h0 43 i j rfl
    unfold zl_4_1
    refine dite (by simp only [e0_11]) (fun _ => ?_) (fun _ => ?_)
    · exact ⟨h0, rfl⟩
    · refine dlet_Z (P := zq lb rb) (zq_u h0 rfl rfl rfl) (fun Z3 Z3' h3 => ?_)
      exact dl_4_1 m h3 (by simp only [e0_43]) rfl
theorem dq_2 {lb rb : Int} {Z Z' : qz_Z} {a1ij a2 a1ij' a2' : Int} (h0 : zq lb rb Z Z') (ia1ij : a1ij = a1ij') (ia2 : a2 = a2') : zf_2 Z lb lb a1ij a2 = zf_2 Z' rb rb a1ij' a2' := by
  subst ia1ij
  subst ia2
  have e0_41 : ∀ i j, Z 41 lb i j = Z' 41 rb i j := fun i j => h0 41 i j rfl
  have e0_44 : ∀ i j, Z 44 lb i j = Z' 44 rb i j := fun i j => h0 44 i j rfl
  have e0_47 : ∀ i j, Z 47 lb i j = Z' 47 rb i j := fun i j => h0 47 i j rfl
  unfold zf_2
  refine dite rfl (fun _ => ?_) (fun _ => ?_)
  · refine dite rfl (fun _ => ?_) (fun _ => ?_)
    · refine dite rfl (fun _ => ?_) (fun _ => ?_)
      · refine dite (by simp only [e0_47]) (fun _ => ?_) (fun _ => ?_)
        · exact rfl
        · exact (by simp only [e0_47])
      · refine dite (by simp only [e0_47]) (fun _ => ?_) (fun _ => ?_)
        · exact rfl
        · exact (by simp only [e0_47])
    · refine dite (by simp only [e0_47]) (fun _ => ?_) (fun _ => ?_)
      · exact rfl
      · exact (by simp only [e0_47])
  · refine dite (by simp only [e0_41, e0_44, e0_47]) (fun _ => ?_) (fun _ => ?_)
    · refine dite (by simp only [e0_41, e0_44, e0_47]) (fun _ => ?_) (fun _ => ?_)
      · refine dite (by simp only [e0_41, e0_44, e0_47]) (fun _ => ?_) (fun _ => ?_)
        · exact (by simp only [e0_47])
        · exact (by simp only [e0_47])
      · exact rfl
    · exact (by simp only [e0_47])
theorem dq_1010 {lb rb dn lo : Int} {Z Z' : qz_Z} {a1ij a2 a3 a1ij' a2' a3' n9 a4b : Int} (h0 : zQ lb rb dn lo n9 Z Z') (ia1ij : a1ij = a1ij') (ia2 : a2 = a2') (ia3 : a3 = a3') (la4b : lo ≤ a4b ∧ a4b < n9) : dMk (zQ lb rb dn lo n9) dn (zf_1010 Z n9 lb lb a1ij a2 a3 a4b) (zf_1010 Z' (n9 + dn) rb rb a1ij' a2' a3' (a4b + dn)) := by
  subst ia1ij
  subst ia2
  subst ia3
  have e0_41 : ∀ i j, Z 41 lb i j = Z' 41 rb i j := fun i j => h0.1 41 i j rfl
  have e0_44 : ∀ i j, Z 44 lb i j = Z' 44 rb i j := fun i j => h0.1 44 i j rfl
  have e0_47 : ∀ i j, Z 47 lb i j = Z' 47 rb i j := fun i j => h0.1 47 i j rfl
  unfold zf_1010
  refine dite rfl (fun _ => ?_) (fun _ => ?_)
  · refine dlet2n (dq_1009 h0 rfl rfl rfl rfl (by omega)) (fun Z4 Z4' n6 h4 => ?_)
    exact ⟨h4, rfl⟩
  · refine dite rfl (fun _ => ?_) (fun _ => ?_)
    · refine dite rfl (fun _ => ?_) (fun _ => ?_)
      · refine dite (by simp only [e0_47]) (fun _ => ?_) (fun _ => ?_)
        · refine dlet2n (dq_1009 h0 rfl rfl (by simp only [e0_47]) (by simp only [e0_47]) (by omega)) (fun Z13 Z13' n15 h13 => ?_)
          exact ⟨h13, rfl⟩
        · refine dlet2n (dq_1009 h0 rfl rfl rfl (by simp only [e0_47]) (by omega)) (fun Z16 Z16' n18 h16 => ?_)
          exact ⟨h16, rfl⟩
      · refine dite (by simp only [e0_47]) (fun _ => ?_) (fun _ => ?_)
        · refine dlet2n (dq_1009 h0 rfl rfl (by simp only [e0_47]) (by simp only [e0_47]) (by omega)) (fun Z22 Z22' n24 h22 => ?_)
          exact ⟨h22, rfl⟩
        · refine dlet2n (dq_1009 h0 rfl rfl rfl (by simp only [e0_47]) (by omega)) (fun Z25 Z25' n27 h25 => ?_)
          exact ⟨h25, rfl⟩
    · refine dite (by simp only [e0_41, e0_44, e0_47]) (fun _ => ?_) (fun _ => ?_)
      · refine dite (by simp only [e0_41, e0_44, e0_47]) (fun _ => ?_) (fun _ => ?_)
        · refine dite (by simp only [e0_41, e0_44, e0_47]) (fun _ => ?_) (fun _ => ?_)
          · refine dite (by simp only [e0_41, e0_44, e0_47]) (fun _ => ?_) (fun _ => ?_)
            · refine dlet2n (dq_1009 h0 rfl (by simp only [e0_41, e0_44, e0_47]) (by simp only [e0_47]) (by simp only [e0_47]) (by omega)) (fun Z38 Z38' n40 h38 => ?_)
              exact ⟨h38, rfl⟩
            · refine dlet2n (dq_1009 h0 rfl (by simp only [e0_41, e0_44, e0_47]) rfl (by simp only [e0_47]) (by omega)) (fun Z41 Z41' n43 h41 => ?_)
              exact ⟨h41, rfl⟩
          · refine dite (by simp only [e0_41, e0_44, e0_47]) (fun _ => ?_) (fun _ => ?_)
            · refine dlet2n (dq_1009 h0 rfl (by simp only [e0_41, e0_44, e0_47]) (by simp only [e0_47]) (by simp only [e0_47]) (by omega)) (fun Z47 Z47' n49 h47 => ?_)
              exact ⟨h47, rfl⟩
            · refine dlet2n (dq_1009 h0 rfl (by simp only [e0_41, e0_44, e0_47]) rfl (by simp only [e0_47]) (by omega)) (fun Z50 Z50' n52 h50 => ?_)
              exact ⟨h50, rfl⟩
        · refine dite (by simp only [e0_41, e0_44, e0_47]) (fun _ => ?_) (fun _ => ?_)
          · refine dlet2n (dq_1009 h0 rfl (by simp only [e0_41, e0_44, e0_47]) (by simp only [e0_47]) (by simp only [e0_47]) (by omega)) (fun Z56 Z56' n58 h56 => ?_)
            exact ⟨h56, rfl⟩
          · refine dlet2n (dq_1009 h0 rfl (by simp only [e0_41, e0_44, e0_47]) rfl (by simp only [e0_47]) (by omega)) (fun Z59 Z59' n61 h59 => ?_)
            exact ⟨h59, rfl⟩
      · refine dlet2n (dq_1009 h0 rfl rfl rfl rfl (by omega)) (fun Z62 Z62' n64 h62 => ?_)
        exact ⟨h62, rfl⟩
theorem dq_7 {lb rb dn : Int} {Z Z' : qz_Z} {a1ij a1ij' n9 : Int} (h0 : zq lb rb Z Z') (ia1ij : a1ij = a1ij') : dMk (zq lb rb) dn (zf_7 Z n9 lb lb a1ij) (zf_7 Z' (n9 + dn) rb rb a1ij') := by
  subst ia1ij
  have e0_54 : ∀ i j, Z 54 lb i j = Z' 54 rb i j := fun i j => h0 54 i j rfl
  have p0_2 : ∀ u3 u4 : Int, zf_2 Z lb lb u3 u4 = zf_2 Z' rb rb u3 u4 := fun u3 u4 => dq_2 h0 rfl rfl
  unfold zf_7
  refine dlet_i (by simp only [e0_54, p0_2]) (fun v4 => ?_)
  refine dite rfl (fun _ => ?_) (fun _ => ?_)
  · refine dlet_Z (P := zQ lb rb dn n9 (n9 + 1)) (zq_zzi h0) (fun Z6 Z6' h6 => ?_)
    have e6_54 : ∀ i j, Z6 54 lb i j = Z6' 54 rb i j := fun i j => h6.1 54 i j rfl
    refine dlet_n (d := dn) (by omega) (fun n10 en => ?_)
    subst en
    refine dlet2n (dq_1010 h6 (by simp only [e0_54]) (by simp only [e6_54]) rfl (by omega)) (fun Z14 Z14' n16 h14 => ?_)
    refine dlet_Z (P := zQ lb rb dn n9 (n9 + 1)) (zQ_u h14 (by decide) rfl rfl rfl) (fun Z18 Z18' h18 => ?_)
    refine dlet_Z (P := zQ lb rb dn n9 (n9 + 1)) (zQ_u h18 (by decide) rfl rfl rfl) (fun Z22 Z22' h22 => ?_)
    refine dlet_Z (P := zQ lb rb dn n9 (n9 + 1)) (zQ_ph h22 rfl (by decide) (by omega)) (fun Z24 Z24' h24 => ?_)
    have e24_47 : ∀ i j, Z24 47 lb i j = Z24' 47 rb i j := fun i j => h24.1 47 i j rfl
    refine dlet_Z (P := zQ lb rb dn n9 (n9 + 1)) (zQ_u h24 (by decide) (by simp only [e0_54]) rfl (by simp only [e0_54, e24_47])) (fun Z29 Z29' h29 => ?_)
    have e29_45 : ∀ i j, Z29 45 lb i j = Z29' 45 rb i j := fun i j => h29.1 45 i j rfl
    refine dlet_Z (P := zQ lb rb dn n9 (n9 + 1)) (zQ_u h29 (by decide) (by simp only [e0_54, e24_47]) rfl (by simp only [e0_54, e24_47, e29_45])) (fun Z33 Z33' h33 => ?_)
    have e33_45 : ∀ i j, Z33 45 lb i j = Z33' 45 rb i j := fun i j => h33.1 45 i j rfl
    refine dlet_Z (P := zQ lb rb dn n9 (n9 + 1)) (zQ_u h33 (by decide) (by simp only [e0_54, e24_47]) rfl (by simp only [e0_54, e24_47, e33_45])) (fun Z38 Z38' h38 => ?_)
    have e38_45 : ∀ i j, Z38 45 lb i j = Z38' 45 rb i j := fun i j => h38.1 45 i j rfl
    refine dlet_Z (P := zQ lb rb dn n9 (n9 + 1)) (zQ_u h38 (by decide) (by simp only [e0_54, e24_47]) rfl (by simp only [e0_54, e24_47, e38_45])) (fun Z42 Z42' h42 => ?_)
    have e42_14 : ∀ i j, Z42 14 lb i j = Z42' 14 rb i j := fun i j => h42.1 14 i j rfl
    have e42_44 : ∀ i j, Z42 44 lb i j = Z42' 44 rb i j := fun i j => h42.1 44 i j rfl
    have e42_47 : ∀ i j, Z42 47 lb i j = Z42' 47 rb i j := fun i j => h42.1 47 i j rfl
    refine dlet_Z (P := zQ lb rb dn n9 (n9 + 1)) (zQ_u h42 (by decide) rfl rfl (by simp only [e42_14])) (fun Z48 Z48' h48 => ?_)
    have e48_14 : ∀ i j, Z48 14 lb i j = Z48' 14 rb i j := fun i j => h48.1 14 i j rfl
    refine dlet_Z (P := zQ lb rb dn n9 (n9 + 1)) (zQ_u h48 (by decide) rfl rfl (by simp only [e48_14])) (fun Z52 Z52' h52 => ?_)
    have e52_11 : ∀ i j, Z52 11 lb i j = Z52' 11 rb i j := fun i j => h52.1 11 i j rfl
    refine dlet_Z (P := zQ lb rb dn n9 (n9 + 1)) (zQ_u h52 (by decide) (by simp only [e52_11]) rfl rfl) (fun Z55 Z55' h55 => ?_)
    refine dlet_Z (P := zQ lb rb dn n9 (n9 + 1)) (zQ_u h55 (by decide) (by simp only [e52_11]) rfl rfl) (fun Z57 Z57' h57 => ?_)
    refine dlet_Z (P := zQ lb rb dn n9 (n9 + 1)) (zQ_u h57 (by decide) (by simp only [e52_11]) rfl rfl) (fun Z59 Z59' h59 => ?_)
    refine dlet_Z (P := zQ lb rb dn n9 (n9 + 1)) (zQ_u h59 (by decide) (by simp only [e52_11]) rfl (by simp only [e0_54, e42_47])) (fun Z61 Z61' h61 => ?_)
    have e61_11 : ∀ i j, Z61 11 lb i j = Z61' 11 rb i j := fun i j => h61.1 11 i j rfl
    refine dlet_Z (P := zQ lb rb dn n9 (n9 + 1)) (zQ_u h61 (by decide) (by simp only [e52_11]) rfl (by simp only [e61_11])) (fun Z64 Z64' h64 => ?_)
    have e64_11 : ∀ i j, Z64 11 lb i j = Z64' 11 rb i j := fun i j => h64.1 11 i j rfl
    refine dlet_Z (P := zQ lb rb dn n9 (n9 + 1)) (zQ_u h64 (by decide) rfl rfl (by simp only [e64_11])) (fun Z68 Z68' h68 => ?_)
    have e68_14 : ∀ i j, Z68 14 lb i j = Z68' 14 rb i j := fun i j => h68.1 14 i j rfl
    have e68_42 : ∀ i j, Z68 42 lb i j = Z68' 42 rb i j := fun i j => h68.1 42 i j rfl
    have a68_n9 : ∀ i j, Z68 200 n9 i j = Z68' 200 (n9 + dn) i j := fun i j => h68.2 n9 i j (by omega) (by omega)
    refine dite (by simp only [a68_n9]) (fun _ => ?_) (fun _ => ?_)
    · refine dlet_Z (P := zQ lb rb dn n9 (n9 + 1)) (zQ_u h68 (by decide) rfl rfl (by simp only [e68_14, a68_n9])) (fun Z75 Z75' h75 => ?_)
      have e75_14 : ∀ i j, Z75 14 lb i j = Z75' 14 rb i j := fun i j => h75.1 14 i j rfl
      refine dlet_Z (P := zQ lb rb dn n9 (n9 + 1)) (zQ_u h75 (by decide) rfl rfl (by simp only [a68_n9, e75_14])) (fun Z79 Z79' h79 => ?_)
      have e79_11 : ∀ i j, Z79 11 lb i j = Z79' 11 rb i j := fun i j => h79.1 11 i j rfl
      refine dlet_Z (P := zQ lb rb dn n9 (n9 + 1)) (zQ_u h79 (by decide) (by simp only [e79_11]) rfl rfl) (fun Z83 Z83' h83 => ?_)
      refine dlet_Z (P := zQ lb rb dn n9 (n9 + 1)) (zQ_u h83 (by decide) (by simp only [e79_11]) rfl rfl) (fun Z85 Z85' h85 => ?_)
      refine dlet_Z (P := zQ lb rb dn n9 (n9 + 1)) (zQ_u h85 (by decide) (by simp only [e79_11]) rfl (by simp only [a68_n9])) (fun Z87 Z87' h87 => ?_)
      refine dlet_Z (P := zQ lb rb dn n9 (n9 + 1)) (zQ_u h87 (by decide) (by simp only [e79_11]) rfl (by simp only [e0_54, e42_47])) (fun Z89 Z89' h89 => ?_)
      have e89_11 : ∀ i j, Z89 11 lb i j = Z89' 11 rb i j := fun i j => h89.1 11 i j rfl
      refine dlet_Z (P := zQ lb rb dn n9 (n9 + 1)) (zQ_u h89 (by decide) (by simp only [e79_11]) rfl (by simp only [e89_11])) (fun Z93 Z93' h93 => ?_)
      have e93_11 : ∀ i j, Z93 11 lb i j = Z93' 11 rb i j := fun i j => h93.1 11 i j rfl
      refine dlet_Z (P := zQ lb rb dn n9 (n9 + 1)) (zQ_u h93 (by decide) rfl rfl (by simp only [e93_11])) (fun Z97 Z97' h97 => ?_)
      have e97_14 : ∀ i j, Z97 14 lb i j = Z97' 14 rb i j := fun i j => h97.1 14 i j rfl
      have e97_42 : ∀ i j, Z97 42 lb i j = Z97' 42 rb i j := fun i j => h97.1 42 i j rfl
      have a97_n9 : ∀ i j, Z97 200 n9 i j = Z97' 200 (n9 + dn) i j := fun i j => h97.2 n9 i j (by omega) (by omega)
      refine dite (by simp only [a97_n9]) (fun _ => ?_) (fun _ => ?_)
      · refine dlet_Z (P := zQ lb rb dn n9 (n9 + 1)) (zQ_u h97 (by decide) rfl rfl (by simp only [e97_14, a97_n9])) (fun Z104 Z104' h104 => ?_)
        have e104_14 : ∀ i j, Z104 14 lb i j = Z104' 14 rb i j := fun i j => h104.1 14 i j rfl
        refine dlet_Z (P := zQ lb rb dn n9 (n9 + 1)) (zQ_u h104 (by decide) rfl rfl (by simp only [a97_n9, e104_14])) (fun Z108 Z108' h108 => ?_)
        have e108_11 : ∀ i j, Z108 11 lb i j = Z108' 11 rb i j := fun i j => h108.1 11 i j rfl
        refine dlet_Z (P := zQ lb rb dn n9 (n9 + 1)) (zQ_u h108 (by decide) (by simp only [e108_11]) rfl rfl) (fun Z112 Z112' h112 => ?_)
        refine dlet_Z (P := zQ lb rb dn n9 (n9 + 1)) (zQ_u h112 (by decide) (by simp only [e108_11]) rfl rfl) (fun Z114 Z114' h114 => ?_)
        refine dlet_Z (P := zQ lb rb dn n9 (n9 + 1)) (zQ_u h114 (by decide) (by simp only [e108_11]) rfl (by simp only [a97_n9])) (fun Z116 Z116' h116 => ?_)
        refine dlet_Z (P := zQ lb rb dn n9 (n9 + 1)) (zQ_u h116 (by decide) (by simp only [e108_11]) rfl (by simp only [e0_54, e42_47])) (fun Z118 Z118' h118 => ?_)
        have e118_11 : ∀ i j, Z118 11 lb i j = Z118' 11 rb i j := fun i j => h118.1 11 i j rfl
        refine dlet_Z (P := zQ lb rb dn n9 (n9 + 1)) (zQ_u h118 (by decide) (by simp only [e108_11]) rfl (by simp only [e118_11])) (fun Z122 Z122' h122 => ?_)
        have e122_11 : ∀ i j, Z122 11 lb i j = Z122' 11 rb i j := fun i j => h122.1 11 i j rfl
        refine dlet_Z (P := zQ lb rb dn n9 (n9 + 1)) (zQ_u h122 (by decide) rfl rfl (by simp only [e122_11])) (fun Z126 Z126' h126 => ?_)
        have e126_42 : ∀ i j, Z126 42 lb i j = Z126' 42 rb i j := fun i j => h126.1 42 i j rfl
        have a126_n9 : ∀ i j, Z126 200 n9 i j = Z126' 200 (n9 + dn) i j := fun i j => h126.2 n9 i j (by omega) (by omega)
        refine dlet_Z (P := zQ lb rb dn n9 (n9 + 1)) (zQ_u h126 (by decide) (by simp only [e0_54, e42_44, e42_47]) rfl (by simp only [e0_54, e42_44, e42_47, e126_42, a126_n9])) (fun Z132 Z132' h132 => ?_)
        have e132_42 : ∀ i j, Z132 42 lb i j = Z132' 42 rb i j := fun i j => h132.1 42 i j rfl
        have a132_n9 : ∀ i j, Z132 200 n9 i j = Z132' 200 (n9 + dn) i j := fun i j => h132.2 n9 i j (by omega) (by omega)
        refine dlet_Z (P := zQ lb rb dn n9 (n9 + 1)) (zQ_u h132 (by decide) (by simp only [e0_54, e42_44, e42_47]) rfl (by simp only [e0_54, e42_44, e42_47, e132_42, a132_n9])) (fun Z138 Z138' h138 => ?_)
        exact ⟨h138.1, rfl⟩
      · refine dlet_Z (P := zQ lb rb dn n9 (n9 + 1)) (zQ_u h97 (by decide) (by simp only [e0_54, e42_44, e42_47]) rfl (by simp only [e0_54, e42_44, e42_47, e97_42, a97_n9])) (fun Z144 Z144' h144 => ?_)
        have e144_42 : ∀ i j, Z144 42 lb i j = Z144' 42 rb i j := fun i j => h144.1 42 i j rfl
        have a144_n9 : ∀ i j, Z144 200 n9 i j = Z144' 200 (n9 + dn) i j := fun i j => h144.2 n9 i j (by omega) (by omega)
        refine dlet_Z (P := zQ lb rb dn n9 (n9 + 1)) (zQ_u h144 (by decide) (by simp only [e0_54, e42_44, e42_47]) rfl (by simp only [e0_54, e42_44, e42_47, e144_42, a144_n9])) (fun Z150 Z150' h150 => ?_)
        exact ⟨h150.1, rfl⟩
    · refine dite (by simp only [a68_n9]) (fun _ => ?_) (fun _ => ?_)
      · refine dlet_Z (P := zQ lb rb dn n9 (n9 + 1)) (zQ_u h68 (by decide) rfl rfl (by simp only [e68_14, a68_n9])) (fun Z157 Z157' h157 => ?_)
        have e157_14 : ∀ i j, Z157 14 lb i j = Z157' 14 rb i j := fun i j => h157.1 14 i j rfl
        refine dlet_Z (P := zQ lb rb dn n9 (n9 + 1)) (zQ_u h157 (by decide) rfl rfl (by simp only [a68_n9, e157_14])) (fun Z161 Z161' h161 => ?_)
        have e161_11 : ∀ i j, Z161 11 lb i j = Z161' 11 rb i j := fun i j => h161.1 11 i j rfl
        refine dlet_Z (P := zQ lb rb dn n9 (n9 + 1)) (zQ_u h161 (by decide) (by simp only [e161_11]) rfl rfl) (fun Z165 Z165' h165 => ?_)
        refine dlet_Z (P := zQ lb rb dn n9 (n9 + 1)) (zQ_u h165 (by decide) (by simp only [e161_11]) rfl rfl) (fun Z167 Z167' h167 => ?_)
        refine dlet_Z (P := zQ lb rb dn n9 (n9 + 1)) (zQ_u h167 (by decide) (by simp only [e161_11]) rfl (by simp only [a68_n9])) (fun Z169 Z169' h169 => ?_)
        refine dlet_Z (P := zQ lb rb dn n9 (n9 + 1)) (zQ_u h169 (by decide) (by simp only [e161_11]) rfl (by simp only [e0_54, e42_47])) (fun Z171 Z171' h171 => ?_)
        have e171_11 : ∀ i j, Z171 11 lb i j = Z171' 11 rb i j := fun i j => h171.1 11 i j rfl
        refine dlet_Z (P := zQ lb rb dn n9 (n9 + 1)) (zQ_u h171 (by decide) (by simp only [e161_11]) rfl (by simp only [e171_11])) (fun Z175 Z175' h175 => ?_)
        have e175_11 : ∀ i j, Z175 11 lb i j = Z175' 11 rb i j := fun i j => h175.1 11 i j rfl
        refine dlet_Z (P := zQ lb rb dn n9 (n9 + 1)) (zQ_u h175 (by decide) rfl rfl (by simp only [e175_11])) (fun Z179 Z179' h179 => ?_)
        have e179_42 : ∀ i j, Z179 42 lb i j = Z179' 42 rb i j := fun i j => h179.1 42 i j rfl
        have a179_n9 : ∀ i j, Z179 200 n9 i j = Z179' 200 (n9 + dn) i j := fun i j => h179.2 n9 i j (by omega) (by omega)
        refine dlet_Z (P := zQ lb rb dn n9 (n9 + 1)) (zQ_u h179 (by decide) (by simp only [e0_54, e42_44, e42_47]) rfl (by simp only [e0_54, e42_44, e42_47, e179_42, a179_n9])) (fun Z184 Z184' h184 => ?_)
        have e184_42 : ∀ i j, Z184 42 lb i j = Z184' 42 rb i j := fun i j => h184.1 42 i j rfl
        have a184_n9 : ∀ i j, Z184 200 n9 i j = Z184' 200 (n9 + dn) i j := fun i j => h184.2 n9 i j (by omega) (by omega)
        refine dlet_Z (P := zQ lb rb dn n9 (n9 + 1)) (zQ_u h184 (by decide) (by simp only [e0_54, e42_44, e42_47]) rfl (by simp only [e0_54, e42_44, e42_47, e184_42, a184_n9])) (fun Z189 Z189' h189 => ?_)
        exact ⟨h189.1, rfl⟩
      · refine dlet_Z (P := zQ lb rb dn n9 (n9 + 1)) (zQ_u h68 (by decide) (by simp only [e0_54, e42_44, e42_47]) rfl (by simp only [e0_54, e42_44, e42_47, e68_42, a68_n9])) (fun Z192 Z192' h192 => ?_)
        have e192_42 : ∀ i j, Z192 42 lb i j = Z192' 42 rb i j := fun i j => h192.1 42 i j rfl
        have a192_n9 : ∀ i j, Z192 200 n9 i j = Z192' 200 (n9 + dn) i j := fun i j => h192.2 n9 i j (by omega) (by omega)
        refine dlet_Z (P := zQ lb rb dn n9 (n9 + 1)) (zQ_u h192 (by decide) (by simp only [e0_54, e42_44, e42_47]) rfl (by simp only [e0_54, e42_44, e42_47, e192_42, a192_n9])) (fun Z197 Z197' h197 => ?_)
        exact ⟨h197.1, rfl⟩
  · refine dlet_Z (P := zq lb rb) (zq_u h0 rfl rfl rfl) (fun Z199 Z199' h199 => ?_)
    exact ⟨h199, rfl⟩
theorem dl_4_2 {lb rb dn : Int} : ∀ (m : Nat) {Z Z' : qz_Z} {x2 x2' n8 : Int}, zq lb rb Z Z' → x2 = x2' → dMn (zq lb rb) dn (zl_4_2 lb m Z n8 x2) (zl_4_2 rb m Z' (n8 + dn) x2')
  | 0, Z, Z', x2, x2', n8, h0, ix2 => by
    subst ix2
    unfold zl_4_2
    exact ⟨h0, rfl, rfl⟩
  | m + 1, Z, Z', x2, x2', n8, h0, ix2 => by
    subst ix2
    have e0_11 : ∀ i j, Z 11 lb i j = Z' 11 rb i j := fun i j => h0 11 i j rfl
    have e0_54 : ∀ i j, Z 54 lb i j = Z' 54 rb i j := fun i j => h0 54 i j rfl
    unfold zl_4_2
    refine dite (by simp only [e0_11]) (fun _ => ?_) (fun _ => ?_)
    · exact ⟨h0, rfl, rfl⟩
    · refine dite (by simp only [e0_54]) (fun _ => ?_) (fun _ => ?_)
      · exact dl_4_2 m h0 rfl
      · refine dlet2n (dq_7 h0 rfl) (fun Z5 Z5' n7 h5 => ?_)
        exact dl_4_2 m h5 rfl
theorem dl_4_3 {lb rb : Int} : ∀ (m : Nat) {Z Z' : qz_Z} {x2 x2' : Int}, zq lb rb Z Z' → x2 = x2' → dMe (zq lb rb) (zl_4_3 lb m Z x2) (zl_4_3 rb m Z' x2')
  | 0, Z, Z', x2, x2', h0, ix2 => by
    subst ix2
    unfold zl_4_3
    exact ⟨h0, rfl⟩
  | m + 1, Z, Z', x2, x2', h0, ix2 => by
    subst ix2
    have e0_14 : ∀ i j, Z 14 lb i j = Z' 14 rb i j := fun i j => h0 14 i j rfl
    unfold zl_4_3
    refine dite rfl (fun _ => ?_) (fun _ => ?_)
    · exact ⟨h0, rfl⟩
    · refine dite (by simp only [e0_14]) (fun _ => ?_) (fun _ => ?_)
      · refine dite (by simp only [e0_14]) (fun _ => ?_) (fun _ => ?_)
        · refine dlet_Z (P := zq lb rb) (zq_u h0 rfl rfl (by simp only [e0_14])) (fun Z8 Z8' h8 => ?_)
          have e8_14 : ∀ i j, Z8 14 lb i j = Z8' 14 rb i j := fun i j => h8 14 i j rfl
          refine dlet_Z (P := zq lb rb) (zq_u h8 rfl rfl (by simp only [e0_14, e8_14])) (fun Z12 Z12' h12 => ?_)
          have e12_11 : ∀ i j, Z12 11 lb i j = Z12' 11 rb i j := fun i j => h12 11 i j rfl
          refine dlet_Z (P := zq lb rb) (zq_u h12 (by simp only [e12_11]) rfl rfl) (fun Z15 Z15' h15 => ?_)
          refine dlet_Z (P := zq lb rb) (zq_u h15 (by simp only [e12_11]) rfl rfl) (fun Z17 Z17' h17 => ?_)
          refine dlet_Z (P := zq lb rb) (zq_u h17 (by simp only [e12_11]) rfl (by simp only [e0_14])) (fun Z19 Z19' h19 => ?_)
          refine dlet_Z (P := zq lb rb) (zq_u h19 (by simp only [e12_11]) rfl rfl) (fun Z21 Z21' h21 => ?_)
          have e21_11 : ∀ i j, Z21 11 lb i j = Z21' 11 rb i j := fun i j => h21 11 i j rfl
          refine dlet_Z (P := zq lb rb) (zq_u h21 (by simp only [e12_11]) rfl (by simp only [e21_11])) (fun Z24 Z24' h24 => ?_)
          have e24_11 : ∀ i j, Z24 11 lb i j = Z24' 11 rb i j := fun i j => h24 11 i j rfl
          refine dlet_Z (P := zq lb rb) (zq_u h24 rfl rfl (by simp only [e24_11])) (fun Z28 Z28' h28 => ?_)
          exact dl_4_3 m h28 rfl
        · exact dl_4_3 m h0 rfl
      · refine dlet_Z (P := zq lb rb) (zq_u h0 rfl rfl (by simp only [e0_14])) (fun Z30 Z30' h30 => ?_)
        have e30_14 : ∀ i j, Z30 14 lb i j = Z30' 14 rb i j := fun i j => h30 14 i j rfl
        refine dlet_Z (P := zq lb rb) (zq_u h30 rfl rfl (by simp only [e0_14, e30_14])) (fun Z34 Z34' h34 => ?_)
        have e34_11 : ∀ i j, Z34 11 lb i j = Z34' 11 rb i j := fun i j => h34 11 i j rfl
        refine dlet_Z (P := zq lb rb) (zq_u h34 (by simp only [e34_11]) rfl rfl) (fun Z37 Z37' h37 => ?_)
        refine dlet_Z (P := zq lb rb) (zq_u h37 (by simp only [e34_11]) rfl rfl) (fun Z39 Z39' h39 => ?_)
        refine dlet_Z (P := zq lb rb) (zq_u h39 (by simp only [e34_11]) rfl (by simp only [e0_14])) (fun Z41 Z41' h41 => ?_)
        refine dlet_Z (P := zq lb rb) (zq_u h41 (by simp only [e34_11]) rfl rfl) (fun Z43 Z43' h43 => ?_)
        have e43_11 : ∀ i j, Z43 11 lb i j = Z43' 11 rb i j := fun i j => h43 11 i j rfl
        refine dlet_Z (P := zq lb rb) (zq_u h43 (by simp only [e34_11]) rfl (by simp only [e43_11])) (fun Z46 Z46' h46 => ?_)
        have e46_11 : ∀ i j, Z46 11 lb i j = Z46' 11 rb i j := fun i j => h46 11 i j rfl
        refine dlet_Z (P := zq lb rb) (zq_u h46 rfl rfl (by simp only [e46_11])) (fun Z50 Z50' h50 => ?_)
        exact dl_4_3 m h50 rfl
theorem dl_8_1 {lb rb : Int} : ∀ (m : Nat) {Z Z' : qz_Z} {x1 x1' : Int}, zq lb rb Z Z' → x1 = x1' → dMe (zq lb rb) (zl_8_1 lb m Z x1) (zl_8_1 rb m Z' x1')
  | 0, Z, Z', x1, x1', h0, ix1 => by
    subst ix1
    unfold zl_8_1
    exact ⟨h0, rfl⟩
  | m + 1, Z, Z', x1, x1', h0, ix1 => by
    subst ix1
    have e0_11 : ∀ i j, Z 11 lb i j = Z' 11 rb i j := fun i j => h0 11 i j rfl
    have e0_14 : ∀ i j, Z 14 lb i j = Z' 14 rb i j := fun i j => h0 14 i j rfl
    have e0_42 : ∀ i j, Z 42 lb i j = Z' 42 rb i j := fun i j => h0 42 i j rfl
    unfold zl_8_1
    refine dite (by simp only [e0_11]) (fun _ => ?_) (fun _ => ?_)
    · exact ⟨h0, rfl⟩
    · refine dite (by simp only [e0_42]) (fun _ => ?_) (fun _ => ?_)
      · exact dl_8_1 m h0 rfl
      · refine dlet_Z (P := zq lb rb) (zq_u h0 rfl rfl (by simp only [e0_14, e0_42])) (fun Z7 Z7' h7 => ?_)
        have e7_14 : ∀ i j, Z7 14 lb i j = Z7' 14 rb i j := fun i j => h7 14 i j rfl
        refine dlet_Z (P := zq lb rb) (zq_u h7 rfl rfl (by simp only [e0_42, e7_14])) (fun Z10 Z10' h10 => ?_)
        have e10_11 : ∀ i j, Z10 11 lb i j = Z10' 11 rb i j := fun i j => h10 11 i j rfl
        refine dlet_Z (P := zq lb rb) (zq_u h10 (by simp only [e10_11]) rfl rfl) (fun Z12 Z12' h12 => ?_)
        refine dlet_Z (P := zq lb rb) (zq_u h12 (by simp only [e10_11]) rfl rfl) (fun Z13 Z13' h13 => ?_)
        refine dlet_Z (P := zq lb rb) (zq_u h13 (by simp only [e10_11]) rfl (by simp only [e0_42])) (fun Z14 Z14' h14 => ?_)
        refine dlet_Z (P := zq lb rb) (zq_u h14 (by simp only [e10_11]) rfl rfl) (fun Z15 Z15' h15 => ?_)
        have e15_11 : ∀ i j, Z15 11 lb i j = Z15' 11 rb i j := fun i j => h15 11 i j rfl
        refine dlet_Z (P := zq lb rb) (zq_u h15 (by simp only [e10_11]) rfl (by simp only [e15_11])) (fun Z17 Z17' h17 => ?_)
        have e17_11 : ∀ i j, Z17 11 lb i j = Z17' 11 rb i j := fun i j => h17 11 i j rfl
        refine dlet_Z (P := zq lb rb) (zq_u h17 rfl rfl (by simp only [e17_11])) (fun Z20 Z20' h20 => ?_)
        have e20_42 : ∀ i j, Z20 42 lb i j = Z20' 42 rb i j := fun i j => h20 42 i j rfl
        refine dlet_Z (P := zq lb rb) (zq_u h20 rfl rfl (by simp only [e20_42])) (fun Z25 Z25' h25 => ?_)
        refine dlet_Z (P := zq lb rb) (zq_u h25 rfl rfl rfl) (fun Z26 Z26' h26 => ?_)
        exact dl_8_1 m h26 rfl
theorem dq_8 {lb rb : Int} {Z Z' : qz_Z} (h0 : zq lb rb Z Z') : zq lb rb (zf_8 Z lb) (zf_8 Z' rb) := by
  unfold zf_8
  refine dlet2 (dl_8_1 _ h0 rfl) (fun Z2 Z2' y1 h2 => ?_)
  exact h2
theorem dq_4 {lb rb dn : Int} {Z Z' : qz_Z} {n9 : Int} (h0 : zq lb rb Z Z') : dMk (zq lb rb) dn (zf_4 Z n9 lb) (zf_4 Z' (n9 + dn) rb) := by
  unfold zf_4
  refine dlet3 (dl_4_1 _ h0 rfl rfl) (fun Z3 Z3' y1 y2 h3 => ?_)
  have e3_13 : ∀ i j, Z3 13 lb i j = Z3' 13 rb i j := fun i j => h3 13 i j rfl
  have e3_14 : ∀ i j, Z3 14 lb i j = Z3' 14 rb i j := fun i j => h3 14 i j rfl
  refine dite (by simp only [e3_13]) (fun _ => ?_) (fun _ => ?_)
  · refine dlet_Z (P := zq lb rb) (zq_u h3 rfl rfl (by simp only [e3_13, e3_14])) (fun Z11 Z11' h11 => ?_)
    have e11_14 : ∀ i j, Z11 14 lb i j = Z11' 14 rb i j := fun i j => h11 14 i j rfl
    refine dlet_Z (P := zq lb rb) (zq_u h11 rfl rfl (by simp only [e3_13, e11_14])) (fun Z15 Z15' h15 => ?_)
    have e15_11 : ∀ i j, Z15 11 lb i j = Z15' 11 rb i j := fun i j => h15 11 i j rfl
    refine dlet_Z (P := zq lb rb) (zq_u h15 (by simp only [e15_11]) rfl rfl) (fun Z18 Z18' h18 => ?_)
    refine dlet_Z (P := zq lb rb) (zq_u h18 (by simp only [e15_11]) rfl rfl) (fun Z20 Z20' h20 => ?_)
    refine dlet_Z (P := zq lb rb) (zq_u h20 (by simp only [e15_11]) rfl (by simp only [e3_13])) (fun Z22 Z22' h22 => ?_)
    refine dlet_Z (P := zq lb rb) (zq_u h22 (by simp only [e15_11]) rfl rfl) (fun Z24 Z24' h24 => ?_)
    have e24_11 : ∀ i j, Z24 11 lb i j = Z24' 11 rb i j := fun i j => h24 11 i j rfl
    refine dlet_Z (P := zq lb rb) (zq_u h24 (by simp only [e15_11]) rfl (by simp only [e24_11])) (fun Z27 Z27' h27 => ?_)
    have e27_11 : ∀ i j, Z27 11 lb i j = Z27' 11 rb i j := fun i j => h27 11 i j rfl
    refine dlet_Z (P := zq lb rb) (zq_u h27 rfl rfl (by simp only [e27_11])) (fun Z31 Z31' h31 => ?_)
    refine dlet3n (dl_4_2 _ h31 rfl) (fun Z34 Z34' n37 y33 h34 => ?_)
    have e34_11 : ∀ i j, Z34 11 lb i j = Z34' 11 rb i j := fun i j => h34 11 i j rfl
    refine dite (by simp only [e34_11]) (fun _ => ?_) (fun _ => ?_)
    · refine dlet2 (dl_4_3 _ h34 rfl) (fun Z43 Z43' y42 h43 => ?_)
      exact ⟨h43, rfl⟩
    · refine dlet_Z (P := zq lb rb) (dq_8 h34) (fun Z46 Z46' h46 => ?_)
      refine dlet2 (dl_4_3 _ h46 rfl) (fun Z49 Z49' y48 h49 => ?_)
      exact ⟨h49, rfl⟩
  · refine dlet3n (dl_4_2 _ h3 rfl) (fun Z53 Z53' n56 y52 h53 => ?_)
    have e53_11 : ∀ i j, Z53 11 lb i j = Z53' 11 rb i j := fun i j => h53 11 i j rfl
    refine dite (by simp only [e53_11]) (fun _ => ?_) (fun _ => ?_)
    · refine dlet2 (dl_4_3 _ h53 rfl) (fun Z61 Z61' y60 h61 => ?_)
      exact ⟨h61, rfl⟩
    · refine dlet_Z (P := zq lb rb) (dq_8 h53) (fun Z64 Z64' h64 => ?_)
      refine dlet2 (dl_4_3 _ h64 rfl) (fun Z67 Z67' y66 h67 => ?_)
      exact ⟨h67, rfl⟩
theorem dl_118_9 {lb rb dn : Int} : ∀ (m : Nat) {Z Z' : qz_Z} {x1 x2 x1' x2' n8 : Int}, x1 = x1' → zq lb rb Z Z' → x2 = x2' → dMn (zq lb rb) dn (zl_118_9 lb x1 m Z n8 x2) (zl_118_9 rb x1' m Z' (n8 + dn) x2')
  | 0, Z, Z', x1, x2, x1', x2', n8, ix1, h0, ix2 => by
    subst ix1
    subst ix2
    unfold zl_118_9
    exact ⟨h0, rfl, rfl⟩
  | m + 1, Z, Z', x1, x2, x1', x2', n8, ix1, h0, ix2 => by
    subst ix1
    subst ix2
    have e0_11 : ∀ i j, Z 11 lb i j = Z' 11 rb i j := fun i j => h0 11 i j rfl
    unfold zl_118_9
    refine dite rfl (fun _ => ?_) (fun _ => ?_)
    · exact ⟨h0, rfl, rfl⟩
    · refine dlet_Z (P := zq lb rb) (zq_u h0 rfl rfl (by simp only [e0_11])) (fun Z3 Z3' h3 => ?_)
      refine dlet_Z (P := zq lb rb) (dq_39 h3) (fun Z5 Z5' h5 => ?_)
      refine dlet_Z (P := zq lb rb) (dq_171 h5) (fun Z6 Z6' h6 => ?_)
      refine dlet2 (dl_118_1 _ rfl rfl h6 rfl) (fun Z9 Z9' y8 h9 => ?_)
      refine dlet2 (dl_118_4 _ rfl rfl h9 rfl) (fun Z13 Z13' y12 h13 => ?_)
      refine dlet3n (dl_118_5 _ rfl rfl h13 rfl) (fun Z17 Z17' n20 y16 h17 => ?_)
      have e17_11 : ∀ i j, Z17 11 lb i j = Z17' 11 rb i j := fun i j => h17 11 i j rfl
      refine dite (by simp only [e17_11]) (fun _ => ?_) (fun _ => ?_)
      · exact dl_118_9 m rfl h17 rfl
      · refine dlet_Z (P := zq lb rb) (dq_17 h17) (fun Z24 Z24' h24 => ?_)
        refine dlet2n (dq_4 h24) (fun Z26 Z26' n28 h26 => ?_)
        exact dl_118_9 m rfl h26 rfl
theorem dq_118 {lb rb dn : Int} {Z Z' : qz_Z} {a1 a1' n9 : Int} (h0 : zq lb rb Z Z') (ia1 : a1 = a1') : dMn (zq lb rb) dn (zf_118 Z n9 lb a1) (zf_118 Z' (n9 + dn) rb a1') := by
  subst ia1
  unfold zf_118
  refine dlet3n (dl_118_9 _ rfl h0 rfl) (fun Z3 Z3' n6 y2 h3 => ?_)
  have e3_11 : ∀ i j, Z3 11 lb i j = Z3' 11 rb i j := fun i j => h3 11 i j rfl
  exact ⟨h3, rfl, (by simp only [e3_11])⟩
theorem dl_95_1 {lb rb : Int} : ∀ (m : Nat) {Z Z' : qz_Z} {x5ij x1 x2 x3 x6 x7 x8 x9 x10 x5ij' x1' x2' x3' x6' x7' x8' x9' x10' : Int}, x5ij = x5ij' → x1 = x1' → x2 = x2' → x3 = x3' → zq lb rb Z Z' → x6 = x6' → x7 = x7' → x8 = x8' → x9 = x9' → x10 = x10' → zl_95_1 lb x5ij x1 x2 x3 m Z x6 x7 x8 x9 x10 = zl_95_1 rb x5ij' x1' x2' x3' m Z' x6' x7' x8' x9' x10'
  | 0, Z, Z', x5ij, x1, x2, x3, x6, x7, x8, x9, x10, x5ij', x1', x2', x3', x6', x7', x8', x9', x10', ix5ij, ix1, ix2, ix3, h0, ix6, ix7, ix8, ix9, ix10 => by
    subst ix5ij
    subst ix1
    subst ix2
    subst ix3
    subst ix6
    subst ix7
    subst ix8
    subst ix9
    subst ix10
    unfold zl_95_1
    exact rfl
  | m + 1, Z, Z', x5ij, x1, x2, x3, x6, x7, x8, x9, x10, x5ij', x1', x2', x3', x6', x7', x8', x9', x10', ix5ij, ix1, ix2, ix3, h0, ix6, ix7, ix8, ix9, ix10 => by
    subst ix5ij
    subst ix1
    subst ix2
    subst ix3
    subst ix6
    subst ix7
    subst ix8
    subst ix9
    subst ix10
    unfold zl_95_1
    refine dite rfl (fun _ => ?_) (fun _ => ?_)
    · exact rfl
    · refine dite rfl (fun _ => ?_) (fun _ => ?_)
      · exact rfl
      · refine dite rfl (fun _ => ?_) (fun _ => ?_)
        · exact dl_95_1 m rfl rfl rfl rfl h0 rfl rfl rfl rfl rfl
        · exact dl_95_1 m rfl rfl rfl rfl h0 rfl rfl rfl rfl rfl
theorem dq_95 {lb rb : Int} {Z Z' : qz_Z} {a1 a2 a3 a4 a1' a2' a3' a4' : Int} (h0 : zq lb rb Z Z') (ia1 : a1 = a1') (ia2 : a2 = a2') (ia3 : a3 = a3') (ia4 : a4 = a4') : dMe (zq lb rb) (zf_95 Z lb a1 a2 a3 a4) (zf_95 Z' rb a1' a2' a3' a4') := by
  subst ia1
  subst ia2
  subst ia3
  subst ia4
  have e0_44 : ∀ i j, Z 44 lb i j = Z' 44 rb i j := fun i j => h0 44 i j rfl
  have p0_100 : ∀ u3 : Int, zf_100 Z lb lb u3 = zf_100 Z' rb rb u3 := fun u3 => dq_100 h0 rfl
  unfold zf_95
  refine dlet5e (dl_95_1 _ rfl rfl rfl rfl h0 (by simp only [e0_44]) (by simp only [e0_44]) rfl rfl rfl) (fun y3 y4 y5 y6 y7 => ?_)
  refine dite rfl (fun _ => ?_) (fun _ => ?_)
  · refine dite rfl (fun _ => ?_) (fun _ => ?_)
    · refine dite rfl (fun _ => ?_) (fun _ => ?_)
      · refine dlet_i (by simp only [p0_100]) (fun v12 => ?_)
        refine dlet_Z (P := zq lb rb) (zq_u h0 rfl rfl rfl) (fun Z13 Z13' h13 => ?_)
        have e13_44 : ∀ i j, Z13 44 lb i j = Z13' 44 rb i j := fun i j => h13 44 i j rfl
        refine dlet_Z (P := zq lb rb) (zq_u h13 rfl rfl (by simp only [e13_44])) (fun Z16 Z16' h16 => ?_)
        refine dlet_Z (P := zq lb rb) (zq_u h16 rfl rfl rfl) (fun Z17 Z17' h17 => ?_)
        have e17_13 : ∀ i j, Z17 13 lb i j = Z17' 13 rb i j := fun i j => h17 13 i j rfl
        have e17_14 : ∀ i j, Z17 14 lb i j = Z17' 14 rb i j := fun i j => h17 14 i j rfl
        have e17_44 : ∀ i j, Z17 44 lb i j = Z17' 44 rb i j := fun i j => h17 44 i j rfl
        refine dite (by simp only [e17_13]) (fun _ => ?_) (fun _ => ?_)
        · refine dlet_Z (P := zq lb rb) (zq_u h17 rfl rfl (by simp only [e17_13, e17_14])) (fun Z23 Z23' h23 => ?_)
          have e23_14 : ∀ i j, Z23 14 lb i j = Z23' 14 rb i j := fun i j => h23 14 i j rfl
          refine dlet_Z (P := zq lb rb) (zq_u h23 rfl rfl (by simp only [e17_13, e23_14])) (fun Z26 Z26' h26 => ?_)
          have e26_11 : ∀ i j, Z26 11 lb i j = Z26' 11 rb i j := fun i j => h26 11 i j rfl
          refine dlet_Z (P := zq lb rb) (zq_u h26 (by simp only [e26_11]) rfl rfl) (fun Z28 Z28' h28 => ?_)
          refine dlet_Z (P := zq lb rb) (zq_u h28 (by simp only [e26_11]) rfl rfl) (fun Z29 Z29' h29 => ?_)
          refine dlet_Z (P := zq lb rb) (zq_u h29 (by simp only [e26_11]) rfl (by simp only [e17_13])) (fun Z30 Z30' h30 => ?_)
          refine dlet_Z (P := zq lb rb) (zq_u h30 (by simp only [e26_11]) rfl rfl) (fun Z31 Z31' h31 => ?_)
          have e31_11 : ∀ i j, Z31 11 lb i j = Z31' 11 rb i j := fun i j => h31 11 i j rfl
          refine dlet_Z (P := zq lb rb) (zq_u h31 (by simp only [e26_11]) rfl (by simp only [e31_11])) (fun Z33 Z33' h33 => ?_)
          have e33_11 : ∀ i j, Z33 11 lb i j = Z33' 11 rb i j := fun i j => h33 11 i j rfl
          refine dlet_Z (P := zq lb rb) (zq_u h33 rfl rfl (by simp only [e33_11])) (fun Z36 Z36' h36 => ?_)
          have e36_44 : ∀ i j, Z36 44 lb i j = Z36' 44 rb i j := fun i j => h36 44 i j rfl
          exact ⟨h36, (by simp only [e36_44])⟩
        · exact ⟨h17, (by simp only [e17_44])⟩
      · refine dlet_i (by simp only [p0_100]) (fun v41 => ?_)
        refine dlet_Z (P := zq lb rb) (zq_u h0 rfl rfl rfl) (fun Z42 Z42' h42 => ?_)
        have e42_44 : ∀ i j, Z42 44 lb i j = Z42' 44 rb i j := fun i j => h42 44 i j rfl
        refine dlet_Z (P := zq lb rb) (zq_u h42 rfl rfl (by simp only [e42_44])) (fun Z45 Z45' h45 => ?_)
        refine dlet_Z (P := zq lb rb) (zq_u h45 rfl rfl rfl) (fun Z46 Z46' h46 => ?_)
        have e46_13 : ∀ i j, Z46 13 lb i j = Z46' 13 rb i j := fun i j => h46 13 i j rfl
        have e46_14 : ∀ i j, Z46 14 lb i j = Z46' 14 rb i j := fun i j => h46 14 i j rfl
        have e46_44 : ∀ i j, Z46 44 lb i j = Z46' 44 rb i j := fun i j => h46 44 i j rfl
        refine dite (by simp only [e46_13]) (fun _ => ?_) (fun _ => ?_)
        · refine dlet_Z (P := zq lb rb) (zq_u h46 rfl rfl (by simp only [e46_13, e46_14])) (fun Z52 Z52' h52 => ?_)
          have e52_14 : ∀ i j, Z52 14 lb i j = Z52' 14 rb i j := fun i j => h52 14 i j rfl
          refine dlet_Z (P := zq lb rb) (zq_u h52 rfl rfl (by simp only [e46_13, e52_14])) (fun Z55 Z55' h55 => ?_)
          have e55_11 : ∀ i j, Z55 11 lb i j = Z55' 11 rb i j := fun i j => h55 11 i j rfl
          refine dlet_Z (P := zq lb rb) (zq_u h55 (by simp only [e55_11]) rfl rfl) (fun Z57 Z57' h57 => ?_)
          refine dlet_Z (P := zq lb rb) (zq_u h57 (by simp only [e55_11]) rfl rfl) (fun Z58 Z58' h58 => ?_)
          refine dlet_Z (P := zq lb rb) (zq_u h58 (by simp only [e55_11]) rfl (by simp only [e46_13])) (fun Z59 Z59' h59 => ?_)
          refine dlet_Z (P := zq lb rb) (zq_u h59 (by simp only [e55_11]) rfl rfl) (fun Z60 Z60' h60 => ?_)
          have e60_11 : ∀ i j, Z60 11 lb i j = Z60' 11 rb i j := fun i j => h60 11 i j rfl
          refine dlet_Z (P := zq lb rb) (zq_u h60 (by simp only [e55_11]) rfl (by simp only [e60_11])) (fun Z62 Z62' h62 => ?_)
          have e62_11 : ∀ i j, Z62 11 lb i j = Z62' 11 rb i j := fun i j => h62 11 i j rfl
          refine dlet_Z (P := zq lb rb) (zq_u h62 rfl rfl (by simp only [e62_11])) (fun Z65 Z65' h65 => ?_)
          have e65_44 : ∀ i j, Z65 44 lb i j = Z65' 44 rb i j := fun i j => h65 44 i j rfl
          exact ⟨h65, (by simp only [e65_44])⟩
        · exact ⟨h46, (by simp only [e46_44])⟩
    · refine dlet_i (by simp only [p0_100]) (fun v70 => ?_)
      refine dlet_Z (P := zq lb rb) (zq_u h0 rfl rfl rfl) (fun Z71 Z71' h71 => ?_)
      have e71_44 : ∀ i j, Z71 44 lb i j = Z71' 44 rb i j := fun i j => h71 44 i j rfl
      refine dlet_Z (P := zq lb rb) (zq_u h71 rfl rfl (by simp only [e71_44])) (fun Z74 Z74' h74 => ?_)
      refine dlet_Z (P := zq lb rb) (zq_u h74 rfl rfl rfl) (fun Z75 Z75' h75 => ?_)
      have e75_13 : ∀ i j, Z75 13 lb i j = Z75' 13 rb i j := fun i j => h75 13 i j rfl
      have e75_14 : ∀ i j, Z75 14 lb i j = Z75' 14 rb i j := fun i j => h75 14 i j rfl
      have e75_44 : ∀ i j, Z75 44 lb i j = Z75' 44 rb i j := fun i j => h75 44 i j rfl
      refine dite (by simp only [e75_13]) (fun _ => ?_) (fun _ => ?_)
      · refine dlet_Z (P := zq lb rb) (zq_u h75 rfl rfl (by simp only [e75_13, e75_14])) (fun Z81 Z81' h81 => ?_)
        have e81_14 : ∀ i j, Z81 14 lb i j = Z81' 14 rb i j := fun i j => h81 14 i j rfl
        refine dlet_Z (P := zq lb rb) (zq_u h81 rfl rfl (by simp only [e75_13, e81_14])) (fun Z84 Z84' h84 => ?_)
        have e84_11 : ∀ i j, Z84 11 lb i j = Z84' 11 rb i j := fun i j => h84 11 i j rfl
        refine dlet_Z (P := zq lb rb) (zq_u h84 (by simp only [e84_11]) rfl rfl) (fun Z86 Z86' h86 => ?_)
        refine dlet_Z (P := zq lb rb) (zq_u h86 (by simp only [e84_11]) rfl rfl) (fun Z87 Z87' h87 => ?_)
        refine dlet_Z (P := zq lb rb) (zq_u h87 (by simp only [e84_11]) rfl (by simp only [e75_13])) (fun Z88 Z88' h88 => ?_)
        refine dlet_Z (P := zq lb rb) (zq_u h88 (by simp only [e84_11]) rfl rfl) (fun Z89 Z89' h89 => ?_)
        have e89_11 : ∀ i j, Z89 11 lb i j = Z89' 11 rb i j := fun i j => h89 11 i j rfl
        refine dlet_Z (P := zq lb rb) (zq_u h89 (by simp only [e84_11]) rfl (by simp only [e89_11])) (fun Z91 Z91' h91 => ?_)
        have e91_11 : ∀ i j, Z91 11 lb i j = Z91' 11 rb i j := fun i j => h91 11 i j rfl
        refine dlet_Z (P := zq lb rb) (zq_u h91 rfl rfl (by simp only [e91_11])) (fun Z94 Z94' h94 => ?_)
        have e94_44 : ∀ i j, Z94 44 lb i j = Z94' 44 rb i j := fun i j => h94 44 i j rfl
        exact ⟨h94, (by simp only [e94_44])⟩
      · exact ⟨h75, (by simp only [e75_44])⟩
  · refine dlet_i (by simp only [p0_100]) (fun v99 => ?_)
    refine dlet_Z (P := zq lb rb) (zq_u h0 rfl rfl rfl) (fun Z100 Z100' h100 => ?_)
    have e100_44 : ∀ i j, Z100 44 lb i j = Z100' 44 rb i j := fun i j => h100 44 i j rfl
    refine dlet_Z (P := zq lb rb) (zq_u h100 rfl rfl (by simp only [e100_44])) (fun Z103 Z103' h103 => ?_)
    refine dlet_Z (P := zq lb rb) (zq_u h103 rfl rfl rfl) (fun Z104 Z104' h104 => ?_)
    have e104_13 : ∀ i j, Z104 13 lb i j = Z104' 13 rb i j := fun i j => h104 13 i j rfl
    have e104_14 : ∀ i j, Z104 14 lb i j = Z104' 14 rb i j := fun i j => h104 14 i j rfl
    have e104_44 : ∀ i j, Z104 44 lb i j = Z104' 44 rb i j := fun i j => h104 44 i j rfl
    refine dite (by simp only [e104_13]) (fun _ => ?_) (fun _ => ?_)
    · refine dlet_Z (P := zq lb rb) (zq_u h104 rfl rfl (by simp only [e104_13, e104_14])) (fun Z110 Z110' h110 => ?_)
      have e110_14 : ∀ i j, Z110 14 lb i j = Z110' 14 rb i j := fun i j => h110 14 i j rfl
      refine dlet_Z (P := zq lb rb) (zq_u h110 rfl rfl (by simp only [e104_13, e110_14])) (fun Z113 Z113' h113 => ?_)
      have e113_11 : ∀ i j, Z113 11 lb i j = Z113' 11 rb i j := fun i j => h113 11 i j rfl
      refine dlet_Z (P := zq lb rb) (zq_u h113 (by simp only [e113_11]) rfl rfl) (fun Z115 Z115' h115 => ?_)
      refine dlet_Z (P := zq lb rb) (zq_u h115 (by simp only [e113_11]) rfl rfl) (fun Z116 Z116' h116 => ?_)
      refine dlet_Z (P := zq lb rb) (zq_u h116 (by simp only [e113_11]) rfl (by simp only [e104_13])) (fun Z117 Z117' h117 => ?_)
      refine dlet_Z (P := zq lb rb) (zq_u h117 (by simp only [e113_11]) rfl rfl) (fun Z118 Z118' h118 => ?_)
      have e118_11 : ∀ i j, Z118 11 lb i j = Z118' 11 rb i j := fun i j => h118 11 i j rfl
      refine dlet_Z (P := zq lb rb) (zq_u h118 (by simp only [e113_11]) rfl (by simp only [e118_11])) (fun Z120 Z120' h120 => ?_)
      have e120_11 : ∀ i j, Z120 11 lb i j = Z120' 11 rb i j := fun i j => h120 11 i j rfl
      refine dlet_Z (P := zq lb rb) (zq_u h120 rfl rfl (by simp only [e120_11])) (fun Z123 Z123' h123 => ?_)
      have e123_44 : ∀ i j, Z123 44 lb i j = Z123' 44 rb i j := fun i j => h123 44 i j rfl
      exact ⟨h123, (by simp only [e123_44])⟩
    · exact ⟨h104, (by simp only [e104_44])⟩
theorem dl_182_1 {lb rb : Int} : ∀ (m : Nat) {Z Z' : qz_Z} {x1 x2 x3 x1' x2' x3' : Int}, x1 = x1' → zq lb rb Z Z' → x2 = x2' → x3 = x3' → zl_182_1 lb x1 m Z x2 x3 = zl_182_1 rb x1' m Z' x2' x3'
  | 0, Z, Z', x1, x2, x3, x1', x2', x3', ix1, h0, ix2, ix3 => by
    subst ix1
    subst ix2
    subst ix3
    unfold zl_182_1
    exact rfl
  | m + 1, Z, Z', x1, x2, x3, x1', x2', x3', ix1, h0, ix2, ix3 => by
    subst ix1
    subst ix2
    subst ix3
    have e0_11 : ∀ i j, Z 11 lb i j = Z' 11 rb i j := fun i j => h0 11 i j rfl
    have e0_44 : ∀ i j, Z 44 lb i j = Z' 44 rb i j := fun i j => h0 44 i j rfl
    unfold zl_182_1
    refine dite (by simp only [e0_11]) (fun _ => ?_) (fun _ => ?_)
    · exact rfl
    · refine dite (by simp only [e0_44]) (fun _ => ?_) (fun _ => ?_)
      · exact dl_182_1 m rfl h0 rfl rfl
      · exact dl_182_1 m rfl h0 rfl rfl
theorem dq_182 {lb rb : Int} {Z Z' : qz_Z} {a1 a1' : Int} (h0 : zq lb rb Z Z') (ia1 : a1 = a1') : zf_182 Z lb a1 = zf_182 Z' rb a1' := by
  subst ia1
  unfold zf_182
  refine dlet2e (dl_182_1 _ rfl h0 rfl rfl) (fun y1 y2 => ?_)
  exact rfl
theorem dl_43_1 {lb rb : Int} : ∀ (m : Nat) {Z Z' : qz_Z} {x1 x2 x3 x1' x2' x3' : Int}, x1 = x1' → zq lb rb Z Z' → x2 = x2' → x3 = x3' → zl_43_1 lb x1 m Z x2 x3 = zl_43_1 rb x1' m Z' x2' x3'
  | 0, Z, Z', x1, x2, x3, x1', x2', x3', ix1, h0, ix2, ix3 => by
    subst ix1
    subst ix2
    subst ix3
    unfold zl_43_1
    exact rfl
  | m + 1, Z, Z', x1, x2, x3, x1', x2', x3', ix1, h0, ix2, ix3 => by
    subst ix1
    subst ix2
    subst ix3
    have e0_11 : ∀ i j, Z 11 lb i j = Z' 11 rb i j := fun i j => h0 11 i j rfl
    have e0_47 : ∀ i j, Z 47 lb i j = Z' 47 rb i j := fun i j => h0 47 i j rfl
    unfold zl_43_1
    refine dite (by simp only [e0_11]) (fun _ => ?_) (fun _ => ?_)
    · exact rfl
    · refine dite (by simp only [e0_47]) (fun _ => ?_) (fun _ => ?_)
      · exact dl_43_1 m rfl h0 rfl rfl
      · exact dl_43_1 m rfl h0 (by simp only [e0_47]) rfl
theorem dq_43 {lb rb : Int} {Z Z' : qz_Z} {a1 a1' : Int} (h0 : zq lb rb Z Z') (ia1 : a1 = a1') : zf_43 Z lb a1 = zf_43 Z' rb a1' := by
  subst ia1
  unfold zf_43
  refine dlet2e (dl_43_1 _ rfl h0 rfl rfl) (fun y1 y2 => ?_)
  exact rfl
theorem dl_109_1 {lb rb : Int} : ∀ (m : Nat) {Z Z' : qz_Z} {x1 x2 x3 x1' x2' x3' : Int}, x1 = x1' → zq lb rb Z Z' → x2 = x2' → x3 = x3' → zl_109_1 lb x1 m Z x2 x3 = zl_109_1 rb x1' m Z' x2' x3'
  | 0, Z, Z', x1, x2, x3, x1', x2', x3', ix1, h0, ix2, ix3 => by
    subst ix1
    subst ix2
    subst ix3
    unfold zl_109_1
    exact rfl
  | m + 1, Z, Z', x1, x2, x3, x1', x2', x3', ix1, h0, ix2, ix3 => by
    subst ix1
    subst ix2
    subst ix3
    have e0_11 : ∀ i j, Z 11 lb i j = Z' 11 rb i j := fun i j => h0 11 i j rfl
    have e0_47 : ∀ i j, Z 47 lb i j = Z' 47 rb i j := fun i j => h0 47 i j rfl
    unfold zl_109_1
    refine dite (by simp only [e0_11]) (fun _ => ?_) (fun _ => ?_)
    · exact rfl
    · refine dite (by simp only [e0_47]) (fun _ => ?_) (fun _ => ?_)
      · exact dl_109_1 m rfl h0 rfl rfl
      · refine dite (by simp only [e0_47]) (fun _ => ?_) (fun _ => ?_)
        · exact dl_109_1 m rfl h0 rfl rfl
        · exact dl_109_1 m rfl h0 rfl rfl
theorem dq_109 {lb rb : Int} {Z Z' : qz_Z} {a1 a1' : Int} (h0 : zq lb rb Z Z') (ia1 : a1 = a1') : zf_109 Z lb a1 = zf_109 Z' rb a1' := by
  subst ia1
  unfold zf_109
  refine dlet2e (dl_109_1 _ rfl h0 rfl rfl) (fun y1 y2 => ?_)
  exact rfl
theorem dq_50 {lb rb : Int} {Z Z' : qz_Z} {a1 a2 a1' a2' : Int} (h0 : zq lb rb Z Z') (ia1 : a1 = a1') (ia2 : a2 = a2') : dMe (zq lb rb) (zf_50 Z lb a1 a2) (zf_50 Z' rb a1' a2') := by
  subst ia1
  subst ia2
  have e0_47 : ∀ i j, Z 47 lb i j = Z' 47 rb i j := fun i j => h0 47 i j rfl
  unfold zf_50
  refine dlet_Z (P := zq lb rb) (zq_u h0 rfl rfl rfl) (fun Z2 Z2' h2 => ?_)
  refine dlet_Z (P := zq lb rb) (zq_u h2 rfl rfl rfl) (fun Z3 Z3' h3 => ?_)
  have e3_44 : ∀ i j, Z3 44 lb i j = Z3' 44 rb i j := fun i j => h3 44 i j rfl
  refine dlet_Z (P := zq lb rb) (zq_u h3 rfl rfl (by simp only [e0_47, e3_44])) (fun Z5 Z5' h5 => ?_)
  have e5_44 : ∀ i j, Z5 44 lb i j = Z5' 44 rb i j := fun i j => h5 44 i j rfl
  refine dlet_Z (P := zq lb rb) (zq_u h5 rfl rfl (by simp only [e0_47, e5_44])) (fun Z7 Z7' h7 => ?_)
  have e7_11 : ∀ i j, Z7 11 lb i j = Z7' 11 rb i j := fun i j => h7 11 i j rfl
  refine dlet_Z (P := zq lb rb) (zq_u h7 rfl rfl (by simp only [e7_11])) (fun Z9 Z9' h9 => ?_)
  have e9_44 : ∀ i j, Z9 44 lb i j = Z9' 44 rb i j := fun i j => h9 44 i j rfl
  refine dlet_Z (P := zq lb rb) (zq_u h9 rfl rfl (by simp only [e0_47, e9_44])) (fun Z12 Z12' h12 => ?_)
  have e12_44 : ∀ i j, Z12 44 lb i j = Z12' 44 rb i j := fun i j => h12 44 i j rfl
  refine dlet_Z (P := zq lb rb) (zq_u h12 rfl rfl (by simp only [e0_47, e12_44])) (fun Z15 Z15' h15 => ?_)
  have e15_44 : ∀ i j, Z15 44 lb i j = Z15' 44 rb i j := fun i j => h15 44 i j rfl
  have e15_47 : ∀ i j, Z15 47 lb i j = Z15' 47 rb i j := fun i j => h15 47 i j rfl
  have p15_109 : ∀ u2 : Int, zf_109 Z15 lb u2 = zf_109 Z15' rb u2 := fun u2 => dq_109 h15 rfl
  have p15_43 : ∀ u2 : Int, zf_43 Z15 lb u2 = zf_43 Z15' rb u2 := fun u2 => dq_43 h15 rfl
  refine dite (by simp only [e15_44, e15_47]) (fun _ => ?_) (fun _ => ?_)
  · refine dlet_i (by simp only [p15_43]) (fun v20 => ?_)
    exact ⟨h15, rfl⟩
  · refine dite (by simp only [e15_44, e15_47]) (fun _ => ?_) (fun _ => ?_)
    · refine dlet_i (by simp only [p15_43]) (fun v23 => ?_)
      exact ⟨h15, rfl⟩
    · refine dlet_i (by simp only [e15_47, p15_109]) (fun v24 => ?_)
      refine dite rfl (fun _ => ?_) (fun _ => ?_)
      · refine dlet_i (by simp only [p15_43]) (fun v26 => ?_)
        exact ⟨h15, rfl⟩
      · refine dlet_Z (P := zq lb rb) (zq_u h15 (by simp only [e15_47]) rfl rfl) (fun Z27 Z27' h27 => ?_)
        refine dlet_Z (P := zq lb rb) (dq_175 h27 (by simp only [e15_47]) rfl) (fun Z28 Z28' h28 => ?_)
        have p28_43 : ∀ u2 : Int, zf_43 Z28 lb u2 = zf_43 Z28' rb u2 := fun u2 => dq_43 h28 rfl
        refine dlet_i (by simp only [p28_43]) (fun v29 => ?_)
        exact ⟨h28, rfl⟩
theorem dq_121 {lb rb : Int} {Z Z' : qz_Z} (s68 : ∀ i j k, Z 68 i j k = Z' 68 i j k) (h0 : zq lb rb Z Z') : dMe (zq lb rb) (zf_121 Z lb) (zf_121 Z' rb) := by
  have e0_46 : ∀ i j, Z 46 lb i j = Z' 46 rb i j := fun i j => h0 46 i j rfl
  have e0_48 : ∀ i j, Z 48 lb i j = Z' 48 rb i j := fun i j => h0 48 i j rfl
  have e0_50 : ∀ i j, Z 50 lb i j = Z' 50 rb i j := fun i j => h0 50 i j rfl
  have e0_68 := s68
  unfold zf_121
  refine dite (by simp only [e0_68]) (fun _ => ?_) (fun _ => ?_)
  · refine dite (by simp only [e0_68]) (fun _ => ?_) (fun _ => ?_)
    · refine dlet_Z (P := zq lb rb) (dq_175 h0 (by simp only [e0_68]) (by simp only [e0_68])) (fun Z9 Z9' h9 => ?_)
      have e9_43 : ∀ i j, Z9 43 lb i j = Z9' 43 rb i j := fun i j => h9 43 i j rfl
      have p9_182 : ∀ u2 : Int, zf_182 Z9 lb u2 = zf_182 Z9' rb u2 := fun u2 => dq_182 h9 rfl
      refine dlet_i (by simp only [e0_68, p9_182]) (fun v10 => ?_)
      exact ⟨h9, (by simp only [e0_68, e9_43])⟩
    · refine dlet_Z (P := zq lb rb) (dq_175 h0 (by simp only [e0_68]) rfl) (fun Z12 Z12' h12 => ?_)
      have p12_182 : ∀ u2 : Int, zf_182 Z12 lb u2 = zf_182 Z12' rb u2 := fun u2 => dq_182 h12 rfl
      refine dlet_i (by simp only [p12_182]) (fun v13 => ?_)
      exact ⟨h12, rfl⟩
  · refine dite (by simp only [e0_68]) (fun _ => ?_) (fun _ => ?_)
    · refine dlet2 (dq_105 h0 (by simp only [e0_68]) rfl) (fun Z15 Z15' v16 h15 => ?_)
      exact ⟨h15, rfl⟩
    · refine dite (by simp only [e0_68]) (fun _ => ?_) (fun _ => ?_)
      · refine dlet_Z (P := zq lb rb) (zq_u h0 (by simp only [e0_68]) rfl rfl) (fun Z18 Z18' h18 => ?_)
        refine dlet_Z (P := zq lb rb) (zq_u h18 (by simp only [e0_68]) rfl rfl) (fun Z19 Z19' h19 => ?_)
        exact ⟨h19, (by simp only [e0_46, e0_68])⟩
      · refine dite (by simp only [e0_68]) (fun _ => ?_) (fun _ => ?_)
        · refine dlet_Z (P := zq lb rb) (zq_u h0 (by simp only [e0_68]) rfl rfl) (fun Z22 Z22' h22 => ?_)
          refine dlet_Z (P := zq lb rb) (zq_u h22 (by simp only [e0_48, e0_68]) rfl (by simp only [e0_68])) (fun Z23 Z23' h23 => ?_)
          refine dlet_Z (P := zq lb rb) (zq_u h23 (by simp only [e0_48, e0_68]) rfl (by simp only [e0_68])) (fun Z24 Z24' h24 => ?_)
          refine dlet_Z (P := zq lb rb) (zq_u h24 (by simp only [e0_48, e0_68]) rfl (by simp only [e0_68])) (fun Z25 Z25' h25 => ?_)
          have e25_48 : ∀ i j, Z25 48 lb i j = Z25' 48 rb i j := fun i j => h25 48 i j rfl
          refine dlet_Z (P := zq lb rb) (zq_u h25 (by simp only [e0_68]) rfl (by simp only [e0_68, e25_48])) (fun Z28 Z28' h28 => ?_)
          exact ⟨h28, (by simp only [e0_48, e0_68])⟩
        · refine dite (by simp only [e0_68]) (fun _ => ?_) (fun _ => ?_)
          · refine dlet2 (dq_76 h0 (by simp only [e0_68])) (fun Z32 Z32' v33 h32 => ?_)
            exact ⟨h32, rfl⟩
          · refine dite (by simp only [e0_68]) (fun _ => ?_) (fun _ => ?_)
            · refine dlet2 (dq_50 h0 (by simp only [e0_68]) (by simp only [e0_68])) (fun Z35 Z35' v36 h35 => ?_)
              exact ⟨h35, rfl⟩
            · refine dlet_Z (P := zq lb rb) (zq_u h0 (by simp only [e0_68]) rfl (by simp only [e0_68])) (fun Z37 Z37' h37 => ?_)
              exact ⟨h37, (by simp only [e0_50, e0_68])⟩
