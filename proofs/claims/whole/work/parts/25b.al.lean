/-! handlers; what is made on the way (out of 75.wr) -/
def Hn (hs : List (Nat × Nat)) (μ : qz_M) (e : Nat) (R : wz_R) : Prop := match hs with
  | [] => False
  | (a, b) :: t => bif Nat.beq a e then wz_wr (qz_al μ 99 0 0 0 0) (fun μ3 => R μ3 (.inl (some (.inl (i3 b))))) else Hn t μ e R
def tcL (hs : List (Nat × Nat)) (E : Int) : Int := match hs with
  | [] => 0
  | (a, b) :: t => if E = a then b else tcL t E
def zzr (Z : qz_Z) (n : Nat) : qz_Z := fun k b i j => if k = 200 ∧ b = (n : Int) then 0 else Z k b i j
theorem zm_al {Z : qz_Z} {ν : qz_N} {t c l k s : Nat} : qz_al (zm Z ν) t c l k s = zm (zzr Z ν.2.2.2.1) ((qz_alr (zm Z ν) t c l k s (fun _ => none)).2) := by
  refine Prod.ext (funext fun k' => funext fun b => funext fun i => funext fun j => ?_) rfl
  show (if k' = 200 ∧ b = ν.2.2.2.1 then (0 : Int32) else i3 (Z k' b i j)) = i3 (if k' = 200 ∧ (b : Int) = (ν.2.2.2.1 : Int) then 0 else Z k' b i j)
  by_cases h : k' = 200 ∧ b = ν.2.2.2.1
  · rw [if_pos h, if_pos ⟨h.1, by rw [h.2]⟩]; rfl
  · rw [if_neg h, if_neg (fun q => h ⟨q.1, by have := q.2; omega⟩)]
theorem zzr_I {Z : qz_Z} {n : Nat} (h : zI none Z) : zI none (zzr Z n) := by
  refine ⟨fun k b i j hk => ?_, fun k b i j => ?_, fun m hm => (by cases hm), fun hm => (by cases hm)⟩
  · show (zr k j).1 ≤ (if _ then 0 else Z k b i j) ∧ (if _ then 0 else Z k b i j) ≤ (zr k j).2
    split
    · exact zr_0 k j
    · exact h.1 _ _ _ _ hk
  · show -2147483648 ≤ (if _ then 0 else Z k b i j) ∧ (if _ then 0 else Z k b i j) ≤ 2147483647
    split
    · decide
    · exact h.2.1 _ _ _ _
