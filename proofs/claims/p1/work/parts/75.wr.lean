/-! A CALL OF BOTH, at a new object: through the wrapper. -/
/-- the state ahead of the reference's call -/
def zSt (Z : qz_Z) (ν : qz_N) : Prop := zI none Z ∧ zFm Z ∧ (ν.2.2.1 0 = (60, 1, 7) ∧ 1 ≤ ν.2.2.2.1) ∧ ν.2.1 1 0 0 36 = some (102, 0, 0) ∧ ν.2.2.2.2.1 ≤ 100000 ∧ ν.2.2.2.2.2 ≤ 3000000
theorem zS_tag {Z Z1 : qz_Z} {ν : qz_N} (h : zSt Z ν) : qz_tag (zm Z1 ν) (200, 0, 0) = 60 := by
  show (bif Nat.beq 200 200 then (bif Nat.blt 0 (ν.2.2.1 0).2.1 then (ν.2.2.1 0).1 else 255) else _) = 60
  rw [h.2.2.1.1]
  rfl
theorem zS_len {Z Z1 : qz_Z} {ν : qz_N} (h : zSt Z ν) : qz_len (zm Z1 ν) (200, 0, 0) = 7 := by
  show (bif Nat.beq 200 200 then (ν.2.2.1 0).2.2 else _) = 7
  rw [h.2.2.1.1]
  rfl
theorem zS_t {Z Z1 : qz_Z} {ν : qz_N} (h : zSt Z ν) : Nat.beq (qz_tag (zm Z1 ν) (200, 0, 0)) 60 = true := by rw [zS_tag h]; rfl
theorem zS_o {Z Z1 : qz_Z} {ν : qz_N} (h : zSt Z ν) {a : Int32} (ha : pz_out a 7 = false) : pz_out a (qz_len (zm Z1 ν) (200, 0, 0)) = false := by rw [zS_len h]; exact ha
/-- handlers -/
def Hn (hs : List (Nat × Nat)) (μ : qz_M) (e : Nat) (R : wz_R) : Prop := match hs with
  | [] => False
  | (a, b) :: t => bif Nat.beq a e then wz_wr (qz_al μ 99 0 0 0 0) (fun μ3 => R μ3 (.inl (some (.inl (i3 b))))) else Hn t μ e R
def tcL (hs : List (Nat × Nat)) (E : Int) : Int := match hs with
  | [] => 0
  | (a, b) :: t => if E = a then b else tcL t E
def zzr (Z : qz_Z) (n : Nat) : qz_Z := fun k b i j => if k = 200 ∧ b = (n : Int) then 0 else Z k b i j
theorem zm_al {Z : qz_Z} {ν : qz_N} {t c l k s : Nat} : qz_al (zm Z ν) t c l k s = zm (zzr Z ν.2.2.2.1) ((qz_alr (zm Z ν) t c l k s (fun _ => none)).2) := by
  refine Prod.ext (funext fun k' => funext fun b => funext fun i => funext fun j => ?_) rfl
  show (if k' = 200 ∧ b = ν.2.2.2.1 then (0 : Int32) else i3 (Z k' b i j)) = i3 (if k' = 200 ∧ (b : Int) = (ν.2.2.2.1 : Int) then 0 else Z k' b i j)
  by_cases h : k' = 200 ∧ b = ν.2.2.2.1
  · rw [if_pos h, if_pos ⟨h.1, by rw [h.2]⟩]; rfl
  · rw [if_neg h, if_neg (fun q => h ⟨q.1, by have := q.2; omega⟩)]
theorem zzr_I {Z : qz_Z} {n : Nat} (h : zI none Z) : zI none (zzr Z n) := by
  refine ⟨fun k b i j hk => ?_, fun k b i j => ?_, fun m hm => (by cases hm), fun hm => (by cases hm)⟩
  · show (zr k j).1 ≤ (if _ then 0 else Z k b i j) ∧ (if _ then 0 else Z k b i j) ≤ (zr k j).2
    split
    · exact zr_0 k j
    · exact h.1 _ _ _ _ hk
  · show -2147483648 ≤ (if _ then 0 else Z k b i j) ∧ (if _ then 0 else Z k b i j) ≤ 2147483647
    split
    · decide
    · exact h.2.1 _ _ _ _
/-- what the wrapper leaves -/
def zW (Z : qz_Z) (ν : qz_N) (v E : Int) (Z2 : qz_Z) (ν2 : qz_N) : Prop := (E = 0 → ν2.1 71 0 0 0 = (i3 v).toInt64) ∧ zSt Z2 ν2 ∧ (∀ j, Z2 200 0 0 j = Z 200 0 0 j)
theorem zSt_to {Z Z1 : qz_Z} {ν ν1 : qz_N} {WS : List Nat} (hn : ν.2.2.1 0 = (60, 1, 7) ∧ 1 ≤ ν.2.2.2.1) (hr : ν.2.1 1 0 0 36 = some (102, 0, 0)) (hc : ν.2.2.2.2.1 ≤ 90000 ∧ ν.2.2.2.2.2 ≤ 2000000) (hF : zFm Z) (hI : zI none Z1) (hK : zK WS Z Z1) (hN : zN ν ν1) (hW : WS.all (fun k => !frm k && !Nat.beq k 200) = true) : zSt Z1 ν1 ∧ (∀ j, Z1 200 0 0 j = Z 200 0 0 j) := by
  have hw : ∀ k, (frm k = true ∨ k = 200) → WS.contains k = false := fun k hk => by
    cases hc : WS.contains k
    · rfl
    · have h2 := List.all_eq_true.mp hW k (List.contains_iff_mem.mp hc)
      rw [Bool.and_eq_true, Bool.not_eq_true', Bool.not_eq_true'] at h2
      rcases hk with q | q
      · rw [q] at h2; cases h2.1
      · subst q; cases h2.2
  obtain ⟨n1, n2, n3, n4, n5, n6⟩ := hN
  refine ⟨⟨hI, fun k i j hk => (hK k (hw k (.inl hk)) 0 i j).trans (hF k i j hk), ⟨(n3 0 (by omega)).trans hn.1, by omega⟩, (n2 1 0 0 36 (by decide)).trans hr, by omega, by omega⟩, fun j => hK 200 (hw 200 (.inr rfl)) 0 0 j⟩
theorem wrap_ok {hs : List (Nat × Nat)} {f fw : qz_Fn} {as ws : List qz_V} {Z : qz_Z} {ν : qz_N} {WS : List Nat} {P0 : Int × Int}
    (hn : ν.2.2.1 0 = (60, 1, 7) ∧ 1 ≤ ν.2.2.2.1) (hr : ν.2.1 1 0 0 36 = some (102, 0, 0)) (hc : ν.2.2.2.2.1 ≤ 80000 ∧ ν.2.2.2.2.2 ≤ 1000000) (hF : zFm Z)
    (hf : ∀ R, wz_cI f as (zm Z ν) (fun μ1 v4 => wz_wr (qz_wL μ1 (71, 0, 0) 0 v4.toInt64) (fun μ5 => R μ5 (.inl (some (.inl (0 : Int32)))))) (fun μ1 e => Hn hs μ1 e R) → wz_call fw ws (zm Z ν) R)
    (hsg : ∃ (Z1 : qz_Z) (ν1 : qz_N) (v E : Int), (v, E) = P0 ∧ f as (zm Z ν) = some (zm Z1 ν1, zoX v E) ∧ (fun Z1 ν1 => zI none Z1 ∧ zK WS Z Z1 ∧ zN ν ν1) Z1 ν1)
    (hE : ∀ v E, (v, E) = P0 → E = 0 ∨ ∃ p ∈ hs, E = (p.1 : Int)) (hs0 : hs.all (fun p => Nat.blt 0 p.1) = true) (hW : WS.all (fun k => !frm k && !Nat.beq k 200) = true) :
    ∃ (Z2 : qz_Z) (ν2 : qz_N) (v E : Int), (v, E) = P0 ∧ fw ws (zm Z ν) = some (zm Z2 ν2, .inl (some (.inl (i3 (tcL hs E))))) ∧ zW Z ν v E Z2 ν2 := by
  obtain ⟨Z1, ν1, v, E, hP, hq, hI, hK, hN⟩ := hsg
  have hS := zSt_to hn hr ⟨by omega, by omega⟩ hF hI hK hN hW
  have tc0 : ∀ hs : List (Nat × Nat), hs.all (fun p => Nat.blt 0 p.1) = true → tcL hs 0 = 0 := by
    intro hs
    induction hs with
    | nil => intro _; rfl
    | cons p t ih =>
      intro h
      rw [List.all_cons, Bool.and_eq_true] at h
      have : 0 < p.1 := Nat.le_of_ble_eq_true h.1
      show (if (0 : Int) = p.1 then (p.2 : Int) else tcL t 0) = 0
      rw [if_neg (by omega)]
      exact ih h.2
  rcases hE v E hP with rfl | ⟨p, hp, hpe⟩
  · have h1 := hf (fun μ o => μ = qz_wL (zm Z1 ν1) (71, 0, 0) 0 (i3 v).toInt64 ∧ o = .inl (some (.inl (0 : Int32)))) (wz_cI_of (v := i3 v) hq (fun μ' e => ⟨e, rfl⟩))
    have h2 := wz_call_eq h1
    refine ⟨Z1, (qz_wL (zm Z1 ν1) (71, 0, 0) 0 (i3 v).toInt64).2, v, 0, hP, ?_, fun _ => (if_pos ⟨rfl, rfl, rfl, rfl⟩ : (if 71 = 71 ∧ 0 = 0 ∧ 0 = 0 ∧ 0 = 0 then (i3 v).toInt64 else ν1.1 71 0 0 0) = _), hS.1, hS.2⟩
    rw [h2, tc0 hs hs0]
    rfl
  · have hE0 : E ≠ 0 := by
      have h2 := List.all_eq_true.mp hs0 p hp
      have : 0 < p.1 := Nat.le_of_ble_eq_true h2
      omega
    have hx : zoX v E = .inr E.toNat := if_neg hE0
    rw [hx] at hq
    have key : ∀ (hs : List (Nat × Nat)), (∃ p ∈ hs, E = (p.1 : Int)) → Hn hs (zm Z1 ν1) E.toNat (fun μ o => μ = qz_al (zm Z1 ν1) 99 0 0 0 0 ∧ o = .inl (some (.inl (i3 (tcL hs E))))) := by
      intro hs
      induction hs with
      | nil => rintro ⟨p, hp, _⟩; cases hp
      | cons q t ih =>
        rintro ⟨p, hp, hpe⟩
        unfold Hn
        by_cases h : E = (q.1 : Int)
        · refine wz_i1 (by rw [h, Int.toNat_natCast]; exact Nat.beq_refl _) (fun μ' e => ⟨e, ?_⟩)
          show _ = Sum.inl (some (Sum.inl (i3 (if E = (q.1 : Int) then (q.2 : Int) else tcL t E))))
          rw [if_pos h]
        · refine wz_i0 ?_ ?_
          · cases hb : Nat.beq q.1 E.toNat
            · rfl
            · have := Nat.eq_of_beq_eq_true hb
              omega
          · have e : tcL (q :: t) E = tcL t E := if_neg h
            rw [e]
            refine ih ⟨p, ?_, hpe⟩
            rcases List.mem_cons.mp hp with rfl | hp
            · exact absurd hpe h
            · exact hp
    have h1 := hf _ (wz_cI_E hq (key hs ⟨p, hp, hpe⟩))
    have h2 := wz_call_eq h1
    refine ⟨zzr Z1 ν1.2.2.2.1, (qz_alr (zm Z1 ν1) 99 0 0 0 0 (fun _ => none)).2, v, E, hP, h2.trans (by rw [zm_al (t := 99) (c := 0) (l := 0) (k := 0) (s := 0)]), fun q => absurd q hE0, ?_, fun j => ?_⟩
    · obtain ⟨s1, s2, s3, s4, s5, s6⟩ := hS.1
      refine ⟨zzr_I s1, fun k i j hk => ?_, ⟨?_, Nat.le_succ_of_le s3.2⟩, ?_, s5, s6⟩
      · have hk2 : k ≠ 200 := fun q => by subst q; cases hk
        exact (if_neg (fun q => hk2 q.1)).trans (s2 k i j hk)
      · show (if 0 = ν1.2.2.2.1 then _ else ν1.2.2.1 0) = _
        rw [if_neg (by have := s3.2; omega)]
        exact s3.1
      · exact (if_neg (fun q => absurd q.1 (by decide)) : (if 1 = 200 ∧ 0 = ν1.2.2.2.1 then (none : Option qz_R) else ν1.2.1 1 0 0 36) = ν1.2.1 1 0 0 36).trans s4
    · have s3 := hS.1.2.2.1.2
      exact (if_neg (fun q => by have := q.2; omega)).trans (hS.2 j)
theorem lg_self (x : Int64) : lg_cmp x x = 0 := by
  unfold lg_cmp
  simp
theorem zF_m {Z : qz_Z} (h : zF Z) : zFm Z := fun k i j hk => h k i j (by
  unfold frm at hk
  unfold frk
  simp only [Bool.or_eq_true] at hk ⊢
  rcases hk with hk | hk
  · left; left
    have := List.contains_iff_mem.mp hk
    simp only [List.mem_cons, List.not_mem_nil, or_false] at this
    rcases this with rfl | rfl <;> decide
  · right; exact hk)
/-- what the law leaves behind one call -/
def zEnd (ν : qz_N) : Prop := (ν.2.2.1 0 = (60, 1, 7) ∧ 1 ≤ ν.2.2.2.1) ∧ ν.2.2.2.2.1 ≤ 120000 ∧ ν.2.2.2.2.2 ≤ 5000000
/-- a new object, its script of 7 -/
def zNew (Z : qz_Z) (ν : qz_N) : Prop := zI none Z ∧ zF Z ∧ (ν.2.2.1 0 = (60, 1, 7) ∧ 1 ≤ ν.2.2.2.1) ∧ ν.2.1 1 0 0 36 = some (102, 0, 0) ∧ ν.2.2.2.2.1 ≤ 80000 ∧ ν.2.2.2.2.2 ≤ 1000000
theorem zNew_S {Z : qz_Z} {ν : qz_N} (h : zNew Z ν) : zSt Z ν := ⟨h.1, zF_m h.2.1, h.2.2.1, h.2.2.2.1, by have := h.2.2.2.2.1; omega, by have := h.2.2.2.2.2; omega⟩
