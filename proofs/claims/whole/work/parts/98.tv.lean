/-! a sign is made (its own memory on both sides) -/
def zSg (Z Y : qz_Z) : Prop := Z 4 0 0 1 = Y 1 0 0 49 ∧ 0 ≤ Y 1 0 0 49 ∧ Y 1 0 0 49 ≤ 120 ∧ ∀ i : Int, 0 ≤ i → i < Y 1 0 0 49 → Z 66 0 0 i = Y 112 0 0 i
theorem rf_sign {Z Y : qz_Z} {a1 : Int} (hRa : zR 0 Z Y) (hV : zV Y) (hSg : zSg Z Y) {C : qz_Z × Int × Int} {M : qz_Z × Int} (hC : zE C (zx_242 Z a1)) (hM : zE M (zy_502 Y a1)) : zR 0 C.1 M.1 ∧ zV M.1 ∧ zSg C.1 M.1 ∧ (∀ (k : Nat) (b i j : Int), k ≠ 66 → ¬ (k = 4 ∧ j = 1) → C.1 k b i j = Z k b i j) ∧ (∀ (k : Nat) (b i j : Int), k ≠ 112 → ¬ (k = 1 ∧ (j = 2 ∨ j = 49)) → M.1 k b i j = Y k b i j) ∧ zThr [(13, 1), (15, 2)] C.2 (M.1 1 0 0 2) M.2 := by
  have hc : C = _ := hC
  have hm : M = _ := hM
  unfold zx_242 at hc
  unfold zy_502 at hm
  obtain ⟨s1, s2, s3, s4⟩ := hSg
  have F : ∀ {Y' : qz_Z} {t : Int}, (∀ (k : Nat) (b i j : Int), k ≠ 112 → ¬ (k = 1 ∧ (j = 2 ∨ j = 49)) → Y' k b i j = Y k b i j) → ∀ (k : Nat) (b i j : Int), k ≠ 112 → ¬ (k = 1 ∧ (j = 2 ∨ j = 49)) → zu Y' 1 0 0 2 t k b i j = Y k b i j := fun {Y' t} h k b i j p q => (zu_ne rfl (fun r => q ⟨r.1, .inl r.2.2.2⟩)).trans (h k b i j p q)
  have F0 : ∀ (k : Nat) (b i j : Int), k ≠ 112 → ¬ (k = 1 ∧ (j = 2 ∨ j = 49)) → Y k b i j = Y k b i j := fun _ _ _ _ _ _ => rfl
  have N : ∀ {Y' : qz_Z} {t : Int} (k : Nat) (j : Int), ¬ (k = 1 ∧ j = 2) → zu Y' 1 0 0 2 t k 0 0 j = Y' k 0 0 j := fun k j q => zu_ne rfl (fun r => q ⟨r.1, r.2.2.2⟩)
  have E : ∀ {Y' : qz_Z} {v' E t : Int}, (∀ (k : Nat) (b i j : Int), k ≠ 112 → ¬ (k = 1 ∧ (j = 2 ∨ j = 49)) → Y' k b i j = Y k b i j) → Y' 1 0 0 49 = Y 1 0 0 49 → (∀ j : Int, Y' 112 0 0 j = Y 112 0 0 j) → (E, t) ∈ [((13 : Int), (1 : Int)), (15, 2)] → zR 0 Z (zu Y' 1 0 0 2 t) ∧ zV (zu Y' 1 0 0 2 t) ∧ zSg Z (zu Y' 1 0 0 2 t) ∧ (∀ (k : Nat) (b i j : Int), k ≠ 66 → ¬ (k = 4 ∧ j = 1) → Z k b i j = Z k b i j) ∧ (∀ (k : Nat) (b i j : Int), k ≠ 112 → ¬ (k = 1 ∧ (j = 2 ∨ j = 49)) → zu Y' 1 0 0 2 t k b i j = Y k b i j) ∧ zThr [(13, 1), (15, 2)] ((0 : Int), E) (zu Y' 1 0 0 2 t 1 0 0 2) v' := fun {Y' v' E t} h e f m => by
    have f2 : ∀ j : Int, zu Y' 1 0 0 2 t 2 0 0 j = Y 2 0 0 j := fun j => F h 2 0 0 j (by decide) (fun q => absurd q.1 (by decide))
    have e2 : zu Y' 1 0 0 2 t 1 0 0 49 = Y 1 0 0 49 := (N 1 49 (by decide)).trans e
    refine ⟨zR_e hRa (fun _ _ _ _ => rfl) f2, zV_e hV f2, ⟨?_, ?_, ?_, fun i i0 i1 => ?_⟩, fun _ _ _ _ _ _ => rfl, F h, zThr_e (zu_at rfl) m⟩
    · rw [e2]
      exact s1
    · rw [e2]
      exact s2
    · rw [e2]
      exact s3
    · rw [e2] at i1
      rw [N 112 i (fun q => absurd q.1 (by decide)), f]
      exact s4 i i0 i1
  by_cases h1 : a1 < 32
  · rw [if_neg (by omega)] at hc
    rw [if_pos h1] at hm
    rw [hc, hm]
    exact E F0 rfl (fun _ => rfl) (by decide)
  rw [if_neg h1] at hm
  by_cases h2 : 126 < a1
  · rw [if_neg (by omega)] at hc
    rw [if_pos h2] at hm
    rw [hc, hm]
    exact E F0 rfl (fun _ => rfl) (by decide)
  rw [if_neg h2] at hm
  rw [if_pos (by omega), s1] at hc
  rw [zlet, N 1 49 (by decide)] at hm
  by_cases h3 : 120 ≤ Y 1 0 0 49
  · rw [if_pos h3] at hc hm
    rw [hc, hm]
    exact E (F F0) (N 1 49 (by decide)) (fun j => N 112 j (fun q => absurd q.1 (by decide))) (by decide)
  rw [if_neg h3] at hc hm
  simp only [zlet] at hc hm
  have y32 : zu (zu Y 1 0 0 2 0) 1 0 0 2 0 1 0 0 2 = 0 := zu_at rfl
  have y49 : zu (zu Y 1 0 0 2 0) 1 0 0 2 0 1 0 0 49 = Y 1 0 0 49 := (N 1 49 (by decide)).trans (N 1 49 (by decide))
  have y12 : ∀ j : Int, zu (zu Y 1 0 0 2 0) 1 0 0 2 0 112 0 0 j = Y 112 0 0 j := fun j => (N 112 j (fun q => absurd q.1 (by decide))).trans (N 112 j (fun q => absurd q.1 (by decide)))
  have yF := F (t := 0) (F (t := 0) F0)
  generalize zu (zu Y 1 0 0 2 0) 1 0 0 2 0 = Y' at hm y32 y49 y12 yF
  have c1 : zu Z 66 0 0 (Y 1 0 0 49) a1 4 0 0 1 = Y 1 0 0 49 := (zu_ne rfl (fun r => absurd r.1 (by decide))).trans s1
  have m1 : zu Y' 112 0 0 (Y 1 0 0 49) a1 1 0 0 49 = Y 1 0 0 49 := (zu_ne rfl (fun r => absurd r.1 (by decide))).trans y49
  rw [y49, m1] at hm
  rw [c1] at hc
  rw [hc, hm]
  dsimp only
  have f2 : ∀ j : Int, zu (zu Y' 112 0 0 (Y 1 0 0 49) a1) 1 0 0 49 (Y 1 0 0 49 + 1) 2 0 0 j = Y 2 0 0 j := fun j => ((zu_ne rfl (fun r => absurd r.1 (by decide))).trans (zu_ne rfl (fun r => absurd r.1 (by decide)))).trans (yF 2 0 0 j (by decide) (fun q => absurd q.1 (by decide)))
  refine ⟨zR_e hRa (fun k i j hk => ?_) f2, zV_e hV f2, ⟨?_, ?_, ?_, fun i i0 i1 => ?_⟩, fun k b i j p q => ?_, fun k b i j p q => ?_, zThr_a ?_ ?_⟩
  · exact (zu_ne rfl (fun r => by rw [r.1] at hk; cases hk)).trans (zu_ne rfl (fun r => by rw [r.1] at hk; cases hk))
  · exact (zu_at rfl).trans (zu_at rfl).symm
  · rw [show zu (zu Y' 112 0 0 (Y 1 0 0 49) a1) 1 0 0 49 (Y 1 0 0 49 + 1) 1 0 0 49 = Y 1 0 0 49 + 1 from zu_at rfl]
    omega
  · rw [show zu (zu Y' 112 0 0 (Y 1 0 0 49) a1) 1 0 0 49 (Y 1 0 0 49 + 1) 1 0 0 49 = Y 1 0 0 49 + 1 from zu_at rfl]
    omega
  · rw [show zu (zu Y' 112 0 0 (Y 1 0 0 49) a1) 1 0 0 49 (Y 1 0 0 49 + 1) 1 0 0 49 = Y 1 0 0 49 + 1 from zu_at rfl] at i1
    show zu (zu Z 66 0 0 (Y 1 0 0 49) a1) 4 0 0 1 (Y 1 0 0 49 + 1) 66 0 0 i = zu (zu Y' 112 0 0 (Y 1 0 0 49) a1) 1 0 0 49 (Y 1 0 0 49 + 1) 112 0 0 i
    rw [zu_ne (Z := zu Z 66 0 0 (Y 1 0 0 49) a1) rfl (fun r => absurd r.1 (by decide)), zu_ne (Z := zu Y' 112 0 0 (Y 1 0 0 49) a1) rfl (fun r => absurd r.1 (by decide))]
    by_cases d : i = Y 1 0 0 49
    · rw [d, zu_at rfl, zu_at rfl]
    · rw [zu_ne (Z := Z) rfl (fun r => d r.2.2.2), zu_ne (Z := Y') rfl (fun r => d r.2.2.2), y12]
      exact s4 i i0 (by omega)
  · exact (zu_ne rfl (fun r => q ⟨r.1, r.2.2.2⟩)).trans (zu_ne rfl (fun r => p r.1))
  · exact ((zu_ne rfl (fun r => q ⟨r.1, .inr r.2.2.2⟩)).trans (zu_ne rfl (fun r => p r.1))).trans (yF k b i j p q)
  · exact ((zu_ne rfl (fun r => absurd r.2.2.2 (by decide))).trans (zu_ne rfl (fun r => absurd r.1 (by decide)))).trans y32
  · exact (zu_at rfl).trans (zu_at rfl).symm
