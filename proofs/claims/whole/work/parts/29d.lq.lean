/-! a lot is put at the end of a row: lots stay well -/
theorem lt_q4 {Z Z1 Z2 Z3 Z4 : qz_Z} {b c r pl st rs v : Int} (h : zLt b Z) (h0 : Z1 = zu Z 49 b r 0 pl) (h1 : Z2 = zu Z1 49 b r 1 st) (h2 : Z3 = zu Z2 49 b r 2 rs) (h3 : Z4 = zu Z3 48 b c 5 v) (hc : 0 ≤ c ∧ c ≤ 1) (hr : r = 12 * c + Z 48 b c 5) (hv : v = Z 48 b c 5 + 1) (hn : 0 ≤ Z 48 b c 5 ∧ Z 48 b c 5 ≤ 11) (hl : 1 ≤ rs ∧ rs ≤ st) : zLt b Z4 := fun c' p a0 a1 a2 a3 a4 => by
  have e1 : ∀ x, Z4 49 b x 1 = if x = r then st else Z 49 b x 1 := fun x => by
    rw [zu_ne h3 (fun q => absurd q.1 (by decide)), zu_ne h2 (fun q => absurd q.2.2.2 (by decide))]
    by_cases g : x = r
    · rw [if_pos g, g, zu_at h1]
    · rw [if_neg g, zu_ne h1 (fun q => g q.2.2.1), zu_ne h0 (fun q => g q.2.2.1)]
  have e2 : ∀ x, Z4 49 b x 2 = if x = r then rs else Z 49 b x 2 := fun x => by
    rw [zu_ne h3 (fun q => absurd q.1 (by decide))]
    by_cases g : x = r
    · rw [if_pos g, g, zu_at h2]
    · rw [if_neg g, zu_ne h2 (fun q => g q.2.2.1), zu_ne h1 (fun q => g q.2.2.1), zu_ne h0 (fun q => g q.2.2.1)]
  rw [e1, e2]
  by_cases g : 12 * c' + p = r
  · rw [if_pos g, if_pos g]
    exact hl
  · rw [if_neg g, if_neg g]
    refine h c' p a0 a1 a2 a3 ?_
    by_cases gc : c' = c
    · rw [gc, zu_at h3] at a4
      rw [gc] at g ⊢
      omega
    · rw [zu_ne h3 (fun q => gc q.2.2.1), zu_ne h2 (fun q => absurd q.1 (by decide)), zu_ne h1 (fun q => absurd q.1 (by decide)), zu_ne h0 (fun q => absurd q.1 (by decide))] at a4
      exact a4
/-- into a task's spelling: nothing else is asked -/
theorem zI_pq {s : zS} {Z Z1 : qz_Z} {k k1 : Nat} {b i b1 i1 d n : Int} (h : zI s Z) (hz : Z1 = zpy Z k b i k1 b1 i1 d n) (h200 : k1 ≠ 200) (h1 : k1 ≠ 1) (hk : ∀ j, d ≤ j → j < d + n → (zr k1 j).1 ≤ -2147483648 ∧ 2147483647 ≤ (zr k1 j).2) : zI s Z1 := by
  refine ⟨fun k' b' i' j' hk' => ?_, fun k' b' i' j' => ?_, fun m hm => ?_, fun hm => ?_⟩
  · rcases zpy_or hz k' b' i' j' with q | q
    · have h3 := h.2.1 k b i (j' - d)
      have h4 := hk j' q.2.2.2.1 q.2.2.2.2.1
      rw [q.2.2.2.2.2, q.1]
      omega
    · rw [q]; exact h.1 _ _ _ _ hk'
  · rcases zpy_or hz k' b' i' j' with q | q
    · rw [q.2.2.2.2.2]; exact h.2.1 _ _ _ _
    · rw [q]; exact h.2.1 _ _ _ _
  · rw [zpy_o hz (fun e => h200 e.symm), zpy_o hz (fun e => h200 e.symm)]; exact h.2.2.1 m hm
  · rw [zpy_o hz (fun e => h1 e.symm)]; exact h.2.2.2 hm
theorem zH_pk61 {s : zSM} {Z Z1 : qz_Z} {k : Nat} {b i b1 i1 d n : Int} (h : zH s Z) (hz : Z1 = zpy Z k b i 61 b1 i1 d n) : zH s Z1 := by
  refine ⟨zI_pq h.1 hz (by decide) (by decide) (fun j _ _ => ?_), zX_py h.2 hz (by decide) (by decide) (by decide)⟩
  rw [show zr 61 j = z_F from rfl]
  decide
theorem zU_29 {hs : List Int} {x : Int} (h : 2 ≤ x ∧ x ≤ 9) (g : ∀ y ∈ ([2, 3, 4, 5, 6, 7, 8, 9] : List Int), y ∈ hs) : x ∈ hs := g x (by
  have : x = 2 ∨ x = 3 ∨ x = 4 ∨ x = 5 ∨ x = 6 ∨ x = 7 ∨ x = 8 ∨ x = 9 := by omega
  rcases this with rfl | rfl | rfl | rfl | rfl | rfl | rfl | rfl <;> decide)
/-- put away, so that no arithmetic looks into it -/
def zBox (p : Prop) : Prop := p
