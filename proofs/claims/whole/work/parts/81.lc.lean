/-! what another kind holds doesn't hang on the inspectors' rows -/
theorem wkr11 {Z : qz_Z} {b i j v b' i' j' : Int} : zu Z 51 b i j v 11 b' i' j' = Z 11 b' i' j' := zu_ne rfl (fun q => absurd q.1 (by decide))
theorem wkr13 {Z : qz_Z} {b i j v b' i' j' : Int} : zu Z 51 b i j v 13 b' i' j' = Z 13 b' i' j' := zu_ne rfl (fun q => absurd q.1 (by decide))
theorem wkr14 {Z : qz_Z} {b i j v b' i' j' : Int} : zu Z 51 b i j v 14 b' i' j' = Z 14 b' i' j' := zu_ne rfl (fun q => absurd q.1 (by decide))
theorem wkr41 {Z : qz_Z} {b i j v b' i' j' : Int} : zu Z 51 b i j v 41 b' i' j' = Z 41 b' i' j' := zu_ne rfl (fun q => absurd q.1 (by decide))
theorem wkr43 {Z : qz_Z} {b i j v b' i' j' : Int} : zu Z 51 b i j v 43 b' i' j' = Z 43 b' i' j' := zu_ne rfl (fun q => absurd q.1 (by decide))
theorem wkr44 {Z : qz_Z} {b i j v b' i' j' : Int} : zu Z 51 b i j v 44 b' i' j' = Z 44 b' i' j' := zu_ne rfl (fun q => absurd q.1 (by decide))
theorem wkr45 {Z : qz_Z} {b i j v b' i' j' : Int} : zu Z 51 b i j v 45 b' i' j' = Z 45 b' i' j' := zu_ne rfl (fun q => absurd q.1 (by decide))
theorem wkr46 {Z : qz_Z} {b i j v b' i' j' : Int} : zu Z 51 b i j v 46 b' i' j' = Z 46 b' i' j' := zu_ne rfl (fun q => absurd q.1 (by decide))
theorem wkr47 {Z : qz_Z} {b i j v b' i' j' : Int} : zu Z 51 b i j v 47 b' i' j' = Z 47 b' i' j' := zu_ne rfl (fun q => absurd q.1 (by decide))
theorem wkr48 {Z : qz_Z} {b i j v b' i' j' : Int} : zu Z 51 b i j v 48 b' i' j' = Z 48 b' i' j' := zu_ne rfl (fun q => absurd q.1 (by decide))
theorem wkr49 {Z : qz_Z} {b i j v b' i' j' : Int} : zu Z 51 b i j v 49 b' i' j' = Z 49 b' i' j' := zu_ne rfl (fun q => absurd q.1 (by decide))
theorem wkr52 {Z : qz_Z} {b i j v b' i' j' : Int} : zu Z 51 b i j v 52 b' i' j' = Z 52 b' i' j' := zu_ne rfl (fun q => absurd q.1 (by decide))
theorem wkr53 {Z : qz_Z} {b i j v b' i' j' : Int} : zu Z 51 b i j v 53 b' i' j' = Z 53 b' i' j' := zu_ne rfl (fun q => absurd q.1 (by decide))
theorem wkc {Z : qz_Z} {k' : Nat} (h : k' ≠ 51) {b i j v b' i' j' w : Int} : zu (zu Z 51 b i j v) k' b' i' j' w = zu (zu Z k' b' i' j' w) 51 b i j v := by
  funext kk bb ii jj
  rw [zuq, zuq, zuq, zuq]
  by_cases e : kk = k' ∧ bb = b' ∧ ii = i' ∧ jj = j'
  · rw [if_pos e, if_neg (fun q => h (e.1.symm.trans q.1)), if_pos e]
  · rw [if_neg e]
    split
    · rfl
    · rfl
theorem wkc11 {Z : qz_Z} {b i j v b' i' j' w : Int} : zu (zu Z 51 b i j v) 11 b' i' j' w = zu (zu Z 11 b' i' j' w) 51 b i j v := wkc (by decide)
theorem wkc13 {Z : qz_Z} {b i j v b' i' j' w : Int} : zu (zu Z 51 b i j v) 13 b' i' j' w = zu (zu Z 13 b' i' j' w) 51 b i j v := wkc (by decide)
theorem wkc14 {Z : qz_Z} {b i j v b' i' j' w : Int} : zu (zu Z 51 b i j v) 14 b' i' j' w = zu (zu Z 14 b' i' j' w) 51 b i j v := wkc (by decide)
theorem wkc41 {Z : qz_Z} {b i j v b' i' j' w : Int} : zu (zu Z 51 b i j v) 41 b' i' j' w = zu (zu Z 41 b' i' j' w) 51 b i j v := wkc (by decide)
theorem wkc43 {Z : qz_Z} {b i j v b' i' j' w : Int} : zu (zu Z 51 b i j v) 43 b' i' j' w = zu (zu Z 43 b' i' j' w) 51 b i j v := wkc (by decide)
theorem wkc44 {Z : qz_Z} {b i j v b' i' j' w : Int} : zu (zu Z 51 b i j v) 44 b' i' j' w = zu (zu Z 44 b' i' j' w) 51 b i j v := wkc (by decide)
theorem wkc45 {Z : qz_Z} {b i j v b' i' j' w : Int} : zu (zu Z 51 b i j v) 45 b' i' j' w = zu (zu Z 45 b' i' j' w) 51 b i j v := wkc (by decide)
theorem wkc46 {Z : qz_Z} {b i j v b' i' j' w : Int} : zu (zu Z 51 b i j v) 46 b' i' j' w = zu (zu Z 46 b' i' j' w) 51 b i j v := wkc (by decide)
theorem wkc47 {Z : qz_Z} {b i j v b' i' j' w : Int} : zu (zu Z 51 b i j v) 47 b' i' j' w = zu (zu Z 47 b' i' j' w) 51 b i j v := wkc (by decide)
theorem wkc48 {Z : qz_Z} {b i j v b' i' j' w : Int} : zu (zu Z 51 b i j v) 48 b' i' j' w = zu (zu Z 48 b' i' j' w) 51 b i j v := wkc (by decide)
theorem wkc49 {Z : qz_Z} {b i j v b' i' j' w : Int} : zu (zu Z 51 b i j v) 49 b' i' j' w = zu (zu Z 49 b' i' j' w) 51 b i j v := wkc (by decide)
theorem wkc52 {Z : qz_Z} {b i j v b' i' j' w : Int} : zu (zu Z 51 b i j v) 52 b' i' j' w = zu (zu Z 52 b' i' j' w) 51 b i j v := wkc (by decide)
theorem wkc53 {Z : qz_Z} {b i j v b' i' j' w : Int} : zu (zu Z 51 b i j v) 53 b' i' j' w = zu (zu Z 53 b' i' j' w) 51 b i j v := wkc (by decide)
theorem wki {c : Prop} [Decidable c] {A B : qz_Z} {b i j v : Int} : zu (if c then A else B) 51 b i j v = if c then zu A 51 b i j v else zu B 51 b i j v := by
  split <;> rfl
theorem loc175 {Z : qz_Z} {b c k v p w b' : Int} : zf_175 (zu Z 51 b' k 5 v) b c p w = zu (zf_175 Z b c p w) 51 b' k 5 v := by
  unfold zf_175
  simp only [zlet, wki, wkr11, wkr13, wkr14, wkr41, wkr43, wkr44, wkr45, wkr46, wkr47, wkr48, wkr49, wkr52, wkr53, wkc11, wkc13, wkc14, wkc41, wkc43, wkc44, wkc45, wkc46, wkc47, wkc48, wkc49, wkc52, wkc53]
theorem loc20 {Z : qz_Z} {b c k v p b' : Int} : zf_20 (zu Z 51 b' k 5 v) b c p = zu (zf_20 Z b c p) 51 b' k 5 v := by
  unfold zf_20
  simp only [zlet, wki, wkr11, wkr13, wkr14, wkr41, wkr43, wkr44, wkr45, wkr46, wkr47, wkr48, wkr49, wkr52, wkr53, wkc11, wkc13, wkc14, wkc41, wkc43, wkc44, wkc45, wkc46, wkc47, wkc48, wkc49, wkc52, wkc53]
theorem loc105_1 {b k v p u b' : Int} : ∀ (m : Nat) (Z : qz_Z) (x : Int), zl_105_1 b p p u m (zu Z 51 b' k 5 v) x = (zu (zl_105_1 b p p u m Z x).1 51 b' k 5 v, (zl_105_1 b p p u m Z x).2)
  | 0, Z, x => rfl
  | m + 1, Z, x => by
    unfold zl_105_1
    simp only [zlet, wkr11, wkr13, wkr14, wkr41, wkr43, wkr44, wkr45, wkr46, wkr47, wkr48, wkr49, wkr52, wkr53, wkc11, wkc13, wkc14, wkc41, wkc43, wkc44, wkc45, wkc46, wkc47, wkc48, wkc49, wkc52, wkc53, loc20]
    simp only [loc105_1 m]
    split
    · rfl
    split
    · rfl
    split
    · rfl
    split <;> rfl
theorem loc69_1 {b k v c e f b' : Int} : ∀ (m : Nat) (Z : qz_Z) (x : Int), zl_69_1 b c e f m (zu Z 51 b' k 5 v) x = (zu (zl_69_1 b c e f m Z x).1 51 b' k 5 v, (zl_69_1 b c e f m Z x).2)
  | 0, Z, x => rfl
  | m + 1, Z, x => by
    unfold zl_69_1
    simp only [zlet, wkr11, wkr13, wkr14, wkr41, wkr43, wkr44, wkr45, wkr46, wkr47, wkr48, wkr49, wkr52, wkr53, wkc11, wkc13, wkc14, wkc41, wkc43, wkc44, wkc45, wkc46, wkc47, wkc48, wkc49, wkc52, wkc53]
    simp only [loc69_1 m]
    split <;> rfl
theorem loc69_3 {b k v c e b' : Int} : ∀ (m : Nat) (Z : qz_Z) (x : Int), zl_69_3 b c e m (zu Z 51 b' k 5 v) x = (zu (zl_69_3 b c e m Z x).1 51 b' k 5 v, (zl_69_3 b c e m Z x).2)
  | 0, Z, x => rfl
  | m + 1, Z, x => by
    unfold zl_69_3
    simp only [zlet2, loc69_1]
    simp only [loc69_3 m]
    split <;> rfl
theorem loc69 {Z : qz_Z} {b k v c t b' : Int} : zf_69 (zu Z 51 b' k 5 v) b c t = zu (zf_69 Z b c t) 51 b' k 5 v := by
  unfold zf_69
  simp only [zlet, zlet2, wkr11, wkr13, wkr14, wkr41, wkr43, wkr44, wkr45, wkr46, wkr47, wkr48, wkr49, wkr52, wkr53, wkc11, wkc13, wkc14, wkc41, wkc43, wkc44, wkc45, wkc46, wkc47, wkc48, wkc49, wkc52, wkc53, loc69_3]
def zws (W : qz_Z → qz_Z) : (qz_Z × Int) ⊕ (qz_Z × Int) → (qz_Z × Int) ⊕ (qz_Z × Int)
  | .inl q => .inl (W q.1, q.2)
  | .inr q => .inr (W q.1, q.2)
theorem loc76_1 {b k v p c b' : Int} : ∀ (m : Nat) (Z : qz_Z) (x : Int), zl_76_1 b p c m (zu Z 51 b' k 5 v) x = zws (fun Z => zu Z 51 b' k 5 v) (zl_76_1 b p c m Z x)
  | 0, Z, x => rfl
  | m + 1, Z, x => by
    unfold zl_76_1
    simp only [zlet, wkr11, wkr13, wkr14, wkr41, wkr43, wkr44, wkr45, wkr46, wkr47, wkr48, wkr49, wkr52, wkr53, wkc11, wkc13, wkc14, wkc41, wkc43, wkc44, wkc45, wkc46, wkc47, wkc48, wkc49, wkc52, wkc53, loc69]
    simp only [loc76_1 m]
    split
    · rfl
    split <;> rfl
theorem loc76_3 {b k v p b' : Int} : ∀ (m : Nat) (Z : qz_Z) (x : Int), zl_76_3 b p m (zu Z 51 b' k 5 v) x = zws (fun Z => zu Z 51 b' k 5 v) (zl_76_3 b p m Z x)
  | 0, Z, x => rfl
  | m + 1, Z, x => by
    unfold zl_76_3
    simp only [wkr11, wkr13, wkr14, wkr41, wkr43, wkr44, wkr45, wkr46, wkr47, wkr48, wkr49, wkr52, wkr53, wkc11, wkc13, wkc14, wkc41, wkc43, wkc44, wkc45, wkc46, wkc47, wkc48, wkc49, wkc52, wkc53, loc76_1]
    split
    · rfl
    · cases zl_76_1 b p x 13 Z 0 with
      | inl q => exact loc76_3 m q.1 _
      | inr q => rfl
theorem loc76 {Z : qz_Z} {b k v p b' : Int} : zf_76 (zu Z 51 b' k 5 v) b p = (zu (zf_76 Z b p).1 51 b' k 5 v, (zf_76 Z b p).2) := by
  unfold zf_76
  rw [loc76_3]
  cases zl_76_3 b p 3 Z 0 with
  | inl q => rfl
  | inr q => rfl
theorem loc105 {Z : qz_Z} {b k v p st b' : Int} : zf_105 (zu Z 51 b' k 5 v) b p st = (zu (zf_105 Z b p st).1 51 b' k 5 v, (zf_105 Z b p st).2) := by
  unfold zf_105
  simp only [zlet, zlet2, wkr11, wkr13, wkr14, wkr41, wkr43, wkr44, wkr45, wkr46, wkr47, wkr48, wkr49, wkr52, wkr53, wkc11, wkc13, wkc14, wkc41, wkc43, wkc44, wkc45, wkc46, wkc47, wkc48, wkc49, wkc52, wkc53, loc76, loc175, loc105_1]
  split <;> rfl
