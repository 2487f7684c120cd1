/-! the same, by one check each -/
def qz_row (T : pz_Tb) (y pc : Nat) (p : Instr → Nat → Nat → Bool) : Bool := match T y pc with
  | some (i, _, a, b) => p i a b
  | none => false
def qz_lab (ls : List Nat) (n : Nat) (z : Int) : Bool := match ls[n]? with
  | some t => decide (z = (t : Int))
  | none => false
def qz_clb (i : Instr) (a k : Nat) : Bool := Nat.blt a 10000 && match i with
  | .invokestatic _ => Nat.beq k 0
  | .invokevirtual _ => Nat.beq k 1
  | .invokespecial _ => Nat.beq k 2
  | _ => false
section Q9
variable {ph : Bool} {T : pz_Tb} {I : pz_Ib} {y : Nat} {My : pz_M} {ls : List Nat} {pc q : Nat}
theorem qz_row_at {p : Instr → Nat → Nat → Bool} (h : qz_row T y pc p = true) : ∃ i n9 a b, T y pc = some (i, n9, a, b) ∧ p i a b = true := by
  unfold qz_row at h
  split at h
  · rename_i i n9 a b e
    exact ⟨i, n9, a, b, e, h⟩
  · cases h
theorem qz_lab_at {n : Nat} {z : Int} (h : qz_lab ls n z = true) : ∃ t, ls[n]? = some t ∧ z = (t : Int) := by
  unfold qz_lab at h
  split at h
  · rename_i t e
    exact ⟨t, e, of_decide_eq_true h⟩
  · cases h
theorem ok_c9 {i : Instr} {n : Nat} (hI : I y = some My) (h : (qz_row T y pc (fun i' _ _ => decide (i' = i)) && (qz_lab ls n ((pc : Int) + qz_off i) && Nat.beq q (pc + 3))) = true) : qz_Ok ph T I y My ls pc q (qn_c i n) := by
  rw [Bool.and_eq_true, Bool.and_eq_true] at h
  obtain ⟨h1, h2, h3⟩ := h
  obtain ⟨i', n9, a, b, e, h1⟩ := qz_row_at h1
  obtain rfl := of_decide_eq_true h1
  obtain ⟨t, e1, e2⟩ := qz_lab_at h2
  exact ok_c hI e e1 e2 (Nat.eq_of_beq_eq_true h3)
theorem ok_g9 {n : Nat} (hI : I y = some My) (h : qz_row T y pc (fun i _ _ => match i with | .goto off => qz_lab ls n ((pc : Int) + off) | _ => false) = true) : qz_Ok ph T I y My ls pc q (qn_g n) := by
  obtain ⟨i', n9, a, b, e, h1⟩ := qz_row_at h
  split at h1
  · obtain ⟨t, e1, e2⟩ := qz_lab_at h1
    exact ok_g hI e e1 e2
  · cases h1
theorem ok_w9 {lo hi : Int} {ds : List Nat} {dl : Nat} (hI : I y = some My) (h : qz_row T y pc (fun i _ _ => match i with | .tableswitch d lo' hi' offs => (decide (lo' = lo) && decide (hi' = hi)) && (qz_lab ls dl ((pc : Int) + d) && (decide (hi - lo < (offs.size : Int)) && qz_ckw ls pc offs.toList ds)) | _ => false) = true) : qz_Ok ph T I y My ls pc q (qn_w lo hi ds dl) := by
  obtain ⟨i', n9, a, b, e, h1⟩ := qz_row_at h
  split at h1
  · rw [Bool.and_eq_true, Bool.and_eq_true, Bool.and_eq_true, Bool.and_eq_true, decide_eq_true_iff, decide_eq_true_iff, decide_eq_true_iff] at h1
    obtain ⟨⟨rfl, rfl⟩, h2, h3, h4⟩ := h1
    obtain ⟨t, e1, e2⟩ := qz_lab_at h2
    exact ok_w hI e e1 e2 h3 h4
  · cases h1
theorem ok_r9 {i : Instr} {R : Option FieldType} (hI : I y = some My) (h : qz_row T y pc (fun i' _ _ => decide (i' = i)) = true) (hR : R = pz_mR My) : qz_Ok ph T I y My ls pc q (qn_r i R) := by
  obtain ⟨i', n9, a, b, e, h1⟩ := qz_row_at h
  obtain rfl := of_decide_eq_true h1
  exact ok_r hI e hR
theorem ok_t9 {W E : Nat} (hI : I y = some My) (h : (qz_row T y pc (fun i a _ => match i with | .new _ => Nat.beq a (100 + E) | _ => false) && ((match pz_mH My with | [] => true | _ => false) && (Nat.ble 6 (pz_mF My) && Nat.beq W (pz_mW My)))) = true) : qz_Ok ph T I y My ls pc q (qn_t W E) := by
  rw [Bool.and_eq_true, Bool.and_eq_true, Bool.and_eq_true] at h
  obtain ⟨h1, h2, h3, h4⟩ := h
  obtain ⟨i', n9, a, b, e, h1⟩ := qz_row_at h1
  split at h1
  · refine ok_t hI e (Nat.eq_of_beq_eq_true h1) ?_ h3 (Nat.eq_of_beq_eq_true h4)
    cases hH : pz_mH My with
    | nil => rfl
    | cons x r => rw [hH] at h2; cases h2
  · cases h1
theorem ok_k9 {f : qz_Fn} {a n l k t : Nat} {Ma : pz_M} {hs : List (Nat × Nat)} (hI : I y = some My) (hIa : I a = some Ma) (hf : qz_Sd ph T I a Ma f) (h : (qz_row T y pc (fun i a' _ => Nat.beq a' a && qz_clb i a k) && (qz_fits My Ma n l k t hs && (qz_ckh ls (pz_mH My) pc hs && Nat.beq q (pc + 3)))) = true) : qz_Ok ph T I y My ls pc q (qn_k f n l k t hs) := by
  rw [Bool.and_eq_true, Bool.and_eq_true, Bool.and_eq_true] at h
  obtain ⟨h1, h2, h3, h4⟩ := h
  obtain ⟨i', n9, a', b, e, h1⟩ := qz_row_at h1
  rw [Bool.and_eq_true] at h1
  obtain ⟨h1, h5⟩ := h1
  have h1 := Nat.eq_of_beq_eq_true h1
  subst h1
  refine ok_k hI e ?_ hIa hf h2 h3 (Nat.eq_of_beq_eq_true h4)
  unfold qz_clb at h5
  rw [Bool.and_eq_true] at h5
  refine ⟨Nat.le_of_ble_eq_true h5.1, ?_⟩
  have h6 := h5.2
  split at h6
  · exact .inl ⟨_, rfl, Nat.eq_of_beq_eq_true h6⟩
  · exact .inr (.inl ⟨_, rfl, Nat.eq_of_beq_eq_true h6⟩)
  · exact .inr (.inr ⟨_, rfl, Nat.eq_of_beq_eq_true h6⟩)
  · cases h6
def qz_ck1 (T : pz_Tb) (My : pz_M) (y pc q W a : Nat) : Bool := qz_row T y pc (fun i a' _ => match i with | .invokestatic _ => Nat.beq a' a | _ => false) && (Nat.ble 1 (pz_mF My) && (Nat.beq W (pz_mW My) && Nat.beq q (pc + 3)))
theorem qz_ck1_at {W a : Nat} (h : qz_ck1 T My y pc q W a = true) : ∃ idx n9 b, T y pc = some (.invokestatic idx, n9, a, b) ∧ Nat.ble 1 (pz_mF My) = true ∧ W = pz_mW My ∧ q = pc + 3 := by
  unfold qz_ck1 at h
  rw [Bool.and_eq_true, Bool.and_eq_true, Bool.and_eq_true] at h
  obtain ⟨h1, h2, h3, h4⟩ := h
  obtain ⟨i', n9, a', b, e, h1⟩ := qz_row_at h1
  split at h1
  · have h1 := Nat.eq_of_beq_eq_true h1
    subst h1
    exact ⟨_, n9, b, e, h2, Nat.eq_of_beq_eq_true h3, Nat.eq_of_beq_eq_true h4⟩
  · cases h1
theorem ok_m9 {mx : Bool} {W : Nat} (hI : I y = some My) (h : qz_ck1 T My y pc q W (bif mx then 10001 else 10000) = true) : qz_Ok ph T I y My ls pc q (qn_m mx W) := by
  obtain ⟨idx, n9, b, h1, h2, h3, h4⟩ := qz_ck1_at h
  exact ok_m hI h1 h2 h3 h4
theorem ok_ml9 {W : Nat} (hI : I y = some My) (h : qz_ck1 T My y pc q W 10002 = true) : qz_Ok ph T I y My ls pc q (qn_ml W) := by
  obtain ⟨idx, n9, b, h1, h2, h3, h4⟩ := qz_ck1_at h
  exact ok_ml hI h1 h2 h3 h4
theorem ok_ac9 {W : Nat} (hI : I y = some My) (h : qz_ck1 T My y pc q W 10003 = true) : qz_Ok ph T I y My ls pc q (qn_ac W) := by
  obtain ⟨idx, n9, b, h1, h2, h3, h4⟩ := qz_ck1_at h
  exact ok_ac hI h1 h2 h3 h4
theorem ok_oi9 {W : Nat} (hI : I y = some My) (h : (qz_row T y pc (fun i a' _ => match i with | .invokespecial _ => Nat.beq a' 10004 | _ => false) && (Nat.ble 1 (pz_mF My) && (Nat.beq W (pz_mW My) && Nat.beq q (pc + 3)))) = true) : qz_Ok ph T I y My ls pc q (qn_oi W) := by
  rw [Bool.and_eq_true, Bool.and_eq_true, Bool.and_eq_true] at h
  obtain ⟨h1, h2, h3, h4⟩ := h
  obtain ⟨i', n9, a', b, e, h1⟩ := qz_row_at h1
  split at h1
  · have h1 := Nat.eq_of_beq_eq_true h1
    subst h1
    exact ok_oi hI e h2 (Nat.eq_of_beq_eq_true h3) (Nat.eq_of_beq_eq_true h4)
  · cases h1
theorem sd_none {Ma : pz_M} {a : Nat} : qz_Sd ph T I a Ma (fun _ _ => none) := fun _ _ _ _ h => by cases h
end Q9
