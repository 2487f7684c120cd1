/-! WHAT A PIECE ASKS: told as a proposition that reduces to a tree of conditions (k: what comes behind, by label; R: what the method's end is to be). -/
abbrev wz_K : Type := Nat → qz_X → Prop
abbrev wz_R : Type := qz_M → qz_Oc → Prop
abbrev wz_W : Type := wz_K → wz_R → qz_X → Prop
abbrev wz_k : Type := qz_X → Prop
def wz_rk (o : Option qz_R) (k : qz_R → Prop) : Prop := match o with | some r => k r | none => False
/-- what is written gets a name -/
def wz_wr (v : qz_M) (k : qz_M → Prop) : Prop := ∀ μ', μ' = v → k μ'
/-- a local gets a value; the list of locals stays written out -/
def wz_up1 (v : qz_V) (L : qz_L) (i : Nat) (k : qz_L → Prop) : Prop := match L, i with
  | [], _ => k []
  | _ :: L, 0 => k (some v :: L)
  | some (.inr (.inl _)) :: L, 1 => wz_up1 v L 0 (fun L' => k (none :: L'))
  | x :: L, i + 1 => wz_up1 v L i (fun L' => k (x :: L'))
def wz_up0 (L : qz_L) (i : Nat) (k : qz_L → Prop) : Prop := match L, i with
  | [], _ => k []
  | _ :: L, 0 => k (none :: L)
  | x :: L, i + 1 => wz_up0 L i (fun L' => k (x :: L'))
section WA
variable (L : qz_L) (st : List qz_V) (μ : qz_M) (k : wz_k)
def tz_ldi (i : Nat) : Prop := match L.getD i none with | some (.inl x) => k (L, .inl x :: st, μ) | _ => False
def tz_ldl (i : Nat) : Prop := match L.getD i none with | some (.inr (.inl x)) => k (L, .inr (.inl x) :: st, μ) | _ => False
def tz_lda (i : Nat) : Prop := match L.getD i none with | some (.inr (.inr (some x))) => k (L, .inr (.inr (some x)) :: st, μ) | _ => False
def tz_sti (i : Nat) : Prop := match st with | .inl x :: r => bif Nat.blt i L.length then wz_up1 (.inl x) L i (fun L' => k (L', r, μ)) else False | _ => False
def tz_sta (i : Nat) : Prop := match st with | .inr (.inr (some x)) :: r => bif Nat.blt i L.length then wz_up1 (.inr (.inr (some x))) L i (fun L' => k (L', r, μ)) else False | _ => False
def tz_stl (i : Nat) : Prop := match st with | .inr (.inl x) :: r => bif Nat.blt (i + 1) L.length then wz_up1 (.inr (.inl x)) L i (fun L' => wz_up0 L' (i + 1) (fun L'' => k (L'', r, μ))) else False | _ => False
def tz_inc (i : Nat) (n : Int) : Prop := match L.getD i none with | some (.inl x) => bif Nat.blt i L.length then wz_up1 (.inl (x + Int32.ofInt n)) L i (fun L' => k (L', st, μ)) else False | _ => False
def tz_bin (f : Int32 → Int32 → Int32) : Prop := match st with | .inl y :: .inl x :: r => k (L, .inl (f x y) :: r, μ) | _ => False
def tz_dv (f : Int32 → Int32 → Int32) : Prop := match st with | .inl y :: .inl x :: r => bif decide (y = 0) then False else k (L, .inl (f x y) :: r, μ) | _ => False
def tz_lbin (f : Int64 → Int64 → Int64) : Prop := match st with | .inr (.inl y) :: .inr (.inl x) :: r => k (L, .inr (.inl (f x y)) :: r, μ) | _ => False
def tz_ldv (f : Int64 → Int64 → Int64) : Prop := match st with | .inr (.inl y) :: .inr (.inl x) :: r => bif decide (y = 0) then False else k (L, .inr (.inl (f x y)) :: r, μ) | _ => False
def tz_neg : Prop := match st with | .inl x :: r => k (L, .inl (-x) :: r, μ) | _ => False
def tz_i2l : Prop := match st with | .inl x :: r => k (L, .inr (.inl x.toInt64) :: r, μ) | _ => False
def tz_i2c : Prop := match st with | .inl x :: r => k (L, .inl (x.toUInt32 % 65536).toInt32 :: r, μ) | _ => False
def tz_l2i : Prop := match st with | .inr (.inl x) :: r => k (L, .inl x.toInt32 :: r, μ) | _ => False
def tz_lcp : Prop := match st with | .inr (.inl y) :: .inr (.inl x) :: r => k (L, .inl (lg_cmp x y) :: r, μ) | _ => False
def tz_get (t n : Nat) : Prop := match st with
  | .inr (.inr (some r)) :: q => bif Nat.beq (qz_tag μ r) t && (Nat.blt t 6 && Nat.blt n (pz_n t)) then (bif Nat.beq (pz_kd (pz_ty t n)) 2 then wz_rk (qz_rf μ r n) (fun r' => k (L, .inr (.inr (some r')) :: q, μ)) else k (L, .inl (qz_im μ r.1 r.2.1 r.2.2 n) :: q, μ)) else False
  | _ => False
def tz_put (t n : Nat) (fin : Bool) : Prop := match st with
  | .inl v :: .inr (.inr (some r)) :: q => bif (Nat.beq (qz_tag μ r) t && Nat.blt t 6) && (!(pz_T t n).2.2.2 || fin) then (bif Nat.beq (pz_kd (pz_ty t n)) 0 || (Nat.beq (pz_kd (pz_ty t n)) 1 && (decide (v = 0) || decide (v = 1))) then wz_wr (qz_wI μ r n v) (fun μ' => k (L, q, μ')) else False) else False
  | .inr (.inr v) :: .inr (.inr (some r)) :: q => bif (Nat.beq (qz_tag μ r) t && Nat.blt t 6) && ((!(pz_T t n).2.2.2 || fin) && (Nat.beq (pz_kd (pz_ty t n)) 2 && qz_dy r n)) then wz_wr (qz_wR μ r n v) (fun μ' => k (L, q, μ')) else False
  | _ => False
def tz_ilo (t : Nat) : Prop := match st with
  | .inl j :: .inr (.inr (some r)) :: q => bif Nat.beq (qz_tag μ r) t && Nat.blt t 60 then (bif pz_out j (qz_len μ r) then False else k (L, .inl (qz_im μ r.1 r.2.1 r.2.2 j.toNatClampNeg) :: q, μ)) else False
  | _ => False
def tz_llo : Prop := match st with
  | .inl j :: .inr (.inr (some r)) :: q => bif Nat.beq (qz_tag μ r) 51 then (bif pz_out j (qz_len μ r) then False else k (L, .inr (.inl (qz_lm μ r.1 r.2.1 r.2.2 j.toNatClampNeg)) :: q, μ)) else False
  | _ => False
def tz_alo : Prop := match st with
  | .inl j :: .inr (.inr (some r)) :: q => bif Nat.beq (qz_tag μ r) 53 || Nat.beq (qz_tag μ r) 54 then (bif pz_out j (qz_len μ r) then False else wz_rk (qz_rf μ r j.toNatClampNeg) (fun r' => k (L, .inr (.inr (some r')) :: q, μ))) else False
  | _ => False
def tz_isto : Prop := match st with
  | .inl v :: .inl j :: .inr (.inr (some r)) :: q => bif Nat.beq (qz_tag μ r) 50 then (bif pz_out j (qz_len μ r) then False else wz_wr (qz_wI μ r j.toNatClampNeg v) (fun μ' => k (L, q, μ'))) else False
  | _ => False
def tz_bsto : Prop := match st with
  | .inl v :: .inl j :: .inr (.inr (some r)) :: q => bif Nat.beq (qz_tag μ r) 52 then (bif pz_out j (qz_len μ r) then False else (bif decide (v = 0) || decide (v = 1) then wz_wr (qz_wI μ r j.toNatClampNeg v) (fun μ' => k (L, q, μ')) else False)) else False
  | _ => False
def tz_lsto : Prop := match st with
  | .inr (.inl v) :: .inl j :: .inr (.inr (some r)) :: q => bif Nat.beq (qz_tag μ r) 51 then (bif pz_out j (qz_len μ r) then False else wz_wr (qz_wL μ r j.toNatClampNeg v) (fun μ' => k (L, q, μ'))) else False
  | _ => False
def tz_asto : Prop := match st with
  | .inr (.inr (some g)) :: .inl j :: .inr (.inr (some r)) :: q => bif Nat.beq (qz_tag μ r) 54 && (Nat.beq (qz_tag μ g) 1 && Nat.beq r.1 200) then (bif pz_out j (qz_len μ r) then False else wz_wr (qz_wR μ r j.toNatClampNeg (some g)) (fun μ' => k (L, q, μ'))) else False
  | _ => False
def tz_mnew : Prop := match st with
  | .inl m :: .inl n :: q => bif (decide (n < 0) || decide (m < 0)) || (Nat.blt 1000 n.toNatClampNeg || Nat.blt 1000 m.toNatClampNeg) then False else
    wz_wr (qz_alr (qz_al μ 50 n.toNatClampNeg m.toNatClampNeg n.toNatClampNeg (n.toNatClampNeg * m.toNatClampNeg)) 53 1 n.toNatClampNeg 1 n.toNatClampNeg (fun j => if j < n.toNatClampNeg then some (200, qz_na μ, j) else none)) (fun μ' => k (L, .inr (.inr (some (200, qz_na μ + 1, 0))) :: q, μ'))
  | _ => False
def tz_leng : Prop := match st with
  | .inr (.inr (some r)) :: q => bif pz_arr (qz_tag μ r) then k (L, .inl (Int32.ofNat (qz_len μ r)) :: q, μ) else False
  | _ => False
def tz_newa (tag : Nat) : Prop := match st with
  | .inl n :: q => bif decide (n < 0) || Nat.blt 1000000 n.toNatClampNeg then False else wz_wr (qz_al μ tag 1 n.toNatClampNeg 1 n.toNatClampNeg) (fun μ' => k (L, .inr (.inr (some (200, qz_na μ, 0))) :: q, μ'))
  | _ => False
def tz_new (t : Nat) : Prop := bif Nat.blt t 6 then wz_wr (qz_al μ t 1 0 1 (pz_n t)) (fun μ' => k (L, .inr (.inr (some (200, qz_na μ, 0))) :: st, μ')) else False
def tz_dup : Prop := match st with | v :: r => bif Nat.beq (qz_w1 v) 1 then k (L, v :: v :: r, μ) else False | _ => False
def tz_pop : Prop := match st with | v :: r => bif Nat.beq (qz_w1 v) 1 then k (L, r, μ) else False | _ => False
def tz_dupx1 : Prop := match st with | a :: b :: r => bif Nat.beq (qz_w1 a) 1 && Nat.beq (qz_w1 b) 1 then k (L, a :: b :: a :: r, μ) else False | _ => False
def tz_dupx2 : Prop := match st with | a :: b :: d :: r => bif Nat.beq (qz_w1 a) 1 && (Nat.beq (qz_w1 b) 1 && Nat.beq (qz_w1 d) 1) then k (L, a :: b :: d :: a :: r, μ) else False | _ => False
def tz_dup2 : Prop := match st with | a :: b :: r => bif Nat.beq (qz_w1 a) 1 && Nat.beq (qz_w1 b) 1 then k (L, a :: b :: a :: b :: r, μ) else False | _ => False
def tz_scl : Prop := match st with
  | .inl j :: .inr (.inr (some r)) :: q => bif (Nat.beq r.1 200 && (Nat.beq r.2.1 0 && Nat.beq r.2.2 0)) && Nat.beq (qz_tag μ (200, 0, 0)) 60 then (bif pz_out j (qz_len μ (200, 0, 0)) then False else k (L, .inl (qz_im μ 200 0 0 j.toNatClampNeg) :: q, μ)) else False
  | _ => False
def tz_scn : Prop := match st with
  | .inr (.inr (some r)) :: q => bif (Nat.beq r.1 200 && (Nat.beq r.2.1 0 && Nat.beq r.2.2 0)) && Nat.beq (qz_tag μ (200, 0, 0)) 60 then k (L, .inl (Int32.ofNat (qz_len μ (200, 0, 0))) :: q, μ) else False
  | _ => False
end WA
def tz_step (fin : Bool) (i : Instr) (a b : Nat) (L : qz_L) (st : List qz_V) (μ : qz_M) (k : wz_k) : Prop := match i with
  | .iconst n => k (L, .inl (Int32.ofInt n) :: st, μ)
  | .bipush n => k (L, .inl (Int8.ofInt n).toInt32 :: st, μ)
  | .sipush n => k (L, .inl (Int16.ofInt n).toInt32 :: st, μ)
  | .lconst n => k (L, .inr (.inl (Int64.ofNat (n : Nat))) :: st, μ)
  | .ldc _ => k (L, .inl (Int32.ofNat a) :: st, μ)
  | .ldc_w _ => k (L, .inl (Int32.ofNat a) :: st, μ)
  | .ldc2_w _ => k (L, .inr (.inl (pz_lcs.getD a 0)) :: st, μ)
  | .iload n => tz_ldi L st μ k n
  | .iload_n n => tz_ldi L st μ k n
  | .lload n => tz_ldl L st μ k n
  | .lload_n n => tz_ldl L st μ k n
  | .aload n => tz_lda L st μ k n
  | .aload_n n => tz_lda L st μ k n
  | .istore n => tz_sti L st μ k n
  | .istore_n n => tz_sti L st μ k n
  | .lstore n => tz_stl L st μ k n
  | .lstore_n n => tz_stl L st μ k n
  | .astore n => tz_sta L st μ k n
  | .astore_n n => tz_sta L st μ k n
  | .iinc n c => tz_inc L st μ k n c
  | .iadd => tz_bin L st μ k (fun x y => x + y)
  | .isub => tz_bin L st μ k (fun x y => x - y)
  | .imul => tz_bin L st μ k (fun x y => x * y)
  | .iand => tz_bin L st μ k (fun x y => x &&& y)
  | .ior => tz_bin L st μ k (fun x y => x ||| y)
  | .ixor => tz_bin L st μ k (fun x y => x ^^^ y)
  | .ishl => tz_bin L st μ k (fun x y => x <<< (y &&& 31))
  | .ishr => tz_bin L st μ k (fun x y => x >>> (y &&& 31))
  | .idiv => tz_dv L st μ k (fun x y => x / y)
  | .irem => tz_dv L st μ k (fun x y => x - x / y * y)
  | .ineg => tz_neg L st μ k
  | .i2l => tz_i2l L st μ k
  | .i2c => tz_i2c L st μ k
  | .l2i => tz_l2i L st μ k
  | .ladd => tz_lbin L st μ k (fun x y => x + y)
  | .lsub => tz_lbin L st μ k (fun x y => x - y)
  | .lmul => tz_lbin L st μ k (fun x y => x * y)
  | .ldiv => tz_ldv L st μ k (fun x y => x / y)
  | .lrem => tz_ldv L st μ k (fun x y => x - x / y * y)
  | .lcmp => tz_lcp L st μ k
  | .dup => tz_dup L st μ k
  | .pop => tz_pop L st μ k
  | .dup_x1 => tz_dupx1 L st μ k
  | .dup_x2 => tz_dupx2 L st μ k
  | .dup2 => tz_dup2 L st μ k
  | .getfield _ => tz_get L st μ k a b
  | .putfield _ => tz_put L st μ k a b fin
  | .iaload => bif Nat.beq a 60 then tz_scl L st μ k else tz_ilo L st μ k 50
  | .baload => tz_ilo L st μ k 52
  | .laload => tz_llo L st μ k
  | .aaload => tz_alo L st μ k
  | .iastore => tz_isto L st μ k
  | .bastore => tz_bsto L st μ k
  | .lastore => tz_lsto L st μ k
  | .aastore => tz_asto L st μ k
  | .arraylength => bif Nat.beq a 60 then tz_scn L st μ k else tz_leng L st μ k
  | .newarray .int => tz_newa L st μ k 50
  | .newarray .long => tz_newa L st μ k 51
  | .newarray .boolean => tz_newa L st μ k 52
  | .anewarray _ => tz_newa L st μ k 54
  | .multianewarray _ _ => tz_mnew L st μ k
  | .new _ => tz_new L st μ k a
  | _ => False
theorem wz_bif {c : Bool} {A B : Prop} (h : bif c then A else B) (hB : ¬ B) : c = true ∧ A := by
  cases c
  · exact absurd h hB
  · exact ⟨rfl, h⟩
theorem wz_bif2 {c : Bool} {A : Prop} (h : bif c then False else A) : c = false ∧ A := by
  cases c
  · exact ⟨rfl, h⟩
  · exact h.elim
theorem wz_rk_at {o : Option qz_R} {k : qz_R → Prop} (h : wz_rk o k) : ∃ r, o = some r ∧ k r := by
  cases o with
  | none => exact h.elim
  | some r => exact ⟨r, rfl, h⟩
theorem wz_up1_ok {v : qz_V} : ∀ {L : qz_L} {i : Nat} {k : qz_L → Prop}, wz_up1 v L i k → k (qz_st1 L i v)
  | [], 0, k, h => h
  | [], i + 1, k, h => by
    unfold wz_up1 at h
    exact h
  | x :: L, 0, k, h => by
    unfold wz_up1 at h
    exact h
  | x :: L, 1, k, h => by
    have e : ∀ y z, (match x with | some (.inr (.inl _)) => (none : Option qz_V) | _ => x) = y → (z = y :: qz_st1 L 0 v → k z) → True := fun _ _ _ _ => trivial
    match x, h with
    | some (.inr (.inl w)), h => exact wz_up1_ok (L := L) (i := 0) (k := fun L' => k (none :: L')) h
    | some (.inl w), h => exact wz_up1_ok (L := L) (i := 0) (k := fun L' => k (some (.inl w) :: L')) h
    | some (.inr (.inr w)), h => exact wz_up1_ok (L := L) (i := 0) (k := fun L' => k (some (.inr (.inr w)) :: L')) h
    | none, h => exact wz_up1_ok (L := L) (i := 0) (k := fun L' => k (none :: L')) h
  | x :: L, i + 2, k, h => by
    have h' : wz_up1 v L (i + 1) (fun L' => k (x :: L')) := by
      match x, h with
      | some (.inr (.inl w)), h => exact h
      | some (.inl w), h => exact h
      | some (.inr (.inr w)), h => exact h
      | none, h => exact h
    have := wz_up1_ok (L := L) (i := i + 1) (k := fun L' => k (x :: L')) h'
    have e : qz_st1 (x :: L) (i + 2) v = x :: qz_st1 L (i + 1) v := by
      unfold qz_st1 qz_kill
      dsimp only
      rw [List.getD_cons_succ]
      match L.getD i none with
      | some (.inr (.inl w)) => rfl
      | some (.inl w) => rfl
      | some (.inr (.inr w)) => rfl
      | none => rfl
    rw [e]
    exact this
theorem wz_up0_ok : ∀ {L : qz_L} {i : Nat} {k : qz_L → Prop}, wz_up0 L i k → k (L.set i none)
  | [], i, k, h => by
    unfold wz_up0 at h
    exact h
  | x :: L, 0, k, h => h
  | x :: L, i + 1, k, h => wz_up0_ok (L := L) (i := i) (k := fun L' => k (x :: L')) h
section WB
variable {L : qz_L} {st : List qz_V} {μ : qz_M} {k : wz_k}
theorem wz_tt {c : Bool} {x y : qz_Q} (h : c = true) : (bif c then x else y) = x := by rw [h]; rfl
theorem wz_ff {c : Bool} {x y : qz_Q} (h : c = false) : (bif c then x else y) = y := by rw [h]; rfl
theorem wt_ldi {i : Nat} (h : tz_ldi L st μ k i) : ∃ x', qz_ldi L st μ i = some x' ∧ k x' := by
  unfold tz_ldi at h
  split at h
  · rename_i x hx
    refine ⟨_, ?_, h⟩
    unfold qz_ldi
    rw [hx]
  · exact h.elim
theorem wt_ldl {i : Nat} (h : tz_ldl L st μ k i) : ∃ x', qz_ldl L st μ i = some x' ∧ k x' := by
  unfold tz_ldl at h
  split at h
  · rename_i x hx
    refine ⟨_, ?_, h⟩
    unfold qz_ldl
    rw [hx]
  · exact h.elim
theorem wt_lda {i : Nat} (h : tz_lda L st μ k i) : ∃ x', qz_lda L st μ i = some x' ∧ k x' := by
  unfold tz_lda at h
  split at h
  · rename_i x hx
    refine ⟨_, ?_, h⟩
    unfold qz_lda
    rw [hx]
  · exact h.elim
theorem wt_sti {i : Nat} (h : tz_sti L st μ k i) : ∃ x', qz_sti L st μ i = some x' ∧ k x' := by
  unfold tz_sti at h
  split at h
  · obtain ⟨h1, h⟩ := wz_bif h id
    exact ⟨_, wz_tt h1, wz_up1_ok h⟩
  · exact h.elim
theorem wt_sta {i : Nat} (h : tz_sta L st μ k i) : ∃ x', qz_sta L st μ i = some x' ∧ k x' := by
  unfold tz_sta at h
  split at h
  · obtain ⟨h1, h⟩ := wz_bif h id
    exact ⟨_, wz_tt h1, wz_up1_ok h⟩
  · exact h.elim
theorem wt_stl {i : Nat} (h : tz_stl L st μ k i) : ∃ x', qz_stl L st μ i = some x' ∧ k x' := by
  unfold tz_stl at h
  split at h
  · obtain ⟨h1, h⟩ := wz_bif h id
    exact ⟨_, wz_tt h1, wz_up0_ok (wz_up1_ok h)⟩
  · exact h.elim
theorem wt_inc {i : Nat} {n : Int} (h : tz_inc L st μ k i n) : ∃ x', qz_inc L st μ i n = some x' ∧ k x' := by
  unfold tz_inc at h
  split at h
  · rename_i x hx
    obtain ⟨h1, h⟩ := wz_bif h id
    refine ⟨_, ?_, wz_up1_ok h⟩
    unfold qz_inc
    rw [hx]
    exact wz_tt h1
  · exact h.elim
theorem wt_bin {f : Int32 → Int32 → Int32} (h : tz_bin L st μ k f) : ∃ x', qz_bin L st μ f = some x' ∧ k x' := by
  unfold tz_bin at h
  split at h
  · exact ⟨_, rfl, h⟩
  · exact h.elim
theorem wt_lbin {f : Int64 → Int64 → Int64} (h : tz_lbin L st μ k f) : ∃ x', qz_lbin L st μ f = some x' ∧ k x' := by
  unfold tz_lbin at h
  split at h
  · exact ⟨_, rfl, h⟩
  · exact h.elim
theorem wt_dv {f : Int32 → Int32 → Int32} (h : tz_dv L st μ k f) : ∃ x', qz_dv L st μ f = some x' ∧ k x' := by
  unfold tz_dv at h
  split at h
  · obtain ⟨h1, h⟩ := wz_bif2 h
    exact ⟨_, if_neg (of_decide_eq_false h1), h⟩
  · exact h.elim
theorem wt_ldv {f : Int64 → Int64 → Int64} (h : tz_ldv L st μ k f) : ∃ x', qz_ldv L st μ f = some x' ∧ k x' := by
  unfold tz_ldv at h
  split at h
  · obtain ⟨h1, h⟩ := wz_bif2 h
    exact ⟨_, if_neg (of_decide_eq_false h1), h⟩
  · exact h.elim
theorem wt_neg (h : tz_neg L st μ k) : ∃ x', qz_neg L st μ = some x' ∧ k x' := by
  unfold tz_neg at h
  split at h
  · exact ⟨_, rfl, h⟩
  · exact h.elim
theorem wt_i2l (h : tz_i2l L st μ k) : ∃ x', qz_i2l L st μ = some x' ∧ k x' := by
  unfold tz_i2l at h
  split at h
  · exact ⟨_, rfl, h⟩
  · exact h.elim
theorem wt_i2c (h : tz_i2c L st μ k) : ∃ x', qz_i2c L st μ = some x' ∧ k x' := by
  unfold tz_i2c at h
  split at h
  · exact ⟨_, rfl, h⟩
  · exact h.elim
theorem wt_l2i (h : tz_l2i L st μ k) : ∃ x', qz_l2i L st μ = some x' ∧ k x' := by
  unfold tz_l2i at h
  split at h
  · exact ⟨_, rfl, h⟩
  · exact h.elim
theorem wt_lcp (h : tz_lcp L st μ k) : ∃ x', qz_lcp L st μ = some x' ∧ k x' := by
  unfold tz_lcp at h
  split at h
  · exact ⟨_, rfl, h⟩
  · exact h.elim
theorem wt_get {t n : Nat} (h : tz_get L st μ k t n) : ∃ x', qz_get L st μ t n = some x' ∧ k x' := by
  unfold tz_get at h
  split at h
  · obtain ⟨h1, h⟩ := wz_bif h id
    cases h2 : Nat.beq (pz_kd (pz_ty t n)) 2
    · rw [h2] at h
      exact ⟨_, (wz_tt h1).trans (wz_ff h2), h⟩
    · rw [h2] at h
      obtain ⟨r', e, h⟩ := wz_rk_at h
      refine ⟨_, (wz_tt h1).trans (wz_tt h2), ?_⟩
      rw [e]
      exact h
  · exact h.elim
theorem wt_put {t n : Nat} {fin : Bool} (h : tz_put L st μ k t n fin) : ∃ x', qz_put L st μ t n fin = some x' ∧ k x' := by
  unfold tz_put at h
  split at h
  · obtain ⟨h1, h⟩ := wz_bif h id
    obtain ⟨h2, h⟩ := wz_bif h id
    refine ⟨_, wz_tt ?_, h _ rfl⟩
    rw [Bool.and_eq_true] at h1
    rw [h1.1, h1.2, h2]
    rfl
  · obtain ⟨h1, h⟩ := wz_bif h id
    exact ⟨_, wz_tt h1, h _ rfl⟩
  · exact h.elim
theorem wt_ilo {t : Nat} (h : tz_ilo L st μ k t) : ∃ x', qz_ilo L st μ t = some x' ∧ k x' := by
  unfold tz_ilo at h
  split at h
  · obtain ⟨h1, h⟩ := wz_bif h id
    obtain ⟨h2, h⟩ := wz_bif2 h
    refine ⟨_, wz_tt ?_, h⟩
    rw [Bool.and_eq_true] at h1
    rw [h1.1, h1.2, h2]
    rfl
  · exact h.elim
theorem wt_llo (h : tz_llo L st μ k) : ∃ x', qz_llo L st μ = some x' ∧ k x' := by
  unfold tz_llo at h
  split at h
  · obtain ⟨h1, h⟩ := wz_bif h id
    obtain ⟨h2, h⟩ := wz_bif2 h
    exact ⟨_, wz_tt (by rw [h1, h2]; rfl), h⟩
  · exact h.elim
theorem wt_isto (h : tz_isto L st μ k) : ∃ x', qz_isto L st μ = some x' ∧ k x' := by
  unfold tz_isto at h
  split at h
  · obtain ⟨h1, h⟩ := wz_bif h id
    obtain ⟨h2, h⟩ := wz_bif2 h
    exact ⟨_, wz_tt (by rw [h1, h2]; rfl), h _ rfl⟩
  · exact h.elim
theorem wt_lsto (h : tz_lsto L st μ k) : ∃ x', qz_lsto L st μ = some x' ∧ k x' := by
  unfold tz_lsto at h
  split at h
  · obtain ⟨h1, h⟩ := wz_bif h id
    obtain ⟨h2, h⟩ := wz_bif2 h
    exact ⟨_, wz_tt (by rw [h1, h2]; rfl), h _ rfl⟩
  · exact h.elim
theorem wt_alo (h : tz_alo L st μ k) : ∃ x', qz_alo L st μ = some x' ∧ k x' := by
  unfold tz_alo at h
  split at h
  · obtain ⟨h1, h⟩ := wz_bif h id
    obtain ⟨h2, h⟩ := wz_bif2 h
    obtain ⟨r', e, h⟩ := wz_rk_at h
    refine ⟨_, wz_tt (by rw [h1, h2]; rfl), ?_⟩
    rw [e]
    exact h
  · exact h.elim
theorem wt_bsto (h : tz_bsto L st μ k) : ∃ x', qz_bsto L st μ = some x' ∧ k x' := by
  unfold tz_bsto at h
  split at h
  · obtain ⟨h1, h⟩ := wz_bif h id
    obtain ⟨h2, h⟩ := wz_bif2 h
    obtain ⟨h3, h⟩ := wz_bif h id
    exact ⟨_, wz_tt (by rw [h1, h2, h3]; rfl), h _ rfl⟩
  · exact h.elim
theorem wt_asto (h : tz_asto L st μ k) : ∃ x', qz_asto L st μ = some x' ∧ k x' := by
  unfold tz_asto at h
  split at h
  · obtain ⟨h1, h⟩ := wz_bif h id
    obtain ⟨h2, h⟩ := wz_bif2 h
    exact ⟨_, wz_tt (by rw [h1, h2]; rfl), h _ rfl⟩
  · exact h.elim
theorem wt_mnew (h : tz_mnew L st μ k) : ∃ x', qz_mnew L st μ = some x' ∧ k x' := by
  unfold tz_mnew at h
  split at h
  · obtain ⟨h1, h⟩ := wz_bif2 h
    exact ⟨_, wz_ff h1, h _ rfl⟩
  · exact h.elim
theorem wt_leng (h : tz_leng L st μ k) : ∃ x', qz_leng L st μ = some x' ∧ k x' := by
  unfold tz_leng at h
  split at h
  · obtain ⟨h1, h⟩ := wz_bif h id
    exact ⟨_, wz_tt h1, h⟩
  · exact h.elim
theorem wt_newa {t : Nat} (h : tz_newa L st μ k t) : ∃ x', qz_newa L st μ t = some x' ∧ k x' := by
  unfold tz_newa at h
  split at h
  · obtain ⟨h1, h⟩ := wz_bif2 h
    exact ⟨_, wz_ff h1, h _ rfl⟩
  · exact h.elim
theorem wt_new {t : Nat} (h : tz_new L st μ k t) : ∃ x', qz_new L st μ t = some x' ∧ k x' := by
  unfold tz_new at h
  obtain ⟨h1, h⟩ := wz_bif h id
  exact ⟨_, wz_tt h1, h _ rfl⟩
theorem wt_dup (h : tz_dup L st μ k) : ∃ x', qz_dup L st μ = some x' ∧ k x' := by
  unfold tz_dup at h
  split at h
  · obtain ⟨h1, h⟩ := wz_bif h id
    exact ⟨_, wz_tt h1, h⟩
  · exact h.elim
theorem wt_pop (h : tz_pop L st μ k) : ∃ x', qz_pop L st μ = some x' ∧ k x' := by
  unfold tz_pop at h
  split at h
  · obtain ⟨h1, h⟩ := wz_bif h id
    exact ⟨_, wz_tt h1, h⟩
  · exact h.elim
theorem wt_dupx1 (h : tz_dupx1 L st μ k) : ∃ x', qz_dupx1 L st μ = some x' ∧ k x' := by
  unfold tz_dupx1 at h
  split at h
  · obtain ⟨h1, h⟩ := wz_bif h id
    exact ⟨_, wz_tt h1, h⟩
  · exact h.elim
theorem wt_dupx2 (h : tz_dupx2 L st μ k) : ∃ x', qz_dupx2 L st μ = some x' ∧ k x' := by
  unfold tz_dupx2 at h
  split at h
  · obtain ⟨h1, h⟩ := wz_bif h id
    exact ⟨_, wz_tt h1, h⟩
  · exact h.elim
theorem wt_dup2 (h : tz_dup2 L st μ k) : ∃ x', qz_dup2 L st μ = some x' ∧ k x' := by
  unfold tz_dup2 at h
  split at h
  · obtain ⟨h1, h⟩ := wz_bif h id
    exact ⟨_, wz_tt h1, h⟩
  · exact h.elim
theorem wt_scl (h : tz_scl L st μ k) : ∃ x', qz_scl L st μ = some x' ∧ k x' := by
  unfold tz_scl at h
  split at h
  · obtain ⟨h1, h⟩ := wz_bif h id
    obtain ⟨h2, h⟩ := wz_bif2 h
    rw [Bool.and_eq_true] at h1
    exact ⟨_, wz_tt (by rw [h1.1, h1.2, h2]; rfl), h⟩
  · exact h.elim
theorem wt_scn (h : tz_scn L st μ k) : ∃ x', qz_scn L st μ = some x' ∧ k x' := by
  unfold tz_scn at h
  split at h
  · obtain ⟨h1, h⟩ := wz_bif h id
    exact ⟨_, wz_tt h1, h⟩
  · exact h.elim
set_option maxHeartbeats 4000000 in
theorem tz_step_ok {fin : Bool} {i : Instr} {a b : Nat} (h : tz_step fin i a b L st μ k) : ∃ x', qz_step fin i a b L st μ = some x' ∧ k x' := by
  unfold tz_step at h
  split at h
  · exact ⟨_, rfl, h⟩
  · exact ⟨_, rfl, h⟩
  · exact ⟨_, rfl, h⟩
  · exact ⟨_, rfl, h⟩
  · exact ⟨_, rfl, h⟩
  · exact ⟨_, rfl, h⟩
  · exact ⟨_, rfl, h⟩
  · exact wt_ldi h
  · exact wt_ldi h
  · exact wt_ldl h
  · exact wt_ldl h
  · exact wt_lda h
  · exact wt_lda h
  · exact wt_sti h
  · exact wt_sti h
  · exact wt_stl h
  · exact wt_stl h
  · exact wt_sta h
  · exact wt_sta h
  · exact wt_inc h
  · exact wt_bin h
  · exact wt_bin h
  · exact wt_bin h
  · exact wt_bin h
  · exact wt_bin h
  · exact wt_bin h
  · exact wt_bin h
  · exact wt_bin h
  · exact wt_dv h
  · exact wt_dv h
  · exact wt_neg h
  · exact wt_i2l h
  · exact wt_i2c h
  · exact wt_l2i h
  · exact wt_lbin h
  · exact wt_lbin h
  · exact wt_lbin h
  · exact wt_ldv h
  · exact wt_ldv h
  · exact wt_lcp h
  · exact wt_dup h
  · exact wt_pop h
  · exact wt_dupx1 h
  · exact wt_dupx2 h
  · exact wt_dup2 h
  · exact wt_get h
  · exact wt_put h
  · cases hb : Nat.beq a 60
    · rw [hb] at h
      obtain ⟨x', e, h⟩ := wt_ilo h
      exact ⟨x', (wz_ff hb).trans e, h⟩
    · rw [hb] at h
      obtain ⟨x', e, h⟩ := wt_scl h
      exact ⟨x', (wz_tt hb).trans e, h⟩
  · exact wt_ilo h
  · exact wt_llo h
  · exact wt_alo h
  · exact wt_isto h
  · exact wt_bsto h
  · exact wt_lsto h
  · exact wt_asto h
  · cases hb : Nat.beq a 60
    · rw [hb] at h
      obtain ⟨x', e, h⟩ := wt_leng h
      exact ⟨x', (wz_ff hb).trans e, h⟩
    · rw [hb] at h
      obtain ⟨x', e, h⟩ := wt_scn h
      exact ⟨x', (wz_tt hb).trans e, h⟩
  · exact wt_newa h
  · exact wt_newa h
  · exact wt_newa h
  · exact wt_newa h
  · exact wt_mnew h
  · exact wt_new h
  · exact h.elim
end WB
/-! pieces -/
def tz_ins (K g : Nat) (rs : qz_Rs) (x : qz_X) (k : wz_k) : Prop := match rs with
  | [] => k x
  | r :: q => tz_step (Nat.beq K 2 && Nat.beq g r.2.1) r.1 r.2.1 r.2.2 x.1 x.2.1 x.2.2 (fun x' => tz_ins K g q x' k)
def tz_cnd (i : Instr) (st : List qz_V) (k : Bool → List qz_V → Prop) : Prop := match i with
  | .ifCond .eq _ => (match st with | .inl x :: r => k (decide (x = 0)) r | _ => False)
  | .ifCond .ne _ => (match st with | .inl x :: r => k (!decide (x = 0)) r | _ => False)
  | .ifCond .lt _ => (match st with | .inl x :: r => k (decide (x < 0)) r | _ => False)
  | .ifCond .ge _ => (match st with | .inl x :: r => k (decide (0 ≤ x)) r | _ => False)
  | .ifCond .gt _ => (match st with | .inl x :: r => k (decide (0 < x)) r | _ => False)
  | .ifCond .le _ => (match st with | .inl x :: r => k (decide (x ≤ 0)) r | _ => False)
  | .if_icmp .eq _ => (match st with | .inl y :: .inl x :: r => k (decide (x = y)) r | _ => False)
  | .if_icmp .ne _ => (match st with | .inl y :: .inl x :: r => k (!decide (x = y)) r | _ => False)
  | .if_icmp .lt _ => (match st with | .inl y :: .inl x :: r => k (decide (x < y)) r | _ => False)
  | .if_icmp .ge _ => (match st with | .inl y :: .inl x :: r => k (decide (y ≤ x)) r | _ => False)
  | .if_icmp .gt _ => (match st with | .inl y :: .inl x :: r => k (decide (y < x)) r | _ => False)
  | .if_icmp .le _ => (match st with | .inl y :: .inl x :: r => k (decide (x ≤ y)) r | _ => False)
  | _ => False
theorem tz_cnd_ok {i : Instr} {st : List qz_V} {k : Bool → List qz_V → Prop} (h : tz_cnd i st k) : ∃ c r, qz_cnd i st = some (c, r) ∧ k c r := by
  unfold tz_cnd at h
  split at h
  all_goals first | exact h.elim | skip
  all_goals
    split at h
    · exact ⟨_, _, rfl, h⟩
    · exact h.elim
def wz_E (k : wz_K) (R : wz_R) (e : qz_E) : Prop := match e with | .inl (n, x') => k n x' | .inr (μ, o) => R μ o
def wz_S (G : wz_W) (F : qz_F) : Prop := ∀ k R x, G k R x → ∃ e, F x = some e ∧ wz_E k R e
def wz_call (f : qz_Fn) (as : List qz_V) (μ : qz_M) (Q : wz_R) : Prop := ∃ μ' o, f as μ = some (μ', o) ∧ Q μ' o
def wi (K g : Nat) (rs : qz_Rs) : wz_W := fun k _ x => tz_ins K g rs x (k 0)
def wd (ms : List Bool) : wz_W := fun k _ x => k 0 (qz_fg ms x.1, x.2)
def wz_sk (G : wz_W) (k : wz_K) (R : wz_R) : wz_K := fun n x' => match n with | 0 => G k R x' | n + 1 => k (n + 1) x'
def wz_kb (k : wz_K) : wz_K := fun n x' => match n with | 0 => k 0 x' | n + 1 => k n x'
def wz_k0 : wz_K := fun _ _ => False
def ws (F G : wz_W) : wz_W := fun k R x => F (wz_sk G k R) R x
def wb (F : wz_W) : wz_W := fun k R x => F (wz_kb k) R x
def wc (i : Instr) (n : Nat) : wz_W := fun k _ x => tz_cnd i x.2.1 (fun c r => bif c then k (n + 1) (x.1, r, x.2.2) else k 0 (x.1, r, x.2.2))
def wg (n : Nat) : wz_W := fun k _ x => k (n + 1) x
def wz_sw (v lo : Int) (ds : List Nat) (d : Nat) (k : Nat → Prop) : Prop := match ds with
  | [] => k d
  | e :: ds => bif decide (v = lo) then k e else wz_sw v (lo + 1) ds d k
def ww (lo hi : Int) (ds : List Nat) (d : Nat) : wz_W := fun k _ x => match x.2.1 with
  | .inl v :: r => bif decide (hi - lo + 1 = (ds.length : Int)) then (bif decide (v.toInt < lo) || decide (hi < v.toInt) then k (d + 1) (x.1, r, x.2.2) else wz_sw v.toInt lo ds d (fun n => k (n + 1) (x.1, r, x.2.2))) else False
  | _ => False
def wz_kr (R : Option FieldType) : Nat := match R with | some .int => 0 | some .boolean => 1 | some .long => 2 | some (.object _) => 3 | some (.array _) => 3 | none => 4 | _ => 5
def wr (i : Instr) (Rt : Option FieldType) : wz_W := fun _ R x => match i with
  | .ireturn => (match x.2.1 with
    | [.inl v] => bif Nat.beq (wz_kr Rt) 0 || (Nat.beq (wz_kr Rt) 1 && (decide (v = 0) || decide (v = 1))) then R x.2.2 (.inl (some (.inl v))) else False
    | _ => False)
  | .lreturn => (match x.2.1 with
    | [.inr (.inl v)] => bif Nat.beq (wz_kr Rt) 2 then R x.2.2 (.inl (some (.inr (.inl v)))) else False
    | _ => False)
  | .areturn => (match x.2.1 with
    | [.inr (.inr v)] => bif Nat.beq (wz_kr Rt) 3 then R x.2.2 (.inl (some (.inr (.inr v)))) else False
    | _ => False)
  | .return_ => (match x.2.1 with
    | [] => bif Nat.beq (wz_kr Rt) 4 then R x.2.2 (.inl none) else False
    | _ => False)
  | _ => False
def wt (W E : Nat) : wz_W := fun _ R x => bif Nat.ble (qz_wt x.2.1 + 82) W then R (qz_kk x.2.2 1 6) (.inr E) else False
/-- what comes behind a call, by the kind of its result: 0 an int, 2 a long, 3 a reference, 4 nothing -/
def wz_ex (kd : Nat) (hs : List (Nat × Nat)) (L : qz_L) (k : wz_K) (R : wz_R) (μ : qz_M) (E : Nat) : Prop := bif Nat.beq kd 2 then False else match hs with
    | [] => R μ (.inr E)
    | _ => match qz_hn hs E with
      | some h => k (h + 1) (L, [.inr (.inr (some (200, qz_na μ, 0)))], qz_al μ 99 0 0 0 0)
      | none => False
def wz_cI (f : qz_Fn) (as : List qz_V) (μ : qz_M) (kv : qz_M → Int32 → Prop) (ke : qz_M → Nat → Prop) : Prop := wz_call f as μ (fun μ' o => match o with | .inl (some (.inl v)) => kv μ' v | .inr E => ke μ' E | _ => False)
def wz_cJ (f : qz_Fn) (as : List qz_V) (μ : qz_M) (kv : qz_M → Int64 → Prop) (ke : qz_M → Nat → Prop) : Prop := wz_call f as μ (fun μ' o => match o with | .inl (some (.inr (.inl v))) => kv μ' v | .inr E => ke μ' E | _ => False)
def wz_cR (f : qz_Fn) (as : List qz_V) (μ : qz_M) (kv : qz_M → qz_R → Prop) (ke : qz_M → Nat → Prop) : Prop := wz_call f as μ (fun μ' o => match o with | .inl (some (.inr (.inr (some v)))) => kv μ' v | .inr E => ke μ' E | _ => False)
def wz_cV (f : qz_Fn) (as : List qz_V) (μ : qz_M) (kv : qz_M → Prop) (ke : qz_M → Nat → Prop) : Prop := wz_call f as μ (fun μ' o => match o with | .inl none => kv μ' | .inr E => ke μ' E | _ => False)
def wz_cl (rk : Nat) (f : qz_Fn) (as : List qz_V) (μ : qz_M) (k : qz_M → Option qz_V → Prop) (ke : qz_M → Nat → Prop) : Prop := match rk with
  | 0 => wz_cI f as μ (fun μ' v => k μ' (some (.inl v))) ke
  | 2 => wz_cJ f as μ (fun μ' v => k μ' (some (.inr (.inl v)))) ke
  | 3 => wz_cR f as μ (fun μ' v => k μ' (some (.inr (.inr (some v))))) ke
  | _ => wz_cV f as μ (fun μ' => k μ' none) ke
def wz_psh (v : Option qz_V) (rest : List qz_V) : List qz_V := match v with | some v => v :: rest | none => rest
def wk (f : qz_Fn) (n l kd t : Nat) (hs : List (Nat × Nat)) (rk : Nat) : wz_W := fun k R x => match qz_args n x.2.1 with
  | none => False
  | some (as, rest) => bif (Nat.ble (qz_wt rest) 8 && Nat.ble (qz_es as).length l) && (Nat.beq kd 0 || qz_rcv x.2.2 t as) then wz_cl rk f as x.2.2 (fun μ' v => k 0 (x.1, wz_psh v rest, μ')) (wz_ex kd hs x.1 k R) else False
def wz_loop (F : qz_F) (N : Nat) (k : wz_K) (R : wz_R) (x : qz_X) : Prop := ∃ e, qn_l F N x = some e ∧ wz_E k R e
def wl (F : qz_F) (N : Nat) : wz_W := fun k R x => wz_loop F N k R x
def wm (mx : Bool) (W : Nat) : wz_W := fun k _ x => match x.2.1 with
  | .inl v :: .inl u :: r => bif Nat.ble (qz_wt r + 13) W then k 0 (x.1, .inl (bif mx then (if u < v then v else u) else (if v < u then v else u)) :: r, x.2.2) else False
  | _ => False
def wml (W : Nat) : wz_W := fun k _ x => match x.2.1 with
  | .inr (.inl v) :: .inr (.inl u) :: r => bif Nat.ble (qz_wt r + 15) W then k 0 (x.1, .inr (.inl (if v < u then u else v)) :: r, x.2.2) else False
  | _ => False
def wac (W : Nat) : wz_W := fun k _ x => match x.2.1 with
  | .inl n :: .inl dp :: .inr (.inr (some g)) :: .inl sp :: .inr (.inr (some f)) :: r =>
    bif Nat.ble (qz_wt r + 18) W && (Nat.beq (qz_tag x.2.2 f) 50 && Nat.beq (qz_tag x.2.2 g) 50) then
      ((¬ sp < 0 ∧ ¬ dp < 0 ∧ ¬ n < 0 ∧ sp.toNatClampNeg + n.toNatClampNeg ≤ qz_len x.2.2 f ∧ dp.toNatClampNeg + n.toNatClampNeg ≤ qz_len x.2.2 g) ∧
      wz_wr (qz_wC x.2.2 g (va_cpy (qz_im x.2.2 f.1 f.2.1 f.2.2) (qz_im x.2.2 g.1 g.2.1 g.2.2) sp.toNatClampNeg dp.toNatClampNeg n.toNatClampNeg)) (fun μ' => k 0 (x.1, r, μ')))
    else False
  | _ => False
def woi (W : Nat) : wz_W := fun k _ x => match x.2.1 with
  | .inr (.inr (some _)) :: r => bif Nat.ble (qz_wt r + 12) W then k 0 (x.1, r, x.2.2) else False
  | _ => False
theorem tz_ins_ok {K g : Nat} : ∀ {rs : qz_Rs} {x : qz_X} {k : wz_k}, tz_ins K g rs x k → ∃ x', qz_ins K g rs x = some x' ∧ k x'
  | [], x, k, h => ⟨x, rfl, h⟩
  | r :: q, x, k, h => by
    obtain ⟨x1, e1, h⟩ := tz_step_ok h
    obtain ⟨x2, e2, h⟩ := tz_ins_ok (rs := q) h
    refine ⟨x2, ?_, h⟩
    unfold qz_ins
    rw [e1]
    exact e2
theorem s_i {K g : Nat} {rs : qz_Rs} : wz_S (wi K g rs) (qn_i K g rs) := fun k R x h => by
  obtain ⟨x', e, h⟩ := tz_ins_ok h
  refine ⟨.inl (0, x'), ?_, h⟩
  unfold qn_i
  rw [e]
theorem s_d {ms : List Bool} : wz_S (wd ms) (qn_d ms) := fun k R x h => ⟨_, rfl, h⟩
theorem s_s {F G : wz_W} {f g : qz_F} (hF : wz_S F f) (hG : wz_S G g) : wz_S (ws F G) (qn_s f g) := fun k R x h => by
  obtain ⟨e, e1, h⟩ := hF _ _ _ h
  match e, e1, h with
  | .inl (0, x'), e1, h =>
    obtain ⟨e2, e3, h⟩ := hG _ _ _ h
    refine ⟨e2, ?_, h⟩
    unfold qn_s
    rw [e1]
    exact e3
  | .inl (n + 1, x'), e1, h =>
    refine ⟨.inl (n + 1, x'), ?_, h⟩
    unfold qn_s
    rw [e1]
    rfl
  | .inr r, e1, h =>
    refine ⟨.inr r, ?_, h⟩
    unfold qn_s
    rw [e1]
theorem s_b {F : wz_W} {f : qz_F} (hF : wz_S F f) : wz_S (wb F) (qn_b f) := fun k R x h => by
  obtain ⟨e, e1, h⟩ := hF _ _ _ h
  match e, e1, h with
  | .inl (0, x'), e1, h =>
    refine ⟨.inl (0, x'), ?_, h⟩
    unfold qn_b
    rw [e1]
    rfl
  | .inl (n + 1, x'), e1, h =>
    refine ⟨.inl (n, x'), ?_, h⟩
    unfold qn_b
    rw [e1]
    rfl
  | .inr r, e1, h =>
    refine ⟨.inr r, ?_, h⟩
    unfold qn_b
    rw [e1]
    rfl
theorem s_c {i : Instr} {n : Nat} : wz_S (wc i n) (qn_c i n) := fun k R x h => by
  obtain ⟨c, r, e, h⟩ := tz_cnd_ok h
  cases c
  · refine ⟨.inl (0, x.1, r, x.2.2), ?_, h⟩
    unfold qn_c
    rw [e]
    rfl
  · refine ⟨.inl (n + 1, x.1, r, x.2.2), ?_, h⟩
    unfold qn_c
    rw [e]
    rfl
theorem s_g {n : Nat} : wz_S (wg n) (qn_g n) := fun k R x h => ⟨_, rfl, h⟩
theorem wz_sw_ok {v : Int} {d : Nat} {k : Nat → Prop} : ∀ {ds : List Nat} {lo : Int}, lo ≤ v → wz_sw v lo ds d k → k (ds.getD (v - lo).toNat d)
  | [], lo, _, h => h
  | e :: ds, lo, hl, h => by
    unfold wz_sw at h
    by_cases hv : v = lo
    · rw [decide_eq_true hv] at h
      rw [show (v - lo).toNat = 0 by omega]
      exact h
    · rw [decide_eq_false hv] at h
      have := wz_sw_ok (ds := ds) (lo := lo + 1) (by omega) h
      rw [show (v - lo).toNat = (v - (lo + 1)).toNat + 1 by omega]
      exact this
theorem s_w {lo hi : Int} {ds : List Nat} {d : Nat} : wz_S (ww lo hi ds d) (qn_w lo hi ds d) := fun k R x h => by
  unfold ww at h
  split at h
  · rename_i v r hx
    obtain ⟨-, h⟩ := wz_bif h id
    unfold qn_w
    rw [hx]
    dsimp only
    by_cases hv : v.toInt < lo ∨ hi < v.toInt
    · rw [if_pos hv]
      have hb : (decide (v.toInt < lo) || decide (hi < v.toInt)) = true := by
        rw [Bool.or_eq_true, decide_eq_true_iff, decide_eq_true_iff]
        exact hv
      rw [hb] at h
      exact ⟨_, rfl, h⟩
    · rw [if_neg hv]
      have hb : (decide (v.toInt < lo) || decide (hi < v.toInt)) = false := by
        rw [Bool.or_eq_false_iff, decide_eq_false_iff_not, decide_eq_false_iff_not]
        exact ⟨fun q => hv (.inl q), fun q => hv (.inr q)⟩
      rw [hb] at h
      exact ⟨_, rfl, wz_sw_ok (by omega) h⟩
  · exact h.elim
theorem wz_kr0 {R : Option FieldType} (h : Nat.beq (wz_kr R) 0 = true) : R = some .int := by
  unfold wz_kr at h
  split at h <;> first | rfl | cases h
theorem wz_kr1 {R : Option FieldType} (h : Nat.beq (wz_kr R) 1 = true) : R = some .boolean := by
  unfold wz_kr at h
  split at h <;> first | rfl | cases h
theorem wz_kr2 {R : Option FieldType} (h : Nat.beq (wz_kr R) 2 = true) : R = some .long := by
  unfold wz_kr at h
  split at h <;> first | rfl | cases h
theorem wz_kr3 {R : Option FieldType} (h : Nat.beq (wz_kr R) 3 = true) : ∃ rt, R = some rt ∧ pz_kd rt = 2 := by
  unfold wz_kr at h
  split at h <;> first | exact ⟨_, rfl, rfl⟩ | cases h
theorem wz_kr4 {R : Option FieldType} (h : Nat.beq (wz_kr R) 4 = true) : R = none := by
  unfold wz_kr at h
  split at h <;> first | rfl | cases h
theorem s_r {i : Instr} {Rt : Option FieldType} : wz_S (wr i Rt) (qn_r i Rt) := fun k R x h => by
  obtain ⟨L, st, μ⟩ := x
  unfold wr at h
  unfold qn_r
  dsimp only at h ⊢
  split at h
  · split at h
    · rename_i v
      obtain ⟨h1, h⟩ := wz_bif h id
      refine ⟨.inr (_, _), ?_, h⟩
      unfold qz_rt
      dsimp only
      rw [if_pos]
      rw [Bool.or_eq_true, Bool.and_eq_true, Bool.or_eq_true, decide_eq_true_iff, decide_eq_true_iff] at h1
      exact h1.imp wz_kr0 (fun q => ⟨wz_kr1 q.1, q.2⟩)
    · exact h.elim
  · split at h
    · obtain ⟨h1, h⟩ := wz_bif h id
      refine ⟨.inr (_, _), ?_, h⟩
      unfold qz_rt
      dsimp only
      rw [if_pos (wz_kr2 h1)]
    · exact h.elim
  · split at h
    · obtain ⟨h1, h9⟩ := wz_bif h id
      obtain ⟨rt, e0, e⟩ := wz_kr3 h1
      refine ⟨.inr (_, _), ?_, h9⟩
      unfold qz_rt
      dsimp only
      rw [e0]
      dsimp only
      rw [if_pos e]
    · exact h.elim
  · split at h
    · obtain ⟨h1, h⟩ := wz_bif h id
      refine ⟨.inr (_, _), ?_, h⟩
      unfold qz_rt
      dsimp only
      rw [if_pos (wz_kr4 h1)]
    · exact h.elim
  · exact h.elim
theorem s_t {W E : Nat} : wz_S (wt W E) (qn_t W E) := fun k R x h => by
  unfold wt at h
  obtain ⟨h1, h⟩ := wz_bif h id
  refine ⟨.inr (_, _), ?_, h⟩
  unfold qn_t
  rw [h1]
  rfl
theorem wz_cl_at {rk : Nat} {f : qz_Fn} {as : List qz_V} {μ : qz_M} {k : qz_M → Option qz_V → Prop} {ke : qz_M → Nat → Prop} (h : wz_cl rk f as μ k ke) : ∃ μ' o, f as μ = some (μ', o) ∧ match o with | .inl v => k μ' v | .inr E => ke μ' E := by
  unfold wz_cl at h
  split at h
  all_goals
    obtain ⟨μ', o, e, h⟩ := h
    refine ⟨μ', o, e, ?_⟩
    split at h
    · exact h
    · exact h
    · exact h.elim
theorem s_k {f : qz_Fn} {n l kd t : Nat} {hs : List (Nat × Nat)} {rk : Nat} : wz_S (wk f n l kd t hs rk) (qn_k f n l kd t hs) := fun k R x h => by
  unfold wk at h
  unfold qn_k
  split at h
  · exact h.elim
  · rename_i as rest ha
    obtain ⟨h1, h⟩ := wz_bif h id
    obtain ⟨μ', o, e, h⟩ := wz_cl_at h
    rw [ha]
    dsimp only
    rw [h1, e]
    dsimp only [cond_true]
    unfold qz_bk
    match o, h with
    | .inl none, h => exact ⟨_, rfl, h⟩
    | .inl (some v), h => exact ⟨_, rfl, h⟩
    | .inr E, h =>
      unfold wz_ex at h
      dsimp only at h ⊢
      cases hk : Nat.beq kd 2
      · rw [hk] at h
        dsimp only [cond_false] at h ⊢
        cases hs with
        | nil => exact ⟨.inr (_, _), rfl, h⟩
        | cons y r =>
          dsimp only at h ⊢
          split at h
          · rename_i hd hh
            rw [hh]
            exact ⟨.inl (_, _), rfl, h⟩
          · exact h.elim
      · rw [hk] at h
        exact h.elim
theorem s_l {F : qz_F} {N : Nat} : wz_S (wl F N) (qn_l F N) := fun k R x h => h
theorem s_m {mx : Bool} {W : Nat} : wz_S (wm mx W) (qn_m mx W) := fun k R x h => by
  unfold wm at h
  unfold qn_m
  split at h
  · rename_i hx
    obtain ⟨h1, h⟩ := wz_bif h id
    rw [hx]
    dsimp only
    rw [h1]
    exact ⟨_, rfl, h⟩
  · exact h.elim
theorem s_ml {W : Nat} : wz_S (wml W) (qn_ml W) := fun k R x h => by
  unfold wml at h
  unfold qn_ml
  split at h
  · rename_i hx
    obtain ⟨h1, h⟩ := wz_bif h id
    rw [hx]
    dsimp only
    rw [h1]
    exact ⟨_, rfl, h⟩
  · exact h.elim
theorem s_ac {W : Nat} : wz_S (wac W) (qn_ac W) := fun k R x h => by
  unfold wac at h
  unfold qn_ac
  split at h
  · rename_i hx
    obtain ⟨h1, h2, h⟩ := wz_bif h id
    rw [hx]
    dsimp only
    rw [if_pos ⟨h1, h2⟩]
    exact ⟨.inl (0, _), rfl, h _ rfl⟩
  · exact h.elim
theorem s_oi {W : Nat} : wz_S (woi W) (qn_oi W) := fun k R x h => by
  unfold woi at h
  unfold qn_oi
  split at h
  · rename_i hx
    obtain ⟨h1, h⟩ := wz_bif h id
    rw [hx]
    dsimp only
    rw [h1]
    exact ⟨_, rfl, h⟩
  · exact h.elim
/-- a method -/
theorem wz_mt {G : wz_W} {F : qz_F} {n : Nat} {as : List qz_V} {μ : qz_M} {Q : wz_R} (hS : wz_S G F) (h : G wz_k0 Q (qz_ent as n, [], μ)) : wz_call (qz_mt n F) as μ Q := by
  obtain ⟨e, e1, h⟩ := hS _ _ _ h
  match e, e1, h with
  | .inl (n, x'), e1, h => exact h.elim
  | .inr (μ', o), e1, h =>
    refine ⟨μ', o, ?_, h⟩
    unfold qz_mt
    rw [e1]
theorem wz_mt9 {G : wz_W} {F : qz_F} {n : Nat} {as : List qz_V} {μ : qz_M} {Q : wz_R} {L : qz_L} (hS : wz_S G F) (hL : qz_ent as n = L) (h : G wz_k0 Q (L, [], μ)) : wz_call (qz_mt n F) as μ Q := wz_mt hS (by rw [hL]; exact h)
theorem wz_call_of {f : qz_Fn} {as : List qz_V} {μ μ' : qz_M} {o : qz_Oc} {Q : wz_R} (e : f as μ = some (μ', o)) (h : Q μ' o) : wz_call f as μ Q := ⟨μ', o, e, h⟩
theorem wz_call_eq {f : qz_Fn} {as : List qz_V} {μ μ' : qz_M} {o : qz_Oc} (h : wz_call f as μ (fun μ2 o2 => μ2 = μ' ∧ o2 = o)) : f as μ = some (μ', o) := by
  obtain ⟨_, _, e, rfl, rfl⟩ := h
  exact e
theorem wz_call_im {f : qz_Fn} {as : List qz_V} {μ : qz_M} {Q Q' : wz_R} (h : wz_call f as μ Q) (hi : ∀ μ' o, Q μ' o → Q' μ' o) : wz_call f as μ Q' := by
  obtain ⟨μ', o, e, h⟩ := h
  exact ⟨μ', o, e, hi _ _ h⟩
/-- behind a loop's body: out (0), once more (1), further out -/
def wz_lk (k : wz_K) (I : qz_X → Prop) : wz_K := fun n x' => match n with | 0 => k 0 x' | 1 => I x' | n + 2 => k (n + 1) x'
/-- a loop: what holds at its head, with a number that falls -/
theorem wz_lp {F : qz_F} {G : wz_W} {k : wz_K} {R : wz_R} (hS : wz_S G F) (Inv : Nat → qz_X → Prop)
    (hb : ∀ m x, Inv m x → G (wz_lk k (fun x' => ∃ m', m' < m ∧ Inv m' x')) R x) : ∀ (N m : Nat) (x : qz_X), m < N → Inv m x → wz_loop F N k R x
  | 0, m, x, hm, _ => absurd hm (Nat.not_lt_zero _)
  | N + 1, m, x, hm, hi => by
    obtain ⟨e, e1, h⟩ := hS _ _ _ (hb m x hi)
    match e, e1, h with
    | .inl (0, x'), e1, h =>
      refine ⟨.inl (0, x'), ?_, h⟩
      unfold qn_l
      rw [e1]
      rfl
    | .inl (1, x'), e1, h =>
      obtain ⟨m', hlt, hi'⟩ := h
      obtain ⟨e2, e3, h⟩ := wz_lp hS Inv hb N m' x' (by omega) hi'
      refine ⟨e2, ?_, h⟩
      unfold qn_l
      rw [e1]
      exact e3
    | .inl (n + 2, x'), e1, h =>
      refine ⟨.inl (n + 1, x'), ?_, h⟩
      unfold qn_l
      rw [e1]
      rfl
    | .inr r, e1, h =>
      refine ⟨.inr r, ?_, h⟩
      unfold qn_l
      rw [e1]
      rfl
/-! rules -/
theorem wz_cI_of {f : qz_Fn} {as : List qz_V} {μ μ' : qz_M} {v : Int32} {kv : qz_M → Int32 → Prop} {ke : qz_M → Nat → Prop} (e : f as μ = some (μ', .inl (some (.inl v)))) (h : kv μ' v) : wz_cI f as μ kv ke := ⟨_, _, e, h⟩
theorem wz_cJ_of {f : qz_Fn} {as : List qz_V} {μ μ' : qz_M} {v : Int64} {kv : qz_M → Int64 → Prop} {ke : qz_M → Nat → Prop} (e : f as μ = some (μ', .inl (some (.inr (.inl v))))) (h : kv μ' v) : wz_cJ f as μ kv ke := ⟨_, _, e, h⟩
theorem wz_cR_of {f : qz_Fn} {as : List qz_V} {μ μ' : qz_M} {v : qz_R} {kv : qz_M → qz_R → Prop} {ke : qz_M → Nat → Prop} (e : f as μ = some (μ', .inl (some (.inr (.inr (some v)))))) (h : kv μ' v) : wz_cR f as μ kv ke := ⟨_, _, e, h⟩
theorem wz_cV_of {f : qz_Fn} {as : List qz_V} {μ μ' : qz_M} {kv : qz_M → Prop} {ke : qz_M → Nat → Prop} (e : f as μ = some (μ', .inl none)) (h : kv μ') : wz_cV f as μ kv ke := ⟨_, _, e, h⟩
theorem wz_cI_E {f : qz_Fn} {as : List qz_V} {μ μ' : qz_M} {E : Nat} {kv : qz_M → Int32 → Prop} {ke : qz_M → Nat → Prop} (e : f as μ = some (μ', .inr E)) (h : ke μ' E) : wz_cI f as μ kv ke := ⟨_, _, e, h⟩
theorem wz_cV_E {f : qz_Fn} {as : List qz_V} {μ μ' : qz_M} {E : Nat} {kv : qz_M → Prop} {ke : qz_M → Nat → Prop} (e : f as μ = some (μ', .inr E)) (h : ke μ' E) : wz_cV f as μ kv ke := ⟨_, _, e, h⟩
theorem wz_fgd {ms : List Bool} {B : wz_W} {k : wz_K} {R : wz_R} {L L0 : qz_L} {st : List qz_V} {μ : qz_M} (hL : qz_fg ms L = L0) (h : B k R (L0, st, μ)) : ws (wd ms) B k R (L, st, μ) := by
  subst hL
  exact h
theorem wz_if {c : Bool} {A B : Prop} (h1 : c = true → A) (h2 : c = false → B) : (bif c then A else B) := by
  cases c
  · exact h2 rfl
  · exact h1 rfl
theorem wz_i1 {c : Bool} {A B : Prop} (hc : c = true) (h : A) : (bif c then A else B) := by rw [hc]; exact h
theorem wz_i0 {c : Bool} {A B : Prop} (hc : c = false) (h : B) : (bif c then A else B) := by rw [hc]; exact h
