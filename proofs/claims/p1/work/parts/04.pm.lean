/-! A PURE MACHINE: what the bytecode does, told on a heap of families of like cells (a reference is a family and a number in it). -/
abbrev pz_R : Type := Nat × Nat
abbrev pz_V : Type := Int32 ⊕ (Int64 ⊕ Option pz_R)
/-- next family; family ↦ (tag, how many, how long); references; ints; longs; cells made; slots made -/
abbrev pz_S : Type := Nat × (Nat → Nat × Nat × Nat) × (Nat → Nat → Nat → Option pz_R) × (Nat → Nat → Nat → Int32) × (Nat → Nat → Nat → Int64) × Nat × Nat
abbrev pz_L : Type := List (Option pz_V)
abbrev pz_O : Type := Option pz_V ⊕ Nat
abbrev pz_nf (σ : pz_S) : Nat := σ.1
abbrev pz_sh (σ : pz_S) : Nat → Nat × Nat × Nat := σ.2.1
abbrev pz_rr (σ : pz_S) : Nat → Nat → Nat → Option pz_R := σ.2.2.1
abbrev pz_mm (σ : pz_S) : Nat → Nat → Nat → Int32 := σ.2.2.2.1
abbrev pz_ml (σ : pz_S) : Nat → Nat → Nat → Int64 := σ.2.2.2.2.1
abbrev pz_kc (σ : pz_S) : Nat := σ.2.2.2.2.2.1
abbrev pz_ks (σ : pz_S) : Nat := σ.2.2.2.2.2.2
def pz_u3 {α : Type} (g : Nat → Nat → Nat → α) (a i j : Nat) (v : α) : Nat → Nat → Nat → α := fun a' i' j' => if a' = a ∧ i' = i ∧ j' = j then v else g a' i' j'
def pz_uf {α : Type} (g : Nat → α) (a : Nat) (v : α) : Nat → α := fun a' => if a' = a then v else g a'
def pz_wM (σ : pz_S) (a i j : Nat) (v : Int32) : pz_S := (σ.1, σ.2.1, σ.2.2.1, pz_u3 σ.2.2.2.1 a i j v, σ.2.2.2.2)
def pz_wR (σ : pz_S) (a i j : Nat) (v : Option pz_R) : pz_S := (σ.1, σ.2.1, pz_u3 σ.2.2.1 a i j v, σ.2.2.2)
def pz_wL (σ : pz_S) (a i j : Nat) (v : Int64) : pz_S := (σ.1, σ.2.1, σ.2.2.1, σ.2.2.2.1, pz_u3 σ.2.2.2.2.1 a i j v, σ.2.2.2.2.2)
/-- a new family -/
def pz_al (σ : pz_S) (tag cnt len cells slots : Nat) (r : Nat → Nat → Option pz_R) : pz_S :=
  (σ.1 + 1, pz_uf σ.2.1 σ.1 (tag, cnt, len), pz_uf σ.2.2.1 σ.1 r, pz_uf σ.2.2.2.1 σ.1 (fun _ _ => 0), pz_uf σ.2.2.2.2.1 σ.1 (fun _ _ => 0), σ.2.2.2.2.2.1 + cells, σ.2.2.2.2.2.2 + slots)
-- classes whose objects the heap holds: by their tags 0 to 5; 50 int[], 51 long[], 52 boolean[], 53 int[][], 54 Hall[]
def pz_cls : List vw_C := [(RX4, TX4, 9), (RX6, TX6, 19), (RX8, TX8, 3), (RX9, TX9, 2), (RX11, TX11, 7), (RX12, TX12, 52)]
def pz_n (t : Nat) : Nat := match t with | 0 => 9 | 1 => 19 | 2 => 3 | 3 => 2 | 4 => 7 | _ => 52
def pz_ty (t k : Nat) : FieldType := match t with | 0 => tyX4 k | 1 => tyX6 k | 2 => tyX8 k | 3 => tyX9 k | 4 => tyX11 k | _ => tyX12 k
def pz_T (t : Nat) : u_T := match t with | 0 => TX4 | 1 => TX6 | 2 => TX8 | 3 => TX9 | 4 => TX11 | _ => TX12
def pz_C (t : Nat) : String := match t with | 0 => RX4 | 1 => RX6 | 2 => RX8 | 3 => RX9 | 4 => RX11 | _ => RX12
def pz_kd (ty : FieldType) : Nat := match ty with | .int => 0 | .boolean => 1 | .object _ => 2 | .array _ => 2 | _ => 3
def pz_c2 (v : pz_V) : Bool := match v with | .inr (.inl _) => true | _ => false
def pz_w1 (v : pz_V) : Nat := match v with | .inr (.inl _) => 2 | _ => 1
def pz_wt (st : List pz_V) : Nat := (st.map pz_w1).sum
/-- a local gets a value; a long over or under it is gone -/
def pz_kill (L : pz_L) (i : Nat) : pz_L := match i with
  | 0 => L
  | k + 1 => match L.getD k none with
    | some (.inr (.inl _)) => L.set k none
    | _ => L
def pz_st1 (L : pz_L) (i : Nat) (v : pz_V) : pz_L := (pz_kill L i).set i (some v)
def pz_st2 (L : pz_L) (i : Nat) (v : pz_V) : pz_L := ((pz_kill L i).set i (some v)).set (i + 1) none
abbrev pz_P : Type := Option (Nat × pz_L × List pz_V × pz_S)
section PZ
variable (pc : Nat) (L : pz_L) (st : List pz_V) (σ : pz_S)
def pz_push (n : Nat) (v : pz_V) : pz_P := some (pc + n, L, v :: st, σ)
def pz_ldi (n i : Nat) : pz_P := match L.getD i none with | some (.inl x) => some (pc + n, L, .inl x :: st, σ) | _ => none
def pz_ldl (n i : Nat) : pz_P := match L.getD i none with | some (.inr (.inl x)) => some (pc + n, L, .inr (.inl x) :: st, σ) | _ => none
def pz_lda (n i : Nat) : pz_P := match L.getD i none with | some (.inr (.inr (some x))) => some (pc + n, L, .inr (.inr (some x)) :: st, σ) | _ => none
def pz_sti (n i : Nat) : pz_P := match st with | .inl x :: r => if i < L.length then some (pc + n, pz_st1 L i (.inl x), r, σ) else none | _ => none
def pz_sta (n i : Nat) : pz_P := match st with | .inr (.inr (some x)) :: r => if i < L.length then some (pc + n, pz_st1 L i (.inr (.inr (some x))), r, σ) else none | _ => none
def pz_stl (n i : Nat) : pz_P := match st with | .inr (.inl x) :: r => if i + 1 < L.length then some (pc + n, pz_st2 L i (.inr (.inl x)), r, σ) else none | _ => none
def pz_inc (i : Nat) (k : Int) : pz_P := match L.getD i none with | some (.inl x) => if i < L.length then some (pc + 3, pz_st1 L i (.inl (x + Int32.ofInt k)), st, σ) else none | _ => none
def pz_bin (f : Int32 → Int32 → Int32) : pz_P := match st with | .inl y :: .inl x :: r => some (pc + 1, L, .inl (f x y) :: r, σ) | _ => none
def pz_dv (f : Int32 → Int32 → Int32) : pz_P := match st with | .inl y :: .inl x :: r => if y = 0 then none else some (pc + 1, L, .inl (f x y) :: r, σ) | _ => none
def pz_lbin (f : Int64 → Int64 → Int64) : pz_P := match st with | .inr (.inl y) :: .inr (.inl x) :: r => some (pc + 1, L, .inr (.inl (f x y)) :: r, σ) | _ => none
def pz_ldv (f : Int64 → Int64 → Int64) : pz_P := match st with | .inr (.inl y) :: .inr (.inl x) :: r => if y = 0 then none else some (pc + 1, L, .inr (.inl (f x y)) :: r, σ) | _ => none
def pz_un (f : Int32 → pz_V) : pz_P := match st with | .inl x :: r => some (pc + 1, L, f x :: r, σ) | _ => none
def pz_br (off : Int) (c : Bool) (r : List pz_V) : pz_P := if (pc : Int) + off < 0 then none else bif c then some (((pc : Int) + off).toNat, L, r, σ) else some (pc + 3, L, r, σ)
def pz_if (off : Int) (c : Int32 → Bool) : pz_P := match st with | .inl x :: r => pz_br pc L σ off (c x) r | _ => none
def pz_ic (off : Int) (c : Int32 → Int32 → Bool) : pz_P := match st with | .inl y :: .inl x :: r => pz_br pc L σ off (c x y) r | _ => none
def pz_sw (dflt lo hi : Int) (offs : Array Int) : pz_P := match st with
  | .inl x :: r => if x.toInt < lo ∨ hi < x.toInt then (if (pc : Int) + dflt < 0 then none else some (((pc : Int) + dflt).toNat, L, r, σ))
    else match offs[(x.toInt - lo).toNat]? with
      | some off => if (pc : Int) + off < 0 then none else some (((pc : Int) + off).toNat, L, r, σ)
      | none => none
  | _ => none
/-- is (f, i) a thing of this tag -/
def pz_is (f i t : Nat) : Bool := Nat.beq (pz_sh σ f).1 t && Nat.blt i (pz_sh σ f).2.1
def pz_get (t k : Nat) : pz_P := match st with
  | .inr (.inr (some (f, i))) :: r => if pz_is σ f i t = true then (if pz_kd (pz_ty t k) = 2 then some (pc + 3, L, .inr (.inr (pz_rr σ f i k)) :: r, σ) else some (pc + 3, L, .inl (pz_mm σ f i k) :: r, σ)) else none
  | _ => none
/-- a field is put: a final one in its own constructor alone (fin: whether this is one) -/
def pz_put (t k : Nat) (fin : Bool) : pz_P := match st with
  | .inl v :: .inr (.inr (some (f, i))) :: r => if pz_is σ f i t = true ∧ ((pz_T t k).2.2.2 = true → fin = true) ∧ (pz_kd (pz_ty t k) = 0 ∨ pz_kd (pz_ty t k) = 1 ∧ (v = 0 ∨ v = 1)) then some (pc + 3, L, r, pz_wM σ f i k v) else none
  | .inr (.inr v) :: .inr (.inr (some (f, i))) :: r => if pz_is σ f i t = true ∧ ((pz_T t k).2.2.2 = true → fin = true) ∧ pz_kd (pz_ty t k) = 2 then some (pc + 3, L, r, pz_wR σ f i k v) else none
  | _ => none
def pz_out (j : Int32) (n : Nat) : Bool := decide (j < 0) || Nat.ble n j.toNatClampNeg
def pz_ilo (t : Nat) : pz_P := match st with
  | .inl j :: .inr (.inr (some (f, i))) :: r => if pz_is σ f i t = true ∧ pz_out j (pz_sh σ f).2.2 = false then some (pc + 1, L, .inl (pz_mm σ f i j.toNatClampNeg) :: r, σ) else none
  | _ => none
def pz_llo : pz_P := match st with
  | .inl j :: .inr (.inr (some (f, i))) :: r => if pz_is σ f i 51 = true ∧ pz_out j (pz_sh σ f).2.2 = false then some (pc + 1, L, .inr (.inl (pz_ml σ f i j.toNatClampNeg)) :: r, σ) else none
  | _ => none
def pz_alo : pz_P := match st with
  | .inl j :: .inr (.inr (some (f, i))) :: r => if (pz_is σ f i 53 || pz_is σ f i 54) = true ∧ pz_out j (pz_sh σ f).2.2 = false then some (pc + 1, L, .inr (.inr (pz_rr σ f i j.toNatClampNeg)) :: r, σ) else none
  | _ => none
def pz_isto : pz_P := match st with
  | .inl v :: .inl j :: .inr (.inr (some (f, i))) :: r => if pz_is σ f i 50 = true ∧ pz_out j (pz_sh σ f).2.2 = false then some (pc + 1, L, r, pz_wM σ f i j.toNatClampNeg v) else none
  | _ => none
def pz_bsto : pz_P := match st with
  | .inl v :: .inl j :: .inr (.inr (some (f, i))) :: r => if pz_is σ f i 52 = true ∧ pz_out j (pz_sh σ f).2.2 = false ∧ (v = 0 ∨ v = 1) then some (pc + 1, L, r, pz_wM σ f i j.toNatClampNeg v) else none
  | _ => none
def pz_lsto : pz_P := match st with
  | .inr (.inl v) :: .inl j :: .inr (.inr (some (f, i))) :: r => if pz_is σ f i 51 = true ∧ pz_out j (pz_sh σ f).2.2 = false then some (pc + 1, L, r, pz_wL σ f i j.toNatClampNeg v) else none
  | _ => none
def pz_asto : pz_P := match st with
  | .inr (.inr (some (g, k))) :: .inl j :: .inr (.inr (some (f, i))) :: r => if pz_is σ f i 54 = true ∧ pz_is σ g k 1 = true ∧ pz_out j (pz_sh σ f).2.2 = false then some (pc + 1, L, r, pz_wR σ f i j.toNatClampNeg (some (g, k))) else none
  | _ => none
def pz_arr (t : Nat) : Bool := Nat.ble 50 t && Nat.ble t 54
def pz_len : pz_P := match st with
  | .inr (.inr (some (f, i))) :: r => if pz_arr (pz_sh σ f).1 = true ∧ pz_is σ f i (pz_sh σ f).1 = true then some (pc + 1, L, .inl (Int32.ofNat (pz_sh σ f).2.2) :: r, σ) else none
  | _ => none
/-- new int[n], long[n], boolean[n], Hall[n]: of at most a million places -/
def pz_newa (len tag : Nat) : pz_P := match st with
  | .inl n :: r => if n < 0 ∨ 1000000 < n.toNatClampNeg then none else some (pc + len, L, .inr (.inr (some (σ.1, 0))) :: r, pz_al σ tag 1 n.toNatClampNeg 1 n.toNatClampNeg (fun _ _ => none))
  | _ => none
def pz_mnew : pz_P := match st with
  | .inl k :: .inl n :: r => if n < 0 ∨ k < 0 ∨ 1000 < n.toNatClampNeg ∨ 1000 < k.toNatClampNeg then none else
    some (pc + 4, L, .inr (.inr (some (σ.1 + 1, 0))) :: r, pz_al (pz_al σ 50 n.toNatClampNeg k.toNatClampNeg n.toNatClampNeg (n.toNatClampNeg * k.toNatClampNeg) (fun _ _ => none)) 53 1 n.toNatClampNeg 1 n.toNatClampNeg (fun _ j => if j < n.toNatClampNeg then some (σ.1, j) else none))
  | _ => none
def pz_new (t : Nat) : pz_P := some (pc + 3, L, .inr (.inr (some (σ.1, 0))) :: st, pz_al σ t 1 0 1 (pz_n t) (fun _ _ => none))
def pz_dup : pz_P := match st with | v :: r => if pz_w1 v = 1 then some (pc + 1, L, v :: v :: r, σ) else none | _ => none
def pz_pop : pz_P := match st with | v :: r => if pz_w1 v = 1 then some (pc + 1, L, r, σ) else none | _ => none
def pz_dupx1 : pz_P := match st with | a :: b :: r => if pz_w1 a = 1 ∧ pz_w1 b = 1 then some (pc + 1, L, a :: b :: a :: r, σ) else none | _ => none
def pz_dupx2 : pz_P := match st with | a :: b :: d :: r => if pz_w1 a = 1 ∧ pz_w1 b = 1 ∧ pz_w1 d = 1 then some (pc + 1, L, a :: b :: d :: a :: r, σ) else none | _ => none
def pz_dup2 : pz_P := match st with
  | a :: b :: r => if pz_w1 a = 1 ∧ pz_w1 b = 1 then some (pc + 1, L, a :: b :: a :: b :: r, σ) else if pz_w1 a = 2 then some (pc + 1, L, a :: a :: b :: r, σ) else none
  | [a] => if pz_w1 a = 2 then some (pc + 1, L, [a, a], σ) else none
  | _ => none
end PZ
def pz_lcs : List Int64 := [10, 9, -1]
/-- one instruction that is no call, no return, no throw; a and b: what its entry of the constant pool says -/
def pz_step (fin : Bool) (i : Instr) (a b : Nat) (pc : Nat) (L : pz_L) (st : List pz_V) (σ : pz_S) : pz_P := match i with
  | .iconst n => pz_push pc L st σ 1 (.inl (Int32.ofInt n))
  | .bipush n => pz_push pc L st σ 2 (.inl (Int8.ofInt n).toInt32)
  | .sipush n => pz_push pc L st σ 3 (.inl (Int16.ofInt n).toInt32)
  | .lconst n => pz_push pc L st σ 1 (.inr (.inl (Int64.ofNat (n : Nat))))
  | .ldc _ => pz_push pc L st σ 2 (.inl (Int32.ofNat a))
  | .ldc_w _ => pz_push pc L st σ 3 (.inl (Int32.ofNat a))
  | .ldc2_w _ => pz_push pc L st σ 3 (.inr (.inl (pz_lcs.getD a 0)))
  | .iload k => pz_ldi pc L st σ 2 k
  | .iload_n k => pz_ldi pc L st σ 1 k
  | .lload k => pz_ldl pc L st σ 2 k
  | .lload_n k => pz_ldl pc L st σ 1 k
  | .aload k => pz_lda pc L st σ 2 k
  | .aload_n k => pz_lda pc L st σ 1 k
  | .istore k => pz_sti pc L st σ 2 k
  | .istore_n k => pz_sti pc L st σ 1 k
  | .lstore k => pz_stl pc L st σ 2 k
  | .lstore_n k => pz_stl pc L st σ 1 k
  | .astore k => pz_sta pc L st σ 2 k
  | .astore_n k => pz_sta pc L st σ 1 k
  | .iinc k n => pz_inc pc L st σ k n
  | .iadd => pz_bin pc L st σ (fun x y => x + y)
  | .isub => pz_bin pc L st σ (fun x y => x - y)
  | .imul => pz_bin pc L st σ (fun x y => x * y)
  | .iand => pz_bin pc L st σ (fun x y => x &&& y)
  | .ior => pz_bin pc L st σ (fun x y => x ||| y)
  | .ixor => pz_bin pc L st σ (fun x y => x ^^^ y)
  | .ishl => pz_bin pc L st σ (fun x y => x <<< (y &&& 31))
  | .ishr => pz_bin pc L st σ (fun x y => x >>> (y &&& 31))
  | .idiv => pz_dv pc L st σ (fun x y => x / y)
  | .irem => pz_dv pc L st σ (fun x y => x - x / y * y)
  | .ineg => pz_un pc L st σ (fun x => .inl (-x))
  | .i2l => pz_un pc L st σ (fun x => .inr (.inl x.toInt64))
  | .i2c => pz_un pc L st σ (fun x => .inl (x.toUInt32 % 65536).toInt32)
  | .l2i => match st with | .inr (.inl x) :: r => some (pc + 1, L, .inl x.toInt32 :: r, σ) | _ => none
  | .ladd => pz_lbin pc L st σ (fun x y => x + y)
  | .lsub => pz_lbin pc L st σ (fun x y => x - y)
  | .lmul => pz_lbin pc L st σ (fun x y => x * y)
  | .ldiv => pz_ldv pc L st σ (fun x y => x / y)
  | .lrem => pz_ldv pc L st σ (fun x y => x - x / y * y)
  | .lcmp => match st with | .inr (.inl y) :: .inr (.inl x) :: r => some (pc + 1, L, .inl (lg_cmp x y) :: r, σ) | _ => none
  | .dup => pz_dup pc L st σ
  | .pop => pz_pop pc L st σ
  | .dup_x1 => pz_dupx1 pc L st σ
  | .dup_x2 => pz_dupx2 pc L st σ
  | .dup2 => pz_dup2 pc L st σ
  | .ifCond .eq off => pz_if pc L st σ off (fun x => decide (x = 0))
  | .ifCond .ne off => pz_if pc L st σ off (fun x => !decide (x = 0))
  | .ifCond .lt off => pz_if pc L st σ off (fun x => decide (x < 0))
  | .ifCond .ge off => pz_if pc L st σ off (fun x => decide (0 ≤ x))
  | .ifCond .gt off => pz_if pc L st σ off (fun x => decide (0 < x))
  | .ifCond .le off => pz_if pc L st σ off (fun x => decide (x ≤ 0))
  | .if_icmp .eq off => pz_ic pc L st σ off (fun x y => decide (x = y))
  | .if_icmp .ne off => pz_ic pc L st σ off (fun x y => !decide (x = y))
  | .if_icmp .lt off => pz_ic pc L st σ off (fun x y => decide (x < y))
  | .if_icmp .ge off => pz_ic pc L st σ off (fun x y => decide (y ≤ x))
  | .if_icmp .gt off => pz_ic pc L st σ off (fun x y => decide (y < x))
  | .if_icmp .le off => pz_ic pc L st σ off (fun x y => decide (x ≤ y))
  | .goto off => if (pc : Int) + off < 0 then none else some (((pc : Int) + off).toNat, L, st, σ)
  | .tableswitch d lo hi offs => pz_sw pc L st σ d lo hi offs
  | .getfield _ => pz_get pc L st σ a b
  | .putfield _ => pz_put pc L st σ a b fin
  | .iaload => pz_ilo pc L st σ 50
  | .baload => pz_ilo pc L st σ 52
  | .laload => pz_llo pc L st σ
  | .aaload => pz_alo pc L st σ
  | .iastore => pz_isto pc L st σ
  | .bastore => pz_bsto pc L st σ
  | .lastore => pz_lsto pc L st σ
  | .aastore => pz_asto pc L st σ
  | .arraylength => pz_len pc L st σ
  | .newarray .int => pz_newa pc L st σ 2 50
  | .newarray .long => pz_newa pc L st σ 2 51
  | .newarray .boolean => pz_newa pc L st σ 2 52
  | .anewarray _ => pz_newa pc L st σ 3 54
  | .multianewarray _ _ => pz_mnew pc L st σ
  | .new _ => if a < 6 then pz_new pc L st σ a else none
  | _ => none
