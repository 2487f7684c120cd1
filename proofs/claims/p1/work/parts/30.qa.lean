/-! AN ABSTRACT MACHINE: behind the constructors the heap stands still but for its numbers; a reference is (kind, which one, place). Kind 200: what is made on the way, and (200, 0, 0) the script. -/
abbrev qz_R : Type := Nat × Nat × Nat
abbrev qz_V : Type := Int32 ⊕ (Int64 ⊕ Option qz_R)
abbrev qz_L : Type := List (Option qz_V)
/-- ints; longs; references that change; what is made on the way (tag, how many, how long); how many; cells; slots -/
abbrev qz_M : Type := (Nat → Nat → Nat → Nat → Int32) × (Nat → Nat → Nat → Nat → Int64) × (Nat → Nat → Nat → Nat → Option qz_R) × (Nat → Nat × Nat × Nat) × Nat × Nat × Nat
abbrev qz_im (μ : qz_M) : Nat → Nat → Nat → Nat → Int32 := μ.1
abbrev qz_lm (μ : qz_M) : Nat → Nat → Nat → Nat → Int64 := μ.2.1
abbrev qz_rm (μ : qz_M) : Nat → Nat → Nat → Nat → Option qz_R := μ.2.2.1
abbrev qz_dn (μ : qz_M) : Nat → Nat × Nat × Nat := μ.2.2.2.1
abbrev qz_na (μ : qz_M) : Nat := μ.2.2.2.2.1
abbrev qz_kc (μ : qz_M) : Nat := μ.2.2.2.2.2.1
abbrev qz_ks (μ : qz_M) : Nat := μ.2.2.2.2.2.2
abbrev qz_X : Type := qz_L × List qz_V × qz_M
def qz_u4 {α : Type} (g : Nat → Nat → Nat → Nat → α) (k b i j : Nat) (v : α) : Nat → Nat → Nat → Nat → α := fun k' b' i' j' => if k' = k ∧ b' = b ∧ i' = i ∧ j' = j then v else g k' b' i' j'
def qz_z4 {α : Type} (g : Nat → Nat → Nat → Nat → α) (n : Nat) (v : α) : Nat → Nat → Nat → Nat → α := fun k b i j => if k = 200 ∧ b = n then v else g k b i j
def qz_wI (μ : qz_M) (r : qz_R) (j : Nat) (v : Int32) : qz_M := (qz_u4 μ.1 r.1 r.2.1 r.2.2 j v, μ.2)
def qz_wC (μ : qz_M) (r : qz_R) (c : Nat → Int32) : qz_M := ((fun k b i => if k = r.1 ∧ b = r.2.1 ∧ i = r.2.2 then c else μ.1 k b i), μ.2)
def qz_wL (μ : qz_M) (r : qz_R) (j : Nat) (v : Int64) : qz_M := (μ.1, qz_u4 μ.2.1 r.1 r.2.1 r.2.2 j v, μ.2.2)
def qz_wR (μ : qz_M) (r : qz_R) (j : Nat) (v : Option qz_R) : qz_M := (μ.1, μ.2.1, qz_u4 μ.2.2.1 r.1 r.2.1 r.2.2 j v, μ.2.2.2)
/-- a new one: tag, how many, how long, cells, slots, and the references it holds -/
def qz_alr (μ : qz_M) (tag cnt len cells slots : Nat) (f : Nat → Option qz_R) : qz_M := (qz_z4 μ.1 μ.2.2.2.2.1 0, qz_z4 μ.2.1 μ.2.2.2.2.1 0, (fun k b i j => if k = 200 ∧ b = μ.2.2.2.2.1 then f j else μ.2.2.1 k b i j), (fun n => if n = μ.2.2.2.2.1 then (tag, cnt, len) else μ.2.2.2.1 n), μ.2.2.2.2.1 + 1, μ.2.2.2.2.2.1 + cells, μ.2.2.2.2.2.2 + slots)
def qz_al (μ : qz_M) (tag cnt len cells slots : Nat) : qz_M := qz_alr μ tag cnt len cells slots (fun _ => none)
def qz_hb : List Nat := [4, 43, 79, 114, 149, 184, 219, 254, 289, 324, 360, 395, 434, 469, 504]
def qz_F0 : Nat := 578
def qz_tgs : List Nat := [4, 5, 50, 0, 3, 255, 255, 255, 255, 255, 1, 50, 50, 50, 50, 255, 255, 255, 255, 255, 53, 53, 53, 53, 53, 53, 53, 53, 53, 53, 53, 53, 53, 53, 53, 255, 255, 255, 255, 255, 50, 50, 50, 50, 50, 50, 50, 50, 50, 50, 50, 50, 50, 50, 50, 255, 255, 255, 255, 255, 53, 50, 50, 54, 54, 52, 50, 54, 50, 50, 50, 51, 255, 255, 255, 255, 255, 255, 255, 255, 255, 50, 50, 50, 50, 52, 50, 50, 50, 50, 52, 50, 50, 50, 50, 50, 50, 50, 50, 50, 50, 50, 50, 50, 50, 50, 50, 50, 50, 50, 50, 50, 50, 50]
def qz_nbs : List Nat := [1, 1, 1, 1, 1, 0, 0, 0, 0, 0, 15, 15, 15, 15, 15, 0, 0, 0, 0, 0, 15, 15, 15, 15, 15, 15, 15, 15, 15, 15, 15, 15, 15, 15, 15, 0, 0, 0, 0, 0, 15, 15, 15, 15, 15, 15, 15, 15, 15, 15, 15, 15, 15, 15, 15, 0, 0, 0, 0, 0, 1, 1, 1, 1, 1, 1, 1, 1, 1, 1, 1, 1, 0, 0, 0, 0, 0, 0, 0, 0, 0, 1, 1, 1, 1, 1, 1, 1, 1, 1, 1, 1, 1, 1, 1, 1, 1, 1, 1, 1, 1, 1, 1, 1, 1, 1, 1, 1, 1, 1, 1, 1, 1, 1]
def qz_cts : List Nat := [1, 1, 1, 1, 1, 0, 0, 0, 0, 0, 1, 1, 1, 1, 1, 0, 0, 0, 0, 0, 1, 1, 1, 1, 1, 1, 1, 1, 1, 1, 1, 1, 1, 1, 1, 0, 0, 0, 0, 0, 6, 5, 6, 6, 48, 8, 24, 60, 2, 24, 4, 2, 24, 60, 12, 0, 0, 0, 0, 0, 1, 520, 1, 1, 1, 1, 1, 1, 1, 1, 1, 1, 0, 0, 0, 0, 0, 0, 0, 0, 0, 1, 1, 1, 1, 1, 1, 1, 1, 1, 1, 1, 1, 1, 1, 1, 1, 1, 1, 1, 1, 1, 1, 1, 1, 1, 1, 1, 1, 1, 1, 1, 1, 1]
def qz_lns : List Nat := [0, 0, 4400, 0, 0, 0, 0, 0, 0, 0, 0, 17, 28, 4, 10, 0, 0, 0, 0, 0, 6, 5, 6, 6, 48, 8, 24, 60, 2, 24, 4, 2, 24, 60, 12, 0, 0, 0, 0, 0, 6, 5, 7, 11, 16, 15, 10, 21, 12, 3, 22, 8, 6, 5, 8, 0, 0, 0, 0, 0, 520, 8, 520, 8, 2, 2, 120, 3, 7, 24, 1024, 1, 0, 0, 0, 0, 0, 0, 0, 0, 0, 8800, 3, 1152, 48, 1152, 48, 24, 24, 24, 24, 5, 5, 5, 15, 5, 5, 160, 60, 1024, 4400, 35200, 512, 256, 8800, 0, 0, 0, 0, 2, 2, 2, 120, 4]
/-- one of a kind: its family; of a hall: 10000 and its place in the hall -/
def qz_fms : List Nat := [3, 542, 543, 39, 431, 1, 1, 1, 1, 1, 10000, 10001, 10002, 10003, 10004, 1, 1, 1, 1, 1, 10006, 10008, 10010, 10012, 10014, 10016, 10018, 10020, 10022, 10024, 10026, 10028, 10030, 10032, 10034, 1, 1, 1, 1, 1, 10005, 10007, 10009, 10011, 10013, 10015, 10017, 10019, 10021, 10023, 10025, 10027, 10029, 10031, 10033, 1, 1, 1, 1, 1, 41, 40, 42, 78, 359, 430, 432, 433, 539, 540, 541, 577, 1, 1, 1, 1, 1, 1, 1, 1, 1, 544, 545, 546, 547, 548, 549, 550, 551, 552, 553, 554, 555, 556, 557, 558, 559, 560, 561, 562, 563, 564, 565, 566, 567, 568, 569, 570, 571, 572, 573, 574, 575, 576]
/-- what a field or a place of an array of references holds -/
def qz_st (k b j : Nat) : Option qz_R := match k with
  | 0 => (match j with | 0 => some (10, 0, 0) | 1 => some (3, 0, 0) | 2 => some (4, 0, 0) | 3 => some (67, 0, 0) | 4 => some (68, 0, 0) | 5 => some (69, 0, 0) | 6 => some (70, 0, 0) | _ => none)
  | 1 => (match j with | 0 => some (2, 0, 0) | 1 => some (81, 0, 0) | 4 => some (82, 0, 0) | 8 => some (83, 0, 0) | 9 => some (84, 0, 0) | 10 => some (85, 0, 0) | 11 => some (86, 0, 0) | 12 => some (87, 0, 0) | 13 => some (88, 0, 0) | 14 => some (89, 0, 0) | 15 => some (90, 0, 0) | 16 => some (91, 0, 0) | 17 => some (92, 0, 0) | 18 => some (93, 0, 0) | 19 => some (94, 0, 0) | 22 => some (95, 0, 0) | 23 => some (96, 0, 0) | 26 => some (97, 0, 0) | 27 => some (98, 0, 0) | 29 => some (99, 0, 0) | 30 => some (100, 0, 0) | 33 => some (101, 0, 0) | 40 => some (104, 0, 0) | 45 => some (109, 0, 0) | 46 => some (110, 0, 0) | 47 => some (111, 0, 0) | 48 => some (112, 0, 0) | 51 => some (113, 0, 0) | _ => none)
  | 3 => (match j with | 0 => some (60, 0, 0) | 1 => some (62, 0, 0) | 2 => some (10, 1, 0) | 3 => some (63, 0, 0) | 4 => some (64, 0, 0) | 5 => some (65, 0, 0) | _ => none)
  | 4 => (match j with | 0 => some (66, 0, 0) | _ => none)
  | 10 => (match j with | 0 => some (11, b, 0) | 1 => some (12, b, 0) | 2 => some (13, b, 0) | 3 => some (14, b, 0) | 4 => some (20, b, 0) | 5 => some (21, b, 0) | 6 => some (22, b, 0) | 7 => some (23, b, 0) | 8 => some (24, b, 0) | 9 => some (25, b, 0) | 10 => some (26, b, 0) | 11 => some (27, b, 0) | 12 => some (28, b, 0) | 13 => some (29, b, 0) | 14 => some (30, b, 0) | 15 => some (31, b, 0) | 16 => some (32, b, 0) | 17 => some (33, b, 0) | 18 => some (34, b, 0) | _ => none)
  | 20 => some (40, b, j)
  | 21 => some (41, b, j)
  | 22 => some (42, b, j)
  | 23 => some (43, b, j)
  | 24 => some (44, b, j)
  | 25 => some (45, b, j)
  | 26 => some (46, b, j)
  | 27 => some (47, b, j)
  | 28 => some (48, b, j)
  | 29 => some (49, b, j)
  | 30 => some (50, b, j)
  | 31 => some (51, b, j)
  | 32 => some (52, b, j)
  | 33 => some (53, b, j)
  | 34 => some (54, b, j)
  | 60 => some (61, 0, j)
  | 63 => some (10, 2 + j, 0)
  | 64 => some (10, 10 + j, 0)
  | 67 => some (10, 12 + j, 0)
  | _ => none
/-- how many places with references -/
def qz_nrs : List Nat := [7, 52, 0, 9, 2, 0, 0, 0, 0, 0, 19, 0, 0, 0, 0, 0, 0, 0, 0, 0, 6, 5, 6, 6, 48, 8, 24, 60, 2, 24, 4, 2, 24, 60, 12, 0, 0, 0, 0, 0, 0, 0, 0, 0, 0, 0, 0, 0, 0, 0, 0, 0, 0, 0, 0, 0, 0, 0, 0, 0, 520, 0, 0, 8, 2, 0, 0, 3, 0, 0, 0, 0, 0, 0, 0, 0, 0, 0, 0, 0, 0, 0, 0, 0, 0, 0, 0, 0, 0, 0, 0, 0, 0, 0, 0, 0, 0, 0, 0, 0, 0, 0, 0, 0, 0, 0, 0, 0, 0, 0, 0, 0, 0, 0]
def qz_dfs : List Nat := [36, 38, 41, 42, 43, 44]
def qz_tag (μ : qz_M) (r : qz_R) : Nat := bif Nat.beq r.1 200 then (bif Nat.blt r.2.2 (qz_dn μ r.2.1).2.1 then (qz_dn μ r.2.1).1 else 255) else qz_tgs.getD r.1 255
def qz_len (μ : qz_M) (r : qz_R) : Nat := bif Nat.beq r.1 200 then (qz_dn μ r.2.1).2.2 else qz_lns.getD r.1 0
/-- whether what stands there may change -/
def qz_dy (r : qz_R) (j : Nat) : Bool := Nat.beq r.1 200 || (Nat.beq r.1 1 && qz_dfs.any (Nat.beq j))
def qz_rf (μ : qz_M) (r : qz_R) (j : Nat) : Option qz_R := bif qz_dy r j then qz_rm μ r.1 r.2.1 r.2.2 j else qz_st r.1 r.2.1 j
def qz_c2 (v : qz_V) : Bool := match v with | .inr (.inl _) => true | _ => false
def qz_w1 (v : qz_V) : Nat := match v with | .inr (.inl _) => 2 | _ => 1
def qz_wt (st : List qz_V) : Nat := (st.map qz_w1).sum
def qz_kill (L : qz_L) (i : Nat) : qz_L := match i with
  | 0 => L
  | k + 1 => match L.getD k none with
    | some (.inr (.inl _)) => L.set k none
    | _ => L
def qz_st1 (L : qz_L) (i : Nat) (v : qz_V) : qz_L := (qz_kill L i).set i (some v)
def qz_st2 (L : qz_L) (i : Nat) (v : qz_V) : qz_L := ((qz_kill L i).set i (some v)).set (i + 1) none
section QA
variable (L : qz_L) (st : List qz_V) (μ : qz_M)
abbrev qz_Q : Type := Option qz_X
def qz_push (v : qz_V) : qz_Q := some (L, v :: st, μ)
def qz_ldi (i : Nat) : qz_Q := match L.getD i none with | some (.inl x) => some (L, .inl x :: st, μ) | _ => none
def qz_ldl (i : Nat) : qz_Q := match L.getD i none with | some (.inr (.inl x)) => some (L, .inr (.inl x) :: st, μ) | _ => none
def qz_lda (i : Nat) : qz_Q := match L.getD i none with | some (.inr (.inr (some x))) => some (L, .inr (.inr (some x)) :: st, μ) | _ => none
def qz_sti (i : Nat) : qz_Q := match st with | .inl x :: r => bif Nat.blt i L.length then some (qz_st1 L i (.inl x), r, μ) else none | _ => none
def qz_sta (i : Nat) : qz_Q := match st with | .inr (.inr (some x)) :: r => bif Nat.blt i L.length then some (qz_st1 L i (.inr (.inr (some x))), r, μ) else none | _ => none
def qz_stl (i : Nat) : qz_Q := match st with | .inr (.inl x) :: r => bif Nat.blt (i + 1) L.length then some (qz_st2 L i (.inr (.inl x)), r, μ) else none | _ => none
def qz_inc (i : Nat) (k : Int) : qz_Q := match L.getD i none with | some (.inl x) => bif Nat.blt i L.length then some (qz_st1 L i (.inl (x + Int32.ofInt k)), st, μ) else none | _ => none
def qz_bin (f : Int32 → Int32 → Int32) : qz_Q := match st with | .inl y :: .inl x :: r => some (L, .inl (f x y) :: r, μ) | _ => none
def qz_dv (f : Int32 → Int32 → Int32) : qz_Q := match st with | .inl y :: .inl x :: r => if y = 0 then none else some (L, .inl (f x y) :: r, μ) | _ => none
def qz_lbin (f : Int64 → Int64 → Int64) : qz_Q := match st with | .inr (.inl y) :: .inr (.inl x) :: r => some (L, .inr (.inl (f x y)) :: r, μ) | _ => none
def qz_ldv (f : Int64 → Int64 → Int64) : qz_Q := match st with | .inr (.inl y) :: .inr (.inl x) :: r => if y = 0 then none else some (L, .inr (.inl (f x y)) :: r, μ) | _ => none
def qz_neg : qz_Q := match st with | .inl x :: r => some (L, .inl (-x) :: r, μ) | _ => none
def qz_i2l : qz_Q := match st with | .inl x :: r => some (L, .inr (.inl x.toInt64) :: r, μ) | _ => none
def qz_i2c : qz_Q := match st with | .inl x :: r => some (L, .inl (x.toUInt32 % 65536).toInt32 :: r, μ) | _ => none
def qz_l2i : qz_Q := match st with | .inr (.inl x) :: r => some (L, .inl x.toInt32 :: r, μ) | _ => none
def qz_lcp : qz_Q := match st with | .inr (.inl y) :: .inr (.inl x) :: r => some (L, .inl (lg_cmp x y) :: r, μ) | _ => none
def qz_get (t k : Nat) : qz_Q := match st with
  | .inr (.inr (some r)) :: q => bif Nat.beq (qz_tag μ r) t && (Nat.blt t 6 && Nat.blt k (pz_n t)) then (bif Nat.beq (pz_kd (pz_ty t k)) 2 then some (L, .inr (.inr (qz_rf μ r k)) :: q, μ) else some (L, .inl (qz_im μ r.1 r.2.1 r.2.2 k) :: q, μ)) else none
  | _ => none
def qz_put (t k : Nat) (fin : Bool) : qz_Q := match st with
  | .inl v :: .inr (.inr (some r)) :: q => bif (Nat.beq (qz_tag μ r) t && Nat.blt t 6) && ((!(pz_T t k).2.2.2 || fin) && (Nat.beq (pz_kd (pz_ty t k)) 0 || (Nat.beq (pz_kd (pz_ty t k)) 1 && (decide (v = 0) || decide (v = 1))))) then some (L, q, qz_wI μ r k v) else none
  | .inr (.inr v) :: .inr (.inr (some r)) :: q => bif (Nat.beq (qz_tag μ r) t && Nat.blt t 6) && ((!(pz_T t k).2.2.2 || fin) && (Nat.beq (pz_kd (pz_ty t k)) 2 && qz_dy r k)) then some (L, q, qz_wR μ r k v) else none
  | _ => none
def qz_ilo (t : Nat) : qz_Q := match st with
  | .inl j :: .inr (.inr (some r)) :: q => bif Nat.beq (qz_tag μ r) t && (Nat.blt t 60 && !pz_out j (qz_len μ r)) then some (L, .inl (qz_im μ r.1 r.2.1 r.2.2 j.toNatClampNeg) :: q, μ) else none
  | _ => none
def qz_llo : qz_Q := match st with
  | .inl j :: .inr (.inr (some r)) :: q => bif Nat.beq (qz_tag μ r) 51 && !pz_out j (qz_len μ r) then some (L, .inr (.inl (qz_lm μ r.1 r.2.1 r.2.2 j.toNatClampNeg)) :: q, μ) else none
  | _ => none
def qz_alo : qz_Q := match st with
  | .inl j :: .inr (.inr (some r)) :: q => bif (Nat.beq (qz_tag μ r) 53 || Nat.beq (qz_tag μ r) 54) && !pz_out j (qz_len μ r) then some (L, .inr (.inr (qz_rf μ r j.toNatClampNeg)) :: q, μ) else none
  | _ => none
def qz_isto : qz_Q := match st with
  | .inl v :: .inl j :: .inr (.inr (some r)) :: q => bif Nat.beq (qz_tag μ r) 50 && !pz_out j (qz_len μ r) then some (L, q, qz_wI μ r j.toNatClampNeg v) else none
  | _ => none
def qz_bsto : qz_Q := match st with
  | .inl v :: .inl j :: .inr (.inr (some r)) :: q => bif Nat.beq (qz_tag μ r) 52 && (!pz_out j (qz_len μ r) && (decide (v = 0) || decide (v = 1))) then some (L, q, qz_wI μ r j.toNatClampNeg v) else none
  | _ => none
def qz_lsto : qz_Q := match st with
  | .inr (.inl v) :: .inl j :: .inr (.inr (some r)) :: q => bif Nat.beq (qz_tag μ r) 51 && !pz_out j (qz_len μ r) then some (L, q, qz_wL μ r j.toNatClampNeg v) else none
  | _ => none
def qz_asto : qz_Q := match st with
  | .inr (.inr (some g)) :: .inl j :: .inr (.inr (some r)) :: q => bif (Nat.beq (qz_tag μ r) 54 && (Nat.beq (qz_tag μ g) 1 && Nat.beq r.1 200)) && !pz_out j (qz_len μ r) then some (L, q, qz_wR μ r j.toNatClampNeg (some g)) else none
  | _ => none
def qz_mnew : qz_Q := match st with
  | .inl k :: .inl n :: q => bif (decide (n < 0) || decide (k < 0)) || (Nat.blt 1000 n.toNatClampNeg || Nat.blt 1000 k.toNatClampNeg) then none else
    some (L, .inr (.inr (some (200, qz_na μ + 1, 0))) :: q, qz_alr (qz_al μ 50 n.toNatClampNeg k.toNatClampNeg n.toNatClampNeg (n.toNatClampNeg * k.toNatClampNeg)) 53 1 n.toNatClampNeg 1 n.toNatClampNeg (fun j => if j < n.toNatClampNeg then some (200, qz_na μ, j) else none))
  | _ => none
def qz_leng : qz_Q := match st with
  | .inr (.inr (some r)) :: q => bif pz_arr (qz_tag μ r) then some (L, .inl (Int32.ofNat (qz_len μ r)) :: q, μ) else none
  | _ => none
def qz_newa (tag : Nat) : qz_Q := match st with
  | .inl n :: q => bif decide (n < 0) || Nat.blt 1000000 n.toNatClampNeg then none else some (L, .inr (.inr (some (200, qz_na μ, 0))) :: q, qz_al μ tag 1 n.toNatClampNeg 1 n.toNatClampNeg)
  | _ => none
def qz_new (t : Nat) : qz_Q := bif Nat.blt t 6 then some (L, .inr (.inr (some (200, qz_na μ, 0))) :: st, qz_al μ t 1 0 1 (pz_n t)) else none
def qz_dup : qz_Q := match st with | v :: r => bif Nat.beq (qz_w1 v) 1 then some (L, v :: v :: r, μ) else none | _ => none
def qz_pop : qz_Q := match st with | v :: r => bif Nat.beq (qz_w1 v) 1 then some (L, r, μ) else none | _ => none
def qz_dupx1 : qz_Q := match st with | a :: b :: r => bif Nat.beq (qz_w1 a) 1 && Nat.beq (qz_w1 b) 1 then some (L, a :: b :: a :: r, μ) else none | _ => none
def qz_dupx2 : qz_Q := match st with | a :: b :: d :: r => bif Nat.beq (qz_w1 a) 1 && (Nat.beq (qz_w1 b) 1 && Nat.beq (qz_w1 d) 1) then some (L, a :: b :: d :: a :: r, μ) else none | _ => none
def qz_dup2 : qz_Q := match st with | a :: b :: r => bif Nat.beq (qz_w1 a) 1 && Nat.beq (qz_w1 b) 1 then some (L, a :: b :: a :: b :: r, μ) else none | _ => none
/-- the script's place, and its length -/
def qz_scl : qz_Q := match st with
  | .inl j :: .inr (.inr (some r)) :: q => bif (Nat.beq r.1 200 && (Nat.beq r.2.1 0 && Nat.beq r.2.2 0)) && (Nat.beq (qz_tag μ (200, 0, 0)) 60 && !pz_out j (qz_len μ (200, 0, 0))) then some (L, .inl (qz_im μ 200 0 0 j.toNatClampNeg) :: q, μ) else none
  | _ => none
def qz_scn : qz_Q := match st with
  | .inr (.inr (some r)) :: q => bif (Nat.beq r.1 200 && (Nat.beq r.2.1 0 && Nat.beq r.2.2 0)) && Nat.beq (qz_tag μ (200, 0, 0)) 60 then some (L, .inl (Int32.ofNat (qz_len μ (200, 0, 0))) :: q, μ) else none
  | _ => none
end QA
/-- an instruction that is no call, no branch, no return, no throw -/
def qz_step (fin : Bool) (i : Instr) (a b : Nat) (L : qz_L) (st : List qz_V) (μ : qz_M) : qz_Q := match i with
  | .iconst n => qz_push L st μ (.inl (Int32.ofInt n))
  | .bipush n => qz_push L st μ (.inl (Int8.ofInt n).toInt32)
  | .sipush n => qz_push L st μ (.inl (Int16.ofInt n).toInt32)
  | .lconst n => qz_push L st μ (.inr (.inl (Int64.ofNat (n : Nat))))
  | .ldc _ => qz_push L st μ (.inl (Int32.ofNat a))
  | .ldc_w _ => qz_push L st μ (.inl (Int32.ofNat a))
  | .ldc2_w _ => qz_push L st μ (.inr (.inl (pz_lcs.getD a 0)))
  | .iload k => qz_ldi L st μ k
  | .iload_n k => qz_ldi L st μ k
  | .lload k => qz_ldl L st μ k
  | .lload_n k => qz_ldl L st μ k
  | .aload k => qz_lda L st μ k
  | .aload_n k => qz_lda L st μ k
  | .istore k => qz_sti L st μ k
  | .istore_n k => qz_sti L st μ k
  | .lstore k => qz_stl L st μ k
  | .lstore_n k => qz_stl L st μ k
  | .astore k => qz_sta L st μ k
  | .astore_n k => qz_sta L st μ k
  | .iinc k n => qz_inc L st μ k n
  | .iadd => qz_bin L st μ (fun x y => x + y)
  | .isub => qz_bin L st μ (fun x y => x - y)
  | .imul => qz_bin L st μ (fun x y => x * y)
  | .iand => qz_bin L st μ (fun x y => x &&& y)
  | .ior => qz_bin L st μ (fun x y => x ||| y)
  | .ixor => qz_bin L st μ (fun x y => x ^^^ y)
  | .ishl => qz_bin L st μ (fun x y => x <<< (y &&& 31))
  | .ishr => qz_bin L st μ (fun x y => x >>> (y &&& 31))
  | .idiv => qz_dv L st μ (fun x y => x / y)
  | .irem => qz_dv L st μ (fun x y => x - x / y * y)
  | .ineg => qz_neg L st μ
  | .i2l => qz_i2l L st μ
  | .i2c => qz_i2c L st μ
  | .l2i => qz_l2i L st μ
  | .ladd => qz_lbin L st μ (fun x y => x + y)
  | .lsub => qz_lbin L st μ (fun x y => x - y)
  | .lmul => qz_lbin L st μ (fun x y => x * y)
  | .ldiv => qz_ldv L st μ (fun x y => x / y)
  | .lrem => qz_ldv L st μ (fun x y => x - x / y * y)
  | .lcmp => qz_lcp L st μ
  | .dup => qz_dup L st μ
  | .pop => qz_pop L st μ
  | .dup_x1 => qz_dupx1 L st μ
  | .dup_x2 => qz_dupx2 L st μ
  | .dup2 => qz_dup2 L st μ
  | .getfield _ => qz_get L st μ a b
  | .putfield _ => qz_put L st μ a b fin
  | .iaload => bif Nat.beq a 60 then qz_scl L st μ else qz_ilo L st μ 50
  | .baload => qz_ilo L st μ 52
  | .laload => qz_llo L st μ
  | .aaload => qz_alo L st μ
  | .iastore => qz_isto L st μ
  | .bastore => qz_bsto L st μ
  | .lastore => qz_lsto L st μ
  | .aastore => qz_asto L st μ
  | .arraylength => bif Nat.beq a 60 then qz_scn L st μ else qz_leng L st μ
  | .newarray .int => qz_newa L st μ 50
  | .newarray .long => qz_newa L st μ 51
  | .newarray .boolean => qz_newa L st μ 52
  | .anewarray _ => qz_newa L st μ 54
  | .multianewarray _ _ => qz_mnew L st μ
  | .new _ => qz_new L st μ a
  | _ => none
abbrev qz_Rs : Type := List (Instr × Nat × Nat)
/-- K, g: the method's kind and its receiver's tag -/
def qz_ins (K g : Nat) (rs : qz_Rs) (x : qz_X) : qz_Q := match rs with
  | [] => some x
  | r :: q => match qz_step (Nat.beq K 2 && Nat.beq g r.2.1) r.1 r.2.1 r.2.2 x.1 x.2.1 x.2.2 with
    | some x' => qz_ins K g q x'
    | none => none
/-- a condition: whether the jump is made, and what is left -/
def qz_cnd (i : Instr) (st : List qz_V) : Option (Bool × List qz_V) := match i with
  | .ifCond .eq _ => (match st with | .inl x :: r => some (decide (x = 0), r) | _ => none)
  | .ifCond .ne _ => (match st with | .inl x :: r => some (!decide (x = 0), r) | _ => none)
  | .ifCond .lt _ => (match st with | .inl x :: r => some (decide (x < 0), r) | _ => none)
  | .ifCond .ge _ => (match st with | .inl x :: r => some (decide (0 ≤ x), r) | _ => none)
  | .ifCond .gt _ => (match st with | .inl x :: r => some (decide (0 < x), r) | _ => none)
  | .ifCond .le _ => (match st with | .inl x :: r => some (decide (x ≤ 0), r) | _ => none)
  | .if_icmp .eq _ => (match st with | .inl y :: .inl x :: r => some (decide (x = y), r) | _ => none)
  | .if_icmp .ne _ => (match st with | .inl y :: .inl x :: r => some (!decide (x = y), r) | _ => none)
  | .if_icmp .lt _ => (match st with | .inl y :: .inl x :: r => some (decide (x < y), r) | _ => none)
  | .if_icmp .ge _ => (match st with | .inl y :: .inl x :: r => some (decide (y ≤ x), r) | _ => none)
  | .if_icmp .gt _ => (match st with | .inl y :: .inl x :: r => some (decide (y < x), r) | _ => none)
  | .if_icmp .le _ => (match st with | .inl y :: .inl x :: r => some (decide (x ≤ y), r) | _ => none)
  | _ => none
def qz_off (i : Instr) : Int := match i with
  | .ifCond _ o => o
  | .if_icmp _ o => o
  | .goto o => o
  | _ => 0
/-! pieces of a method: 0 falls through, n + 1 breaks to the n-th label around; or the method's end -/
abbrev qz_Oc : Type := Option qz_V ⊕ Nat
abbrev qz_E : Type := (Nat × qz_X) ⊕ (qz_M × qz_Oc)
abbrev qz_F : Type := qz_X → Option qz_E
abbrev qz_Fn : Type := List qz_V → qz_M → Option (qz_M × qz_Oc)
def qn_i (K g : Nat) (rs : qz_Rs) : qz_F := fun x => match qz_ins K g rs x with
  | some x' => some (.inl (0, x'))
  | none => none
def qz_fg (ms : List Bool) (L : qz_L) : qz_L := match ms, L with
  | m :: ms, v :: L => (bif m then v else none) :: qz_fg ms L
  | _, L => L
def qn_d (ms : List Bool) : qz_F := fun x => some (.inl (0, qz_fg ms x.1, x.2))
def qn_s (F G : qz_F) : qz_F := fun x => match F x with
  | some (.inl (0, x')) => G x'
  | r => r
def qz_lft (r : Option qz_E) : Option qz_E := match r with
  | some (.inl (n + 1, x')) => some (.inl (n, x'))
  | r => r
def qn_b (F : qz_F) : qz_F := fun x => qz_lft (F x)
def qn_l (F : qz_F) (N : Nat) : qz_F := match N with
  | 0 => fun _ => none
  | n + 1 => fun x => match F x with
    | some (.inl (1, x')) => qn_l F n x'
    | r => qz_lft r
def qn_c (i : Instr) (n : Nat) : qz_F := fun x => match qz_cnd i x.2.1 with
  | some (c, r) => bif c then some (.inl (n + 1, x.1, r, x.2.2)) else some (.inl (0, x.1, r, x.2.2))
  | none => none
def qn_g (n : Nat) : qz_F := fun x => some (.inl (n + 1, x))
def qn_w (lo hi : Int) (ds : List Nat) (d : Nat) : qz_F := fun x => match x.2.1 with
  | .inl v :: r => if v.toInt < lo ∨ hi < v.toInt then some (.inl (d + 1, x.1, r, x.2.2)) else some (.inl (ds.getD (v.toInt - lo).toNat d + 1, x.1, r, x.2.2))
  | _ => none
def qz_rt (i : Instr) (R : Option FieldType) (st : List qz_V) : Option (Option qz_V) := match i with
  | .ireturn => (match st with
    | [.inl v] => if R = some .int ∨ R = some .boolean ∧ (v = 0 ∨ v = 1) then some (some (.inl v)) else none
    | _ => none)
  | .lreturn => (match st with
    | [.inr (.inl v)] => if R = some .long then some (some (.inr (.inl v))) else none
    | _ => none)
  | .areturn => (match st with
    | [.inr (.inr v)] => (match R with
      | some rt => if pz_kd rt = 2 then some (some (.inr (.inr v))) else none
      | none => none)
    | _ => none)
  | .return_ => (match st with
    | [] => if R = none then some none else none
    | _ => none)
  | _ => none
def qn_r (i : Instr) (R : Option FieldType) : qz_F := fun x => match qz_rt i R x.2.1 with
  | some v => some (.inr (x.2.2, .inl v))
  | none => none
def qz_kk (μ : qz_M) (c s : Nat) : qz_M := (μ.1, μ.2.1, μ.2.2.1, μ.2.2.2.1, μ.2.2.2.2.1, μ.2.2.2.2.2.1 + c, μ.2.2.2.2.2.2 + s)
def qn_t (W E : Nat) : qz_F := fun x => bif Nat.ble (qz_wt x.2.1 + 82) W then some (.inr (qz_kk x.2.2 1 6, .inr E)) else none
def qz_args (n : Nat) (st : List qz_V) : Option (List qz_V × List qz_V) := if n ≤ st.length then some ((st.take n).reverse, st.drop n) else none
def qz_es (args : List qz_V) : qz_L := args.flatMap fun v => bif qz_c2 v then [some v, none] else [some v]
def qz_ent (args : List qz_V) (n : Nat) : qz_L := qz_es args ++ List.replicate (n - (qz_es args).length) none
def qz_rcv (μ : qz_M) (t : Nat) (args : List qz_V) : Bool := match args with
  | .inr (.inr (some r)) :: _ => Nat.beq (qz_tag μ r) t && Nat.blt t 6
  | _ => false
def qz_hn (hs : List (Nat × Nat)) (E : Nat) : Option Nat := match hs with
  | [] => none
  | x :: r => bif Nat.beq x.1 E then some x.2 else qz_hn r E
/-- what comes behind a call -/
def qz_bk (k : Nat) (hs : List (Nat × Nat)) (L : qz_L) (rest : List qz_V) (r : Option (qz_M × qz_Oc)) : Option qz_E := match r with
  | none => none
  | some (μ, .inl none) => some (.inl (0, L, rest, μ))
  | some (μ, .inl (some v)) => some (.inl (0, L, v :: rest, μ))
  | some (μ, .inr E) => bif Nat.beq k 2 then none else match hs with
    | [] => some (.inr (μ, .inr E))
    | _ => match qz_hn hs E with
      | some h => some (.inl (h + 1, L, [.inr (.inr (some (200, qz_na μ, 0)))], qz_al μ 99 0 0 0 0))
      | none => none
/-- a call: of a method with so many arguments, words of locals, kind, tag of its receiver -/
def qn_k (f : qz_Fn) (n l k t : Nat) (hs : List (Nat × Nat)) : qz_F := fun x => match qz_args n x.2.1 with
  | none => none
  | some (as, rest) => bif (Nat.ble (qz_wt rest) 8 && Nat.ble (qz_es as).length l) && (Nat.beq k 0 || qz_rcv x.2.2 t as) then qz_bk k hs x.1 rest (f as x.2.2) else none
def qn_m (mx : Bool) (W : Nat) : qz_F := fun x => match x.2.1 with
  | .inl v :: .inl u :: r => bif Nat.ble (qz_wt r + 13) W then some (.inl (0, x.1, .inl (bif mx then (if u < v then v else u) else (if v < u then v else u)) :: r, x.2.2)) else none
  | _ => none
def qn_ml (W : Nat) : qz_F := fun x => match x.2.1 with
  | .inr (.inl v) :: .inr (.inl u) :: r => bif Nat.ble (qz_wt r + 15) W then some (.inl (0, x.1, .inr (.inl (if v < u then u else v)) :: r, x.2.2)) else none
  | _ => none
def qn_ac (W : Nat) : qz_F := fun x => match x.2.1 with
  | .inl n :: .inl dp :: .inr (.inr (some g)) :: .inl sp :: .inr (.inr (some f)) :: r =>
    if (Nat.ble (qz_wt r + 18) W && (Nat.beq (qz_tag x.2.2 f) 50 && Nat.beq (qz_tag x.2.2 g) 50)) = true ∧ ¬ sp < 0 ∧ ¬ dp < 0 ∧ ¬ n < 0 ∧ sp.toNatClampNeg + n.toNatClampNeg ≤ qz_len x.2.2 f ∧ dp.toNatClampNeg + n.toNatClampNeg ≤ qz_len x.2.2 g then
      some (.inl (0, x.1, r, qz_wC x.2.2 g (va_cpy (qz_im x.2.2 f.1 f.2.1 f.2.2) (qz_im x.2.2 g.1 g.2.1 g.2.2) sp.toNatClampNeg dp.toNatClampNeg n.toNatClampNeg)))
    else none
  | _ => none
def qn_oi (W : Nat) : qz_F := fun x => match x.2.1 with
  | .inr (.inr (some _)) :: r => bif Nat.ble (qz_wt r + 12) W then some (.inl (0, x.1, r, x.2.2)) else none
  | _ => none
def qz_mt (n : Nat) (F : qz_F) : qz_Fn := fun as μ => match F (qz_ent as n, [], μ) with
  | some (.inr r) => some r
  | _ => none
