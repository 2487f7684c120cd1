abbrev qz_R : Type := Nat × Nat × Nat
abbrev qz_V : Type := Int32 ⊕ (Int64 ⊕ Option qz_R)
abbrev qz_L : Type := List (Option qz_V)
abbrev qz_M : Type := (Nat → Nat → Nat → Nat → Int32) × (Nat → Nat → Nat → Nat → Int64) × (Nat → Nat → Nat → Nat → Option qz_R) × (Nat → Nat × Nat × Nat) × Nat × Nat × Nat
abbrev qz_im (μ : qz_M) : Nat → Nat → Nat → Nat → Int32 := μ.1
abbrev qz_lm (μ : qz_M) : Nat → Nat → Nat → Nat → Int64 := μ.2.1
abbrev qz_rm (μ : qz_M) : Nat → Nat → Nat → Nat → Option qz_R := μ.2.2.1
abbrev qz_dn (μ : qz_M) : Nat → Nat × Nat × Nat := μ.2.2.2.1
abbrev qz_na (μ : qz_M) : Nat := μ.2.2.2.2.1
abbrev qz_kc (μ : qz_M) : Nat := μ.2.2.2.2.2.1
abbrev qz_ks (μ : qz_M) : Nat := μ.2.2.2.2.2.2
abbrev qz_X : Type := qz_L × List qz_V × qz_M
def qz_u4 {α : Type} (g : Nat → Nat → Nat → Nat → α) (k b i j : Nat) (v : α) : Nat → Nat → Nat → Nat → α := fun k' b' i' j' => if k' = k ∧ b' = b ∧ i' = i ∧ j' = j then v else g k' b' i' j'
def qz_z4 {α : Type} (g : Nat → Nat → Nat → Nat → α) (n : Nat) (v : α) : Nat → Nat → Nat → Nat → α := fun k b i j => if k = 200 ∧ b = n then v else g k b i j
def qz_wI (μ : qz_M) (r : qz_R) (j : Nat) (v : Int32) : qz_M := (qz_u4 μ.1 r.1 r.2.1 r.2.2 j v, μ.2)
def qz_wC (μ : qz_M) (r : qz_R) (c : Nat → Int32) : qz_M := ((fun k b i => if k = r.1 ∧ b = r.2.1 ∧ i = r.2.2 then c else μ.1 k b i), μ.2)
def qz_wL (μ : qz_M) (r : qz_R) (j : Nat) (v : Int64) : qz_M := (μ.1, qz_u4 μ.2.1 r.1 r.2.1 r.2.2 j v, μ.2.2)
def qz_wR (μ : qz_M) (r : qz_R) (j : Nat) (v : Option qz_R) : qz_M := (μ.1, μ.2.1, qz_u4 μ.2.2.1 r.1 r.2.1 r.2.2 j v, μ.2.2.2)
def qz_alr (μ : qz_M) (tag cnt len cells slots : Nat) (f : Nat → Option qz_R) : qz_M := (qz_z4 μ.1 μ.2.2.2.2.1 0, qz_z4 μ.2.1 μ.2.2.2.2.1 0, (fun k b i j => if k = 200 ∧ b = μ.2.2.2.2.1 then f j else μ.2.2.1 k b i j), (fun n => if n = μ.2.2.2.2.1 then (tag, cnt, len) else μ.2.2.2.1 n), μ.2.2.2.2.1 + 1, μ.2.2.2.2.2.1 + cells, μ.2.2.2.2.2.2 + slots)
def qz_al (μ : qz_M) (tag cnt len cells slots : Nat) : qz_M := qz_alr μ tag cnt len cells slots (fun _ => none)
def qz_hb : List Nat := [4, 43, 79, 114, 149, 184, 219, 254, 289, 324, 360, 395, 434, 469, 504]
def qz_F0 : Nat := 578
def qz_tgs : List Nat := [4, 5, 50, 0, 3, 255, 255, 255, 255, 255, 1, 50, 50, 50, 50, 255, 255, 255, 255, 255, 53, 53, 53, 53, 53, 53, 53, 53, 53, 53, 53, 53, 53, 53, 53, 255, 255, 255, 255, 255, 50, 50, 50, 50, 50, 50, 50, 50, 50, 50, 50, 50, 50, 50, 50, 255, 255, 255, 255, 255, 53, 50, 50, 54, 54, 52, 50, 54, 50, 50, 50, 51, 255, 255, 255, 255, 255, 255, 255, 255, 255, 50, 50, 50, 50, 52, 50, 50, 50, 50, 52, 50, 50, 50, 50, 50, 50, 50, 50, 50, 50, 50, 50, 50, 50, 50, 50, 50, 50, 50, 50, 50, 50, 50]
def qz_nbs : List Nat := [1, 1, 1, 1, 1, 0, 0, 0, 0, 0, 15, 15, 15, 15, 15, 0, 0, 0, 0, 0, 15, 15, 15, 15, 15, 15, 15, 15, 15, 15, 15, 15, 15, 15, 15, 0, 0, 0, 0, 0, 15, 15, 15, 15, 15, 15, 15, 15, 15, 15, 15, 15, 15, 15, 15, 0, 0, 0, 0, 0, 1, 1, 1, 1, 1, 1, 1, 1, 1, 1, 1, 1, 0, 0, 0, 0, 0, 0, 0, 0, 0, 1, 1, 1, 1, 1, 1, 1, 1, 1, 1, 1, 1, 1, 1, 1, 1, 1, 1, 1, 1, 1, 1, 1, 1, 1, 1, 1, 1, 1, 1, 1, 1, 1]
def qz_cts : List Nat := [1, 1, 1, 1, 1, 0, 0, 0, 0, 0, 1, 1, 1, 1, 1, 0, 0, 0, 0, 0, 1, 1, 1, 1, 1, 1, 1, 1, 1, 1, 1, 1, 1, 1, 1, 0, 0, 0, 0, 0, 6, 5, 6, 6, 48, 8, 24, 60, 2, 24, 4, 2, 24, 60, 12, 0, 0, 0, 0, 0, 1, 520, 1, 1, 1, 1, 1, 1, 1, 1, 1, 1, 0, 0, 0, 0, 0, 0, 0, 0, 0, 1, 1, 1, 1, 1, 1, 1, 1, 1, 1, 1, 1, 1, 1, 1, 1, 1, 1, 1, 1, 1, 1, 1, 1, 1, 1, 1, 1, 1, 1, 1, 1, 1]
def qz_lns : List Nat := [0, 0, 4400, 0, 0, 0, 0, 0, 0, 0, 0, 17, 28, 4, 10, 0, 0, 0, 0, 0, 6, 5, 6, 6, 48, 8, 24, 60, 2, 24, 4, 2, 24, 60, 12, 0, 0, 0, 0, 0, 6, 5, 7, 11, 16, 15, 10, 21, 12, 3, 22, 8, 6, 5, 8, 0, 0, 0, 0, 0, 520, 8, 520, 8, 2, 2, 120, 3, 7, 24, 1024, 1, 0, 0, 0, 0, 0, 0, 0, 0, 0, 8800, 3, 1152, 48, 1152, 48, 24, 24, 24, 24, 5, 5, 5, 15, 5, 5, 160, 60, 1024, 4400, 35200, 512, 256, 8800, 0, 0, 0, 0, 2, 2, 2, 120, 4]
def qz_fms : List Nat := [3, 542, 543, 39, 431, 1, 1, 1, 1, 1, 10000, 10001, 10002, 10003, 10004, 1, 1, 1, 1, 1, 10006, 10008, 10010, 10012, 10014, 10016, 10018, 10020, 10022, 10024, 10026, 10028, 10030, 10032, 10034, 1, 1, 1, 1, 1, 10005, 10007, 10009, 10011, 10013, 10015, 10017, 10019, 10021, 10023, 10025, 10027, 10029, 10031, 10033, 1, 1, 1, 1, 1, 41, 40, 42, 78, 359, 430, 432, 433, 539, 540, 541, 577, 1, 1, 1, 1, 1, 1, 1, 1, 1, 544, 545, 546, 547, 548, 549, 550, 551, 552, 553, 554, 555, 556, 557, 558, 559, 560, 561, 562, 563, 564, 565, 566, 567, 568, 569, 570, 571, 572, 573, 574, 575, 576]
def qz_st (k b j : Nat) : Option qz_R := match k with
  | 0 => (match j with | 0 => some (10, 0, 0) | 1 => some (3, 0, 0) | 2 => some (4, 0, 0) | 3 => some (67, 0, 0) | 4 => some (68, 0, 0) | 5 => some (69, 0, 0) | 6 => some (70, 0, 0) | _ => none)
  | 1 => (match j with | 0 => some (2, 0, 0) | 1 => some (81, 0, 0) | 4 => some (82, 0, 0) | 8 => some (83, 0, 0) | 9 => some (84, 0, 0) | 10 => some (85, 0, 0) | 11 => some (86, 0, 0) | 12 => some (87, 0, 0) | 13 => some (88, 0, 0) | 14 => some (89, 0, 0) | 15 => some (90, 0, 0) | 16 => some (91, 0, 0) | 17 => some (92, 0, 0) | 18 => some (93, 0, 0) | 19 => some (94, 0, 0) | 22 => some (95, 0, 0) | 23 => some (96, 0, 0) | 26 => some (97, 0, 0) | 27 => some (98, 0, 0) | 29 => some (99, 0, 0) | 30 => some (100, 0, 0) | 33 => some (101, 0, 0) | 40 => some (104, 0, 0) | 45 => some (109, 0, 0) | 46 => some (110, 0, 0) | 47 => some (111, 0, 0) | 48 => some (112, 0, 0) | 51 => some (113, 0, 0) | _ => none)
  | 3 => (match j with | 0 => some (60, 0, 0) | 1 => some (62, 0, 0) | 2 => some (10, 1, 0) | 3 => some (63, 0, 0) | 4 => some (64, 0, 0) | 5 => some (65, 0, 0) | _ => none)
  | 4 => (match j with | 0 => some (66, 0, 0) | _ => none)
  | 10 => (match j with | 0 => some (11, b, 0) | 1 => some (12, b, 0) | 2 => some (13, b, 0) | 3 => some (14, b, 0) | 4 => some (20, b, 0) | 5 => some (21, b, 0) | 6 => some (22, b, 0) | 7 => some (23, b, 0) | 8 => some (24, b, 0) | 9 => some (25, b, 0) | 10 => some (26, b, 0) | 11 => some (27, b, 0) | 12 => some (28, b, 0) | 13 => some (29, b, 0) | 14 => some (30, b, 0) | 15 => some (31, b, 0) | 16 => some (32, b, 0) | 17 => some (33, b, 0) | 18 => some (34, b, 0) | _ => none)
  | 20 => some (40, b, j)
  | 21 => some (41, b, j)
  | 22 => some (42, b, j)
  | 23 => some (43, b, j)
  | 24 => some (44, b, j)
  | 25 => some (45, b, j)
  | 26 => some (46, b, j)
  | 27 => some (47, b, j)
  | 28 => some (48, b, j)
  | 29 => some (49, b, j)
  | 30 => some (50, b, j)
  | 31 => some (51, b, j)
  | 32 => some (52, b, j)
  | 33 => some (53, b, j)
  | 34 => some (54, b, j)
  | 60 => some (61, 0, j)
  | 63 => some (10, 2 + j, 0)
  | 64 => some (10, 10 + j, 0)
  | 67 => some (10, 12 + j, 0)
  | _ => none
def qz_nrs : List Nat := [7, 52, 0, 9, 2, 0, 0, 0, 0, 0, 19, 0, 0, 0, 0, 0, 0, 0, 0, 0, 6, 5, 6, 6, 48, 8, 24, 60, 2, 24, 4, 2, 24, 60, 12, 0, 0, 0, 0, 0, 0, 0, 0, 0, 0, 0, 0, 0, 0, 0, 0, 0, 0, 0, 0, 0, 0, 0, 0, 0, 520, 0, 0, 8, 2, 0, 0, 3, 0, 0, 0, 0, 0, 0, 0, 0, 0, 0, 0, 0, 0, 0, 0, 0, 0, 0, 0, 0, 0, 0, 0, 0, 0, 0, 0, 0, 0, 0, 0, 0, 0, 0, 0, 0, 0, 0, 0, 0, 0, 0, 0, 0, 0, 0]
def qz_dfs : List Nat := [36, 38, 41, 42, 43, 44]
def qz_tag (μ : qz_M) (r : qz_R) : Nat := bif Nat.beq r.1 200 then (bif Nat.blt r.2.2 (qz_dn μ r.2.1).2.1 then (qz_dn μ r.2.1).1 else 255) else qz_tgs.getD r.1 255
def qz_len (μ : qz_M) (r : qz_R) : Nat := bif Nat.beq r.1 200 then (qz_dn μ r.2.1).2.2 else qz_lns.getD r.1 0
def qz_dy (r : qz_R) (j : Nat) : Bool := Nat.beq r.1 200 || (Nat.beq r.1 1 && qz_dfs.any (Nat.beq j))
def qz_rf (μ : qz_M) (r : qz_R) (j : Nat) : Option qz_R := bif qz_dy r j then qz_rm μ r.1 r.2.1 r.2.2 j else qz_st r.1 r.2.1 j
def qz_c2 (v : qz_V) : Bool := match v with | .inr (.inl _) => true | _ => false
def qz_w1 (v : qz_V) : Nat := match v with | .inr (.inl _) => 2 | _ => 1
def qz_wt (st : List qz_V) : Nat := (st.map qz_w1).sum
def qz_kill (L : qz_L) (i : Nat) : qz_L := match i with
  | 0 => L
  | k + 1 => match L.getD k none with
    | some (.inr (.inl _)) => L.set k none
    | _ => L
def qz_st1 (L : qz_L) (i : Nat) (v : qz_V) : qz_L := (qz_kill L i).set i (some v)
def qz_st2 (L : qz_L) (i : Nat) (v : qz_V) : qz_L := ((qz_kill L i).set i (some v)).set (i + 1) none
section QA
variable (L : qz_L) (st : List qz_V) (μ : qz_M)
abbrev qz_Q : Type := Option qz_X
def qz_push (v : qz_V) : qz_Q := some (L, v :: st, μ)
def qz_ldi (i : Nat) : qz_Q := match L.getD i none with | some (.inl x) => some (L, .inl x :: st, μ) | _ => none
def qz_ldl (i : Nat) : qz_Q := match L.getD i none with | some (.inr (.inl x)) => some (L, .inr (.inl x) :: st, μ) | _ => none
def qz_lda (i : Nat) : qz_Q := match L.getD i none with | some (.inr (.inr (some x))) => some (L, .inr (.inr (some x)) :: st, μ) | _ => none
def qz_sti (i : Nat) : qz_Q := match st with | .inl x :: r => bif Nat.blt i L.length then some (qz_st1 L i (.inl x), r, μ) else none | _ => none
def qz_sta (i : Nat) : qz_Q := match st with | .inr (.inr (some x)) :: r => bif Nat.blt i L.length then some (qz_st1 L i (.inr (.inr (some x))), r, μ) else none | _ => none
def qz_stl (i : Nat) : qz_Q := match st with | .inr (.inl x) :: r => bif Nat.blt (i + 1) L.length then some (qz_st2 L i (.inr (.inl x)), r, μ) else none | _ => none
def qz_inc (i : Nat) (k : Int) : qz_Q := match L.getD i none with | some (.inl x) => bif Nat.blt i L.length then some (qz_st1 L i (.inl (x + Int32.ofInt k)), st, μ) else none | _ => none
def qz_bin (f : Int32 → Int32 → Int32) : qz_Q := match st with | .inl y :: .inl x :: r => some (L, .inl (f x y) :: r, μ) | _ => none
def qz_dv (f : Int32 → Int32 → Int32) : qz_Q := match st with | .inl y :: .inl x :: r => if y = 0 then none else some (L, .inl (f x y) :: r, μ) | _ => none
def qz_lbin (f : Int64 → Int64 → Int64) : qz_Q := match st with | .inr (.inl y) :: .inr (.inl x) :: r => some (L, .inr (.inl (f x y)) :: r, μ) | _ => none
def qz_ldv (f : Int64 → Int64 → Int64) : qz_Q := match st with | .inr (.inl y) :: .inr (.inl x) :: r => if y = 0 then none else some (L, .inr (.inl (f x y)) :: r, μ) | _ => none
def qz_neg : qz_Q := match st with | .inl x :: r => some (L, .inl (-x) :: r, μ) | _ => none
def qz_i2l : qz_Q := match st with | .inl x :: r => some (L, .inr (.inl x.toInt64) :: r, μ) | _ => none
def qz_i2c : qz_Q := match st with | .inl x :: r => some (L, .inl (x.toUInt32 % 65536).toInt32 :: r, μ) | _ => none
def qz_l2i : qz_Q := match st with | .inr (.inl x) :: r => some (L, .inl x.toInt32 :: r, μ) | _ => none
def qz_lcp : qz_Q := match st with | .inr (.inl y) :: .inr (.inl x) :: r => some (L, .inl (lg_cmp x y) :: r, μ) | _ => none
def qz_get (t k : Nat) : qz_Q := match st with
  | .inr (.inr (some r)) :: q => bif Nat.beq (qz_tag μ r) t && (Nat.blt t 6 && Nat.blt k (pz_n t)) then (bif Nat.beq (pz_kd (pz_ty t k)) 2 then some (L, .inr (.inr (qz_rf μ r k)) :: q, μ) else some (L, .inl (qz_im μ r.1 r.2.1 r.2.2 k) :: q, μ)) else none
  | _ => none
def qz_put (t k : Nat) (fin : Bool) : qz_Q := match st with
  | .inl v :: .inr (.inr (some r)) :: q => bif (Nat.beq (qz_tag μ r) t && Nat.blt t 6) && ((!(pz_T t k).2.2.2 || fin) && (Nat.beq (pz_kd (pz_ty t k)) 0 || (Nat.beq (pz_kd (pz_ty t k)) 1 && (decide (v = 0) || decide (v = 1))))) then some (L, q, qz_wI μ r k v) else none
  | .inr (.inr v) :: .inr (.inr (some r)) :: q => bif (Nat.beq (qz_tag μ r) t && Nat.blt t 6) && ((!(pz_T t k).2.2.2 || fin) && (Nat.beq (pz_kd (pz_ty t k)) 2 && qz_dy r k)) then some (L, q, qz_wR μ r k v) else none
  | _ => none
def qz_ilo (t : Nat) : qz_Q := match st with
  | .inl j :: .inr (.inr (some r)) :: q => bif Nat.beq (qz_tag μ r) t && (Nat.blt t 60 && !pz_out j (qz_len μ r)) then some (L, .inl (qz_im μ r.1 r.2.1 r.2.2 j.toNatClampNeg) :: q, μ) else none
  | _ => none
def qz_llo : qz_Q := match st with
  | .inl j :: .inr (.inr (some r)) :: q => bif Nat.beq (qz_tag μ r) 51 && !pz_out j (qz_len μ r) then some (L, .inr (.inl (qz_lm μ r.1 r.2.1 r.2.2 j.toNatClampNeg)) :: q, μ) else none
  | _ => none
def qz_alo : qz_Q := match st with
  | .inl j :: .inr (.inr (some r)) :: q => bif (Nat.beq (qz_tag μ r) 53 || Nat.beq (qz_tag μ r) 54) && !pz_out j (qz_len μ r) then some (L, .inr (.inr (qz_rf μ r j.toNatClampNeg)) :: q, μ) else none
  | _ => none
def qz_isto : qz_Q := match st with
  | .inl v :: .inl j :: .inr (.inr (some r)) :: q => bif Nat.beq (qz_tag μ r) 50 && !pz_out j (qz_len μ r) then some (L, q, qz_wI μ r j.toNatClampNeg v) else none
  | _ => none
def qz_bsto : qz_Q := match st with
  | .inl v :: .inl j :: .inr (.inr (some r)) :: q => bif Nat.beq (qz_tag μ r) 52 && (!pz_out j (qz_len μ r) && (decide (v = 0) || decide (v = 1))) then some (L, q, qz_wI μ r j.toNatClampNeg v) else none
  | _ => none
def qz_lsto : qz_Q := match st with
  | .inr (.inl v) :: .inl j :: .inr (.inr (some r)) :: q => bif Nat.beq (qz_tag μ r) 51 && !pz_out j (qz_len μ r) then some (L, q, qz_wL μ r j.toNatClampNeg v) else none
  | _ => none
def qz_asto : qz_Q := match st with
  | .inr (.inr (some g)) :: .inl j :: .inr (.inr (some r)) :: q => bif (Nat.beq (qz_tag μ r) 54 && (Nat.beq (qz_tag μ g) 1 && Nat.beq r.1 200)) && !pz_out j (qz_len μ r) then some (L, q, qz_wR μ r j.toNatClampNeg (some g)) else none
  | _ => none
def qz_mnew : qz_Q := match st with
  | .inl k :: .inl n :: q => bif (decide (n < 0) || decide (k < 0)) || (Nat.blt 1000 n.toNatClampNeg || Nat.blt 1000 k.toNatClampNeg) then none else
    some (L, .inr (.inr (some (200, qz_na μ + 1, 0))) :: q, qz_alr (qz_al μ 50 n.toNatClampNeg k.toNatClampNeg n.toNatClampNeg (n.toNatClampNeg * k.toNatClampNeg)) 53 1 n.toNatClampNeg 1 n.toNatClampNeg (fun j => if j < n.toNatClampNeg then some (200, qz_na μ, j) else none))
  | _ => none
def qz_leng : qz_Q := match st with
  | .inr (.inr (some r)) :: q => bif pz_arr (qz_tag μ r) then some (L, .inl (Int32.ofNat (qz_len μ r)) :: q, μ) else none
  | _ => none
def qz_newa (tag : Nat) : qz_Q := match st with
  | .inl n :: q => bif decide (n < 0) || Nat.blt 1000000 n.toNatClampNeg then none else some (L, .inr (.inr (some (200, qz_na μ, 0))) :: q, qz_al μ tag 1 n.toNatClampNeg 1 n.toNatClampNeg)
  | _ => none
def qz_new (t : Nat) : qz_Q := bif Nat.blt t 6 then some (L, .inr (.inr (some (200, qz_na μ, 0))) :: st, qz_al μ t 1 0 1 (pz_n t)) else none
def qz_dup : qz_Q := match st with | v :: r => bif Nat.beq (qz_w1 v) 1 then some (L, v :: v :: r, μ) else none | _ => none
def qz_pop : qz_Q := match st with | v :: r => bif Nat.beq (qz_w1 v) 1 then some (L, r, μ) else none | _ => none
def qz_dupx1 : qz_Q := match st with | a :: b :: r => bif Nat.beq (qz_w1 a) 1 && Nat.beq (qz_w1 b) 1 then some (L, a :: b :: a :: r, μ) else none | _ => none
def qz_dupx2 : qz_Q := match st with | a :: b :: d :: r => bif Nat.beq (qz_w1 a) 1 && (Nat.beq (qz_w1 b) 1 && Nat.beq (qz_w1 d) 1) then some (L, a :: b :: d :: a :: r, μ) else none | _ => none
def qz_dup2 : qz_Q := match st with | a :: b :: r => bif Nat.beq (qz_w1 a) 1 && Nat.beq (qz_w1 b) 1 then some (L, a :: b :: a :: b :: r, μ) else none | _ => none
def qz_scl : qz_Q := match st with
  | .inl j :: .inr (.inr (some r)) :: q => bif (Nat.beq r.1 200 && (Nat.beq r.2.1 0 && Nat.beq r.2.2 0)) && (Nat.beq (qz_tag μ (200, 0, 0)) 60 && !pz_out j (qz_len μ (200, 0, 0))) then some (L, .inl (qz_im μ 200 0 0 j.toNatClampNeg) :: q, μ) else none
  | _ => none
def qz_scn : qz_Q := match st with
  | .inr (.inr (some r)) :: q => bif (Nat.beq r.1 200 && (Nat.beq r.2.1 0 && Nat.beq r.2.2 0)) && Nat.beq (qz_tag μ (200, 0, 0)) 60 then some (L, .inl (Int32.ofNat (qz_len μ (200, 0, 0))) :: q, μ) else none
  | _ => none
end QA
def qz_step (fin : Bool) (i : Instr) (a b : Nat) (L : qz_L) (st : List qz_V) (μ : qz_M) : qz_Q := match i with
  | .iconst n => qz_push L st μ (.inl (Int32.ofInt n))
  | .bipush n => qz_push L st μ (.inl (Int8.ofInt n).toInt32)
  | .sipush n => qz_push L st μ (.inl (Int16.ofInt n).toInt32)
  | .lconst n => qz_push L st μ (.inr (.inl (Int64.ofNat (n : Nat))))
  | .ldc _ => qz_push L st μ (.inl (Int32.ofNat a))
  | .ldc_w _ => qz_push L st μ (.inl (Int32.ofNat a))
  | .ldc2_w _ => qz_push L st μ (.inr (.inl (pz_lcs.getD a 0)))
  | .iload k => qz_ldi L st μ k
  | .iload_n k => qz_ldi L st μ k
  | .lload k => qz_ldl L st μ k
  | .lload_n k => qz_ldl L st μ k
  | .aload k => qz_lda L st μ k
  | .aload_n k => qz_lda L st μ k
  | .istore k => qz_sti L st μ k
  | .istore_n k => qz_sti L st μ k
  | .lstore k => qz_stl L st μ k
  | .lstore_n k => qz_stl L st μ k
  | .astore k => qz_sta L st μ k
  | .astore_n k => qz_sta L st μ k
  | .iinc k n => qz_inc L st μ k n
  | .iadd => qz_bin L st μ (fun x y => x + y)
  | .isub => qz_bin L st μ (fun x y => x - y)
  | .imul => qz_bin L st μ (fun x y => x * y)
  | .iand => qz_bin L st μ (fun x y => x &&& y)
  | .ior => qz_bin L st μ (fun x y => x ||| y)
  | .ixor => qz_bin L st μ (fun x y => x ^^^ y)
  | .ishl => qz_bin L st μ (fun x y => x <<< (y &&& 31))
  | .ishr => qz_bin L st μ (fun x y => x >>> (y &&& 31))
  | .idiv => qz_dv L st μ (fun x y => x / y)
  | .irem => qz_dv L st μ (fun x y => x - x / y * y)
  | .ineg => qz_neg L st μ
  | .i2l => qz_i2l L st μ
  | .i2c => qz_i2c L st μ
  | .l2i => qz_l2i L st μ
  | .ladd => qz_lbin L st μ (fun x y => x + y)
  | .lsub => qz_lbin L st μ (fun x y => x - y)
  | .lmul => qz_lbin L st μ (fun x y => x * y)
  | .ldiv => qz_ldv L st μ (fun x y => x / y)
  | .lrem => qz_ldv L st μ (fun x y => x - x / y * y)
  | .lcmp => qz_lcp L st μ
  | .dup => qz_dup L st μ
  | .pop => qz_pop L st μ
  | .dup_x1 => qz_dupx1 L st μ
  | .dup_x2 => qz_dupx2 L st μ
  | .dup2 => qz_dup2 L st μ
  | .getfield _ => qz_get L st μ a b
  | .putfield _ => qz_put L st μ a b fin
  | .iaload => bif Nat.beq a 60 then qz_scl L st μ else qz_ilo L st μ 50
  | .baload => qz_ilo L st μ 52
  | .laload => qz_llo L st μ
  | .aaload => qz_alo L st μ
  | .iastore => qz_isto L st μ
  | .bastore => qz_bsto L st μ
  | .lastore => qz_lsto L st μ
  | .aastore => qz_asto L st μ
  | .arraylength => bif Nat.beq a 60 then qz_scn L st μ else qz_leng L st μ
  | .newarray .int => qz_newa L st μ 50
  | .newarray .long => qz_newa L st μ 51
  | .newarray .boolean => qz_newa L st μ 52
  | .anewarray _ => qz_newa L st μ 54
  | .multianewarray _ _ => qz_mnew L st μ
  | .new _ => qz_new L st μ a
  | _ => none
abbrev qz_Rs : Type := List (Instr × Nat × Nat)
def qz_ins (K g : Nat) (rs : qz_Rs) (x : qz_X) : qz_Q := match rs with
  | [] => some x
  | r :: q => match qz_step (Nat.beq K 2 && Nat.beq g r.2.1) r.1 r.2.1 r.2.2 x.1 x.2.1 x.2.2 with
    | some x' => qz_ins K g q x'
    | none => none
def qz_cnd (i : Instr) (st : List qz_V) : Option (Bool × List qz_V) := match i with
  | .ifCond .eq _ => (match st with | .inl x :: r => some (decide (x = 0), r) | _ => none)
  | .ifCond .ne _ => (match st with | .inl x :: r => some (!decide (x = 0), r) | _ => none)
  | .ifCond .lt _ => (match st with | .inl x :: r => some (decide (x < 0), r) | _ => none)
  | .ifCond .ge _ => (match st with | .inl x :: r => some (decide (0 ≤ x), r) | _ => none)
  | .ifCond .gt _ => (match st with | .inl x :: r => some (decide (0 < x), r) | _ => none)
  | .ifCond .le _ => (match st with | .inl x :: r => some (decide (x ≤ 0), r) | _ => none)
  | .if_icmp .eq _ => (match st with | .inl y :: .inl x :: r => some (decide (x = y), r) | _ => none)
  | .if_icmp .ne _ => (match st with | .inl y :: .inl x :: r => some (!decide (x = y), r) | _ => none)
  | .if_icmp .lt _ => (match st with | .inl y :: .inl x :: r => some (decide (x < y), r) | _ => none)
  | .if_icmp .ge _ => (match st with | .inl y :: .inl x :: r => some (decide (y ≤ x), r) | _ => none)
  | .if_icmp .gt _ => (match st with | .inl y :: .inl x :: r => some (decide (y < x), r) | _ => none)
  | .if_icmp .le _ => (match st with | .inl y :: .inl x :: r => some (decide (x ≤ y), r) | _ => none)
  | _ => none
def qz_off (i : Instr) : Int := match i with
  | .ifCond _ o => o
  | .if_icmp _ o => o
  | .goto o => o
  | _ => 0
abbrev qz_Oc : Type := Option qz_V ⊕ Nat
abbrev qz_E : Type := (Nat × qz_X) ⊕ (qz_M × qz_Oc)
abbrev qz_F : Type := qz_X → Option qz_E
abbrev qz_Fn : Type := List qz_V → qz_M → Option (qz_M × qz_Oc)
def qn_i (K g : Nat) (rs : qz_Rs) : qz_F := fun x => match qz_ins K g rs x with
  | some x' => some (.inl (0, x'))
  | none => none
def qz_fg (ms : List Bool) (L : qz_L) : qz_L := match ms, L with
  | m :: ms, v :: L => (bif m then v else none) :: qz_fg ms L
  | _, L => L
def qn_d (ms : List Bool) : qz_F := fun x => some (.inl (0, qz_fg ms x.1, x.2))
def qn_s (F G : qz_F) : qz_F := fun x => match F x with
  | some (.inl (0, x')) => G x'
  | r => r
def qz_lft (r : Option qz_E) : Option qz_E := match r with
  | some (.inl (n + 1, x')) => some (.inl (n, x'))
  | r => r
def qn_b (F : qz_F) : qz_F := fun x => qz_lft (F x)
def qn_l (F : qz_F) (N : Nat) : qz_F := match N with
  | 0 => fun _ => none
  | n + 1 => fun x => match F x with
    | some (.inl (1, x')) => qn_l F n x'
    | r => qz_lft r
def qn_c (i : Instr) (n : Nat) : qz_F := fun x => match qz_cnd i x.2.1 with
  | some (c, r) => bif c then some (.inl (n + 1, x.1, r, x.2.2)) else some (.inl (0, x.1, r, x.2.2))
  | none => none
def qn_g (n : Nat) : qz_F := fun x => some (.inl (n + 1, x))
def qn_w (lo hi : Int) (ds : List Nat) (d : Nat) : qz_F := fun x => match x.2.1 with
  | .inl v :: r => if v.toInt < lo ∨ hi < v.toInt then some (.inl (d + 1, x.1, r, x.2.2)) else some (.inl (ds.getD (v.toInt - lo).toNat d + 1, x.1, r, x.2.2))
  | _ => none
def qz_rt (i : Instr) (R : Option FieldType) (st : List qz_V) : Option (Option qz_V) := match i with
  | .ireturn => (match st with
    | [.inl v] => if R = some .int ∨ R = some .boolean ∧ (v = 0 ∨ v = 1) then some (some (.inl v)) else none
    | _ => none)
  | .lreturn => (match st with
    | [.inr (.inl v)] => if R = some .long then some (some (.inr (.inl v))) else none
    | _ => none)
  | .areturn => (match st with
    | [.inr (.inr v)] => (match R with
      | some rt => if pz_kd rt = 2 then some (some (.inr (.inr v))) else none
      | none => none)
    | _ => none)
  | .return_ => (match st with
    | [] => if R = none then some none else none
    | _ => none)
  | _ => none
def qn_r (i : Instr) (R : Option FieldType) : qz_F := fun x => match qz_rt i R x.2.1 with
  | some v => some (.inr (x.2.2, .inl v))
  | none => none
def qz_kk (μ : qz_M) (c s : Nat) : qz_M := (μ.1, μ.2.1, μ.2.2.1, μ.2.2.2.1, μ.2.2.2.2.1, μ.2.2.2.2.2.1 + c, μ.2.2.2.2.2.2 + s)
def qn_t (W E : Nat) : qz_F := fun x => bif Nat.ble (qz_wt x.2.1 + 82) W then some (.inr (qz_kk x.2.2 1 6, .inr E)) else none
def qz_args (n : Nat) (st : List qz_V) : Option (List qz_V × List qz_V) := if n ≤ st.length then some ((st.take n).reverse, st.drop n) else none
def qz_es (args : List qz_V) : qz_L := args.flatMap fun v => bif qz_c2 v then [some v, none] else [some v]
def qz_ent (args : List qz_V) (n : Nat) : qz_L := qz_es args ++ List.replicate (n - (qz_es args).length) none
def qz_rcv (μ : qz_M) (t : Nat) (args : List qz_V) : Bool := match args with
  | .inr (.inr (some r)) :: _ => Nat.beq (qz_tag μ r) t && Nat.blt t 6
  | _ => false
def qz_hn (hs : List (Nat × Nat)) (E : Nat) : Option Nat := match hs with
  | [] => none
  | x :: r => bif Nat.beq x.1 E then some x.2 else qz_hn r E
def qz_bk (k : Nat) (hs : List (Nat × Nat)) (L : qz_L) (rest : List qz_V) (r : Option (qz_M × qz_Oc)) : Option qz_E := match r with
  | none => none
  | some (μ, .inl none) => some (.inl (0, L, rest, μ))
  | some (μ, .inl (some v)) => some (.inl (0, L, v :: rest, μ))
  | some (μ, .inr E) => bif Nat.beq k 2 then none else match hs with
    | [] => some (.inr (μ, .inr E))
    | _ => match qz_hn hs E with
      | some h => some (.inl (h + 1, L, [.inr (.inr (some (200, qz_na μ, 0)))], qz_al μ 99 0 0 0 0))
      | none => none
def qn_k (f : qz_Fn) (n l k t : Nat) (hs : List (Nat × Nat)) : qz_F := fun x => match qz_args n x.2.1 with
  | none => none
  | some (as, rest) => bif (Nat.ble (qz_wt rest) 8 && Nat.ble (qz_es as).length l) && (Nat.beq k 0 || qz_rcv x.2.2 t as) then qz_bk k hs x.1 rest (f as x.2.2) else none
def qn_m (mx : Bool) (W : Nat) : qz_F := fun x => match x.2.1 with
  | .inl v :: .inl u :: r => bif Nat.ble (qz_wt r + 13) W then some (.inl (0, x.1, .inl (bif mx then (if u < v then v else u) else (if v < u then v else u)) :: r, x.2.2)) else none
  | _ => none
def qn_ml (W : Nat) : qz_F := fun x => match x.2.1 with
  | .inr (.inl v) :: .inr (.inl u) :: r => bif Nat.ble (qz_wt r + 15) W then some (.inl (0, x.1, .inr (.inl (if v < u then u else v)) :: r, x.2.2)) else none
  | _ => none
def qn_ac (W : Nat) : qz_F := fun x => match x.2.1 with
  | .inl n :: .inl dp :: .inr (.inr (some g)) :: .inl sp :: .inr (.inr (some f)) :: r =>
    if (Nat.ble (qz_wt r + 18) W && (Nat.beq (qz_tag x.2.2 f) 50 && Nat.beq (qz_tag x.2.2 g) 50)) = true ∧ ¬ sp < 0 ∧ ¬ dp < 0 ∧ ¬ n < 0 ∧ sp.toNatClampNeg + n.toNatClampNeg ≤ qz_len x.2.2 f ∧ dp.toNatClampNeg + n.toNatClampNeg ≤ qz_len x.2.2 g then
      some (.inl (0, x.1, r, qz_wC x.2.2 g (va_cpy (qz_im x.2.2 f.1 f.2.1 f.2.2) (qz_im x.2.2 g.1 g.2.1 g.2.2) sp.toNatClampNeg dp.toNatClampNeg n.toNatClampNeg)))
    else none
  | _ => none
def qn_oi (W : Nat) : qz_F := fun x => match x.2.1 with
  | .inr (.inr (some _)) :: r => bif Nat.ble (qz_wt r + 12) W then some (.inl (0, x.1, r, x.2.2)) else none
  | _ => none
def qz_mt (n : Nat) (F : qz_F) : qz_Fn := fun as μ => match F (qz_ent as n, [], μ) with
  | some (.inr r) => some r
  | _ => none
def qz_dk : List (Nat × Nat) := [(0, 0), (0, 0), (0, 0), (0, 0), (10, 0), (11, 0), (12, 0), (13, 0), (14, 0), (40, 0), (20, 0), (41, 0), (21, 0), (42, 0), (22, 0), (43, 0), (23, 0), (44, 0), (24, 0), (45, 0), (25, 0), (46, 0), (26, 0), (47, 0), (27, 0), (48, 0), (28, 0), (49, 0), (29, 0), (50, 0), (30, 0), (51, 0), (31, 0), (52, 0), (32, 0), (53, 0), (33, 0), (54, 0), (34, 0), (3, 0), (61, 0), (60, 0), (62, 0), (10, 1), (11, 1), (12, 1), (13, 1), (14, 1), (40, 1), (20, 1), (41, 1), (21, 1), (42, 1), (22, 1), (43, 1), (23, 1), (44, 1), (24, 1), (45, 1), (25, 1), (46, 1), (26, 1), (47, 1), (27, 1), (48, 1), (28, 1), (49, 1), (29, 1), (50, 1), (30, 1), (51, 1), (31, 1), (52, 1), (32, 1), (53, 1), (33, 1), (54, 1), (34, 1), (63, 0), (10, 2), (11, 2), (12, 2), (13, 2), (14, 2), (40, 2), (20, 2), (41, 2), (21, 2), (42, 2), (22, 2), (43, 2), (23, 2), (44, 2), (24, 2), (45, 2), (25, 2), (46, 2), (26, 2), (47, 2), (27, 2), (48, 2), (28, 2), (49, 2), (29, 2), (50, 2), (30, 2), (51, 2), (31, 2), (52, 2), (32, 2), (53, 2), (33, 2), (54, 2), (34, 2), (10, 3), (11, 3), (12, 3), (13, 3), (14, 3), (40, 3), (20, 3), (41, 3), (21, 3), (42, 3), (22, 3), (43, 3), (23, 3), (44, 3), (24, 3), (45, 3), (25, 3), (46, 3), (26, 3), (47, 3), (27, 3), (48, 3), (28, 3), (49, 3), (29, 3), (50, 3), (30, 3), (51, 3), (31, 3), (52, 3), (32, 3), (53, 3), (33, 3), (54, 3), (34, 3), (10, 4), (11, 4), (12, 4), (13, 4), (14, 4), (40, 4), (20, 4), (41, 4), (21, 4), (42, 4), (22, 4), (43, 4), (23, 4), (44, 4), (24, 4), (45, 4), (25, 4), (46, 4), (26, 4), (47, 4), (27, 4), (48, 4), (28, 4), (49, 4), (29, 4), (50, 4), (30, 4), (51, 4), (31, 4), (52, 4), (32, 4), (53, 4), (33, 4), (54, 4), (34, 4), (10, 5), (11, 5), (12, 5), (13, 5), (14, 5), (40, 5), (20, 5), (41, 5), (21, 5), (42, 5), (22, 5), (43, 5), (23, 5), (44, 5), (24, 5), (45, 5), (25, 5), (46, 5), (26, 5), (47, 5), (27, 5), (48, 5), (28, 5), (49, 5), (29, 5), (50, 5), (30, 5), (51, 5), (31, 5), (52, 5), (32, 5), (53, 5), (33, 5), (54, 5), (34, 5), (10, 6), (11, 6), (12, 6), (13, 6), (14, 6), (40, 6), (20, 6), (41, 6), (21, 6), (42, 6), (22, 6), (43, 6), (23, 6), (44, 6), (24, 6), (45, 6), (25, 6), (46, 6), (26, 6), (47, 6), (27, 6), (48, 6), (28, 6), (49, 6), (29, 6), (50, 6), (30, 6), (51, 6), (31, 6), (52, 6), (32, 6), (53, 6), (33, 6), (54, 6), (34, 6), (10, 7), (11, 7), (12, 7), (13, 7), (14, 7), (40, 7), (20, 7), (41, 7), (21, 7), (42, 7), (22, 7), (43, 7), (23, 7), (44, 7), (24, 7), (45, 7), (25, 7), (46, 7), (26, 7), (47, 7), (27, 7), (48, 7), (28, 7), (49, 7), (29, 7), (50, 7), (30, 7), (51, 7), (31, 7), (52, 7), (32, 7), (53, 7), (33, 7), (54, 7), (34, 7), (10, 8), (11, 8), (12, 8), (13, 8), (14, 8), (40, 8), (20, 8), (41, 8), (21, 8), (42, 8), (22, 8), (43, 8), (23, 8), (44, 8), (24, 8), (45, 8), (25, 8), (46, 8), (26, 8), (47, 8), (27, 8), (48, 8), (28, 8), (49, 8), (29, 8), (50, 8), (30, 8), (51, 8), (31, 8), (52, 8), (32, 8), (53, 8), (33, 8), (54, 8), (34, 8), (10, 9), (11, 9), (12, 9), (13, 9), (14, 9), (40, 9), (20, 9), (41, 9), (21, 9), (42, 9), (22, 9), (43, 9), (23, 9), (44, 9), (24, 9), (45, 9), (25, 9), (46, 9), (26, 9), (47, 9), (27, 9), (48, 9), (28, 9), (49, 9), (29, 9), (50, 9), (30, 9), (51, 9), (31, 9), (52, 9), (32, 9), (53, 9), (33, 9), (54, 9), (34, 9), (64, 0), (10, 10), (11, 10), (12, 10), (13, 10), (14, 10), (40, 10), (20, 10), (41, 10), (21, 10), (42, 10), (22, 10), (43, 10), (23, 10), (44, 10), (24, 10), (45, 10), (25, 10), (46, 10), (26, 10), (47, 10), (27, 10), (48, 10), (28, 10), (49, 10), (29, 10), (50, 10), (30, 10), (51, 10), (31, 10), (52, 10), (32, 10), (53, 10), (33, 10), (54, 10), (34, 10), (10, 11), (11, 11), (12, 11), (13, 11), (14, 11), (40, 11), (20, 11), (41, 11), (21, 11), (42, 11), (22, 11), (43, 11), (23, 11), (44, 11), (24, 11), (45, 11), (25, 11), (46, 11), (26, 11), (47, 11), (27, 11), (48, 11), (28, 11), (49, 11), (29, 11), (50, 11), (30, 11), (51, 11), (31, 11), (52, 11), (32, 11), (53, 11), (33, 11), (54, 11), (34, 11), (65, 0), (4, 0), (66, 0), (67, 0), (10, 12), (11, 12), (12, 12), (13, 12), (14, 12), (40, 12), (20, 12), (41, 12), (21, 12), (42, 12), (22, 12), (43, 12), (23, 12), (44, 12), (24, 12), (45, 12), (25, 12), (46, 12), (26, 12), (47, 12), (27, 12), (48, 12), (28, 12), (49, 12), (29, 12), (50, 12), (30, 12), (51, 12), (31, 12), (52, 12), (32, 12), (53, 12), (33, 12), (54, 12), (34, 12), (10, 13), (11, 13), (12, 13), (13, 13), (14, 13), (40, 13), (20, 13), (41, 13), (21, 13), (42, 13), (22, 13), (43, 13), (23, 13), (44, 13), (24, 13), (45, 13), (25, 13), (46, 13), (26, 13), (47, 13), (27, 13), (48, 13), (28, 13), (49, 13), (29, 13), (50, 13), (30, 13), (51, 13), (31, 13), (52, 13), (32, 13), (53, 13), (33, 13), (54, 13), (34, 13), (10, 14), (11, 14), (12, 14), (13, 14), (14, 14), (40, 14), (20, 14), (41, 14), (21, 14), (42, 14), (22, 14), (43, 14), (23, 14), (44, 14), (24, 14), (45, 14), (25, 14), (46, 14), (26, 14), (47, 14), (27, 14), (48, 14), (28, 14), (49, 14), (29, 14), (50, 14), (30, 14), (51, 14), (31, 14), (52, 14), (32, 14), (53, 14), (33, 14), (54, 14), (34, 14), (68, 0), (69, 0), (70, 0), (1, 0), (2, 0), (81, 0), (82, 0), (83, 0), (84, 0), (85, 0), (86, 0), (87, 0), (88, 0), (89, 0), (90, 0), (91, 0), (92, 0), (93, 0), (94, 0), (95, 0), (96, 0), (97, 0), (98, 0), (99, 0), (100, 0), (101, 0), (102, 0), (103, 0), (104, 0), (105, 0), (106, 0), (107, 0), (108, 0), (109, 0), (110, 0), (111, 0), (112, 0), (113, 0), (71, 0)]
def qz_F9 (ph : Bool) : Nat := bif ph then qz_F0 else 3
def qz_fm (k b : Nat) : Nat := if 10000 ≤ qz_fms.getD k 1 then qz_hb.getD b 1 + (qz_fms.getD k 1 - 10000) else qz_fms.getD k 1
def qz_cr (ph : Bool) (r : qz_R) : pz_R := if r.1 = 200 then ((if r.2.1 = 0 then 0 else qz_F9 ph + r.2.1 - 1), r.2.2) else (qz_fm r.1 r.2.1, r.2.2)
def qz_cv (ph : Bool) (v : qz_V) : pz_V := match v with | .inl x => .inl x | .inr (.inl x) => .inr (.inl x) | .inr (.inr r) => .inr (.inr (r.map (qz_cr ph)))
abbrev qz_cL (ph : Bool) (L : qz_L) : pz_L := L.map (Option.map (qz_cv ph))
abbrev qz_cS (ph : Bool) (st : List qz_V) : List pz_V := st.map (qz_cv ph)
def qz_ok (ph : Bool) (n : Nat) (r : qz_R) : Prop := (r.1 = 200 ∧ r.2.1 < n) ∨ (r.1 ≠ 200 ∧ ph = true ∧ r.2.1 < qz_nbs.getD r.1 0 ∧ r.2.2 < qz_cts.getD r.1 0)
def qz_shp (μ : qz_M) (r : qz_R) : Nat × Nat × Nat := if r.1 = 200 then qz_dn μ r.2.1 else (qz_tgs.getD r.1 255, qz_cts.getD r.1 0, qz_lns.getD r.1 0)
def qz_okV (ph : Bool) (n : Nat) (v : qz_V) : Prop := ∀ r, v = .inr (.inr (some r)) → qz_ok ph n r
def qz_okL (ph : Bool) (n : Nat) (L : qz_L) : Prop := ∀ v, some v ∈ L → qz_okV ph n v
def qz_okS (ph : Bool) (n : Nat) (st : List qz_V) : Prop := ∀ v ∈ st, qz_okV ph n v
def qz_Rel (ph : Bool) (μ : qz_M) (σ : pz_S) : Prop :=
  (σ.1 + 1 = qz_F9 ph + qz_na μ ∧ 1 ≤ qz_na μ) ∧ (pz_kc σ = qz_kc μ ∧ pz_ks σ = qz_ks μ) ∧
  (∀ r, qz_ok ph (qz_na μ) r → pz_sh σ (qz_cr ph r).1 = qz_shp μ r) ∧
  (∀ r, qz_ok ph (qz_na μ) r → ∀ j, pz_mm σ (qz_cr ph r).1 (qz_cr ph r).2 j = qz_im μ r.1 r.2.1 r.2.2 j ∧ pz_ml σ (qz_cr ph r).1 (qz_cr ph r).2 j = qz_lm μ r.1 r.2.1 r.2.2 j) ∧
  (∀ r, qz_ok ph (qz_na μ) r → ∀ j, (r.1 = 200 ∨ j < qz_nrs.getD r.1 0) → pz_rr σ (qz_cr ph r).1 (qz_cr ph r).2 j = (qz_rf μ r j).map (qz_cr ph) ∧ ∀ r', qz_rf μ r j = some r' → qz_ok ph (qz_na μ) r')
section PH
variable {ph : Bool}
theorem qz_okn {n m : Nat} {r : qz_R} (h : qz_ok ph n r) (hm : n ≤ m) : qz_ok ph m r := by sorry
theorem qz_okVn {n m : Nat} {v : qz_V} (h : qz_okV ph n v) (hm : n ≤ m) : qz_okV ph m v := by sorry
theorem qz_okLn {n m : Nat} {L : qz_L} (h : qz_okL ph n L) (hm : n ≤ m) : qz_okL ph m L := by sorry
theorem qz_okSn {n m : Nat} {L : List qz_V} (h : qz_okS ph n L) (hm : n ≤ m) : qz_okS ph m L := by sorry
theorem qz_okI {n : Nat} {x : Int32} : qz_okV ph n (.inl x) := by sorry
theorem qz_okJ {n : Nat} {x : Int64} : qz_okV ph n (.inr (.inl x)) := by sorry
theorem qz_okR {n : Nat} {r : qz_R} (h : qz_ok ph n r) : qz_okV ph n (.inr (.inr (some r))) := by sorry
theorem qz_okS_c {n : Nat} {v : qz_V} {r : List qz_V} (h : qz_okV ph n v) (g : qz_okS ph n r) : qz_okS ph n (v :: r) := by sorry
theorem qz_okS_t {n : Nat} {v : qz_V} {r : List qz_V} (h : qz_okS ph n (v :: r)) : qz_okS ph n r := by sorry
theorem qz_okS_h {n : Nat} {v : qz_V} {r : List qz_V} (h : qz_okS ph n (v :: r)) : qz_okV ph n v := by sorry
theorem qz_okS_n {n : Nat} : qz_okS ph n [] := by sorry
theorem qz_nb_lt {k b : Nat} (h : b < qz_nbs.getD k 0) : k < 114 := by sorry
theorem qz_lay : ∀ k, k < 114 → ∀ b, b < qz_nbs.getD k 0 → qz_dk.getD (qz_fm k b) (0, 0) = (k, b) ∧ 3 ≤ qz_fm k b ∧ qz_fm k b < qz_F0 := by sorry
theorem qz_lay2 : ∀ k, k < 114 → (qz_tgs.getD k 255 < 6 → qz_nrs.getD k 0 = pz_n (qz_tgs.getD k 255)) ∧ (qz_tgs.getD k 255 = 53 ∨ qz_tgs.getD k 255 = 54 → qz_nrs.getD k 0 = qz_lns.getD k 0) := by sorry
theorem qz_cr2 (r : qz_R) : (qz_cr ph r).2 = r.2.2 := by sorry
theorem qz_cr_d {r : qz_R} (h : r.1 = 200) : (qz_cr ph r).1 = if r.2.1 = 0 then 0 else qz_F9 ph + r.2.1 - 1 := by sorry
theorem qz_cr_s {r : qz_R} (h : r.1 ≠ 200) : (qz_cr ph r).1 = qz_fm r.1 r.2.1 := by sorry
theorem qz_F9_3 : 3 ≤ qz_F9 ph := by sorry
theorem qz_cr_inj {n : Nat} {r r' : qz_R} (h : qz_ok ph n r) (h' : qz_ok ph n r') (e1 : (qz_cr ph r).1 = (qz_cr ph r').1) (e2 : (qz_cr ph r).2 = (qz_cr ph r').2) : r = r' := by sorry
theorem qz_b200 {k : Nat} (h : k ≠ 200) : Nat.beq k 200 = false := by sorry
theorem qz_is_ok {μ : qz_M} {σ : pz_S} {r : qz_R} {t : Nat} (R : qz_Rel ph μ σ) (h : qz_ok ph (qz_na μ) r) (ht : Nat.beq (qz_tag μ r) t = true) (h9 : t ≠ 255) : pz_is σ (qz_cr ph r).1 (qz_cr ph r).2 t = true := by sorry
theorem qz_sh_ok {μ : qz_M} {σ : pz_S} {r : qz_R} (R : qz_Rel ph μ σ) (h : qz_ok ph (qz_na μ) r) : (qz_tag μ r ≠ 255 → (pz_sh σ (qz_cr ph r).1).1 = qz_tag μ r) ∧ (pz_sh σ (qz_cr ph r).1).2.2 = qz_len μ r := by sorry
theorem qz_Rel_wI {μ : qz_M} {σ : pz_S} {r : qz_R} (R : qz_Rel ph μ σ) (h : qz_ok ph (qz_na μ) r) (j : Nat) (v : Int32) : qz_Rel ph (qz_wI μ r j v) (pz_wM σ (qz_cr ph r).1 (qz_cr ph r).2 j v) := by sorry
theorem qz_Rel_wC {μ : qz_M} {σ : pz_S} {r : qz_R} (R : qz_Rel ph μ σ) (h : qz_ok ph (qz_na μ) r) (c : Nat → Int32) : qz_Rel ph (qz_wC μ r c) (pz_wC σ (qz_cr ph r).1 (qz_cr ph r).2 c) := by sorry
theorem qz_Rel_wL {μ : qz_M} {σ : pz_S} {r : qz_R} (R : qz_Rel ph μ σ) (h : qz_ok ph (qz_na μ) r) (j : Nat) (v : Int64) : qz_Rel ph (qz_wL μ r j v) (pz_wL σ (qz_cr ph r).1 (qz_cr ph r).2 j v) := by sorry
theorem qz_Rel_wR {μ : qz_M} {σ : pz_S} {r : qz_R} (R : qz_Rel ph μ σ) (h : qz_ok ph (qz_na μ) r) (j : Nat) (v : Option qz_R) (hd : qz_dy r j = true) (hv : ∀ r', v = some r' → qz_ok ph (qz_na μ) r') : qz_Rel ph (qz_wR μ r j v) (pz_wR σ (qz_cr ph r).1 (qz_cr ph r).2 j (v.map (qz_cr ph))) := by sorry
theorem qz_ok_al {n : Nat} {r : qz_R} (h : qz_ok ph (n + 1) r) : qz_ok ph n r ∨ r = (200, n, r.2.2) := by sorry
theorem qz_ok_nw {n i : Nat} : qz_ok ph (n + 1) (200, n, i) := by sorry
theorem qz_ok_ne {n : Nat} {r : qz_R} (h : qz_ok ph n r) : ¬ (r.1 = 200 ∧ r.2.1 = n) := by sorry
theorem qz_cr_nw {μ : qz_M} {σ : pz_S} (R : qz_Rel ph μ σ) (i : Nat) : qz_cr ph (200, qz_na μ, i) = (σ.1, i) := by sorry
theorem qz_cr_ne {μ : qz_M} {σ : pz_S} (R : qz_Rel ph μ σ) {r : qz_R} (h : qz_ok ph (qz_na μ) r) : (qz_cr ph r).1 ≠ σ.1 := by sorry
theorem qz_Rel_alr {μ : qz_M} {σ : pz_S} (R : qz_Rel ph μ σ) (tag cnt len cells slots : Nat) (f : Nat → Option qz_R) (hf : ∀ j r', f j = some r' → qz_ok ph (qz_na μ + 1) r') : qz_Rel ph (qz_alr μ tag cnt len cells slots f) (pz_al σ tag cnt len cells slots (fun _ j => (f j).map (qz_cr ph))) := by sorry
theorem qz_Rel_al {μ : qz_M} {σ : pz_S} (R : qz_Rel ph μ σ) (tag cnt len cells slots : Nat) : qz_Rel ph (qz_al μ tag cnt len cells slots) (pz_al σ tag cnt len cells slots (fun _ _ => none)) := by sorry
theorem qz_Rel_kk {μ : qz_M} {σ : pz_S} (R : qz_Rel ph μ σ) (c s : Nat) : qz_Rel ph (qz_kk μ c s) (σ.1, σ.2.1, σ.2.2.1, σ.2.2.2.1, σ.2.2.2.2.1, σ.2.2.2.2.2.1 + c, σ.2.2.2.2.2.2 + s) := by sorry
def qz_LR (ph : Bool) (L : qz_L) (Lc : pz_L) : Prop := Lc.length = L.length ∧ ∀ i v, L.getD i none = some v → Lc.getD i none = some (qz_cv ph v)
theorem qz_cL_getD (L : qz_L) (i : Nat) : (qz_cL ph L).getD i none = (L.getD i none).map (qz_cv ph) := by sorry
theorem qz_LR_cL (L : qz_L) : qz_LR ph L (qz_cL ph L) := by sorry
theorem qz_getD_set {α : Type} (L : List (Option α)) (i j : Nat) (v : Option α) : (L.set i v).getD j none = if i = j ∧ i < L.length then v else L.getD j none := by sorry
theorem qz_kill_len (L : qz_L) (i : Nat) : (qz_kill L i).length = L.length := by sorry
theorem qz_okL_kill {n : Nat} {L : qz_L} (h : qz_okL ph n L) (i : Nat) : qz_okL ph n (qz_kill L i) := by sorry
theorem pz_kill_len9 (L : pz_L) (i : Nat) : (pz_kill L i).length = L.length := by sorry
theorem qz_LR_kill {L : qz_L} {Lc : pz_L} (h : qz_LR ph L Lc) (i : Nat) : qz_LR ph (qz_kill L i) (pz_kill Lc i) := by sorry
theorem qz_LR_set {L : qz_L} {Lc : pz_L} (h : qz_LR ph L Lc) (i : Nat) {v : Option qz_V} {w : Option pz_V} (hv : ∀ x, v = some x → w = some (qz_cv ph x)) : qz_LR ph (L.set i v) (Lc.set i w) := by sorry
theorem qz_LR_st1 {L : qz_L} {Lc : pz_L} (h : qz_LR ph L Lc) (i : Nat) (v : qz_V) : qz_LR ph (qz_st1 L i v) (pz_st1 Lc i (qz_cv ph v)) := by sorry
theorem qz_LR_st2 {L : qz_L} {Lc : pz_L} (h : qz_LR ph L Lc) (i : Nat) (v : qz_V) : qz_LR ph (qz_st2 L i v) (pz_st2 Lc i (qz_cv ph v)) := by sorry
theorem qz_st1_len (L : qz_L) (i : Nat) (v : qz_V) : (qz_st1 L i v).length = L.length := by sorry
theorem qz_st2_len (L : qz_L) (i : Nat) (v : qz_V) : (qz_st2 L i v).length = L.length := by sorry
theorem qz_okL_st1 {n : Nat} {L : qz_L} (h : qz_okL ph n L) (i : Nat) {v : qz_V} (hv : qz_okV ph n v) : qz_okL ph n (qz_st1 L i v) := by sorry
theorem qz_okL_st2 {n : Nat} {L : qz_L} (h : qz_okL ph n L) (i : Nat) {v : qz_V} (hv : qz_okV ph n v) : qz_okL ph n (qz_st2 L i v) := by sorry
theorem qz_okL_at {n : Nat} {L : qz_L} (h : qz_okL ph n L) {i : Nat} {v : qz_V} (e : L.getD i none = some v) : qz_okV ph n v := by sorry
theorem qz_w1_cv (v : qz_V) : pz_w1 (qz_cv ph v) = qz_w1 v := by sorry
theorem qz_wt_cS (st : List qz_V) : pz_wt (qz_cS ph st) = qz_wt st := by sorry
section QE
variable {L : pz_L} {q : List pz_V} {σ : pz_S} {pc : Nat} {r : pz_R} {j v : Int32}
theorem pz_get_e {t k : Nat} : pz_get pc L (.inr (.inr (some r)) :: q) σ t k = if pz_is σ r.1 r.2 t = true then (if pz_kd (pz_ty t k) = 2 then some (pc + 3, L, .inr (.inr (pz_rr σ r.1 r.2 k)) :: q, σ) else some (pc + 3, L, .inl (pz_mm σ r.1 r.2 k) :: q, σ)) else none := by sorry
theorem pz_ilo_e {t : Nat} : pz_ilo pc L (.inl j :: .inr (.inr (some r)) :: q) σ t = if pz_is σ r.1 r.2 t = true ∧ pz_out j (pz_sh σ r.1).2.2 = false then some (pc + 1, L, .inl (pz_mm σ r.1 r.2 j.toNatClampNeg) :: q, σ) else none := by sorry
theorem pz_llo_e : pz_llo pc L (.inl j :: .inr (.inr (some r)) :: q) σ = if pz_is σ r.1 r.2 51 = true ∧ pz_out j (pz_sh σ r.1).2.2 = false then some (pc + 1, L, .inr (.inl (pz_ml σ r.1 r.2 j.toNatClampNeg)) :: q, σ) else none := by sorry
theorem pz_alo_e : pz_alo pc L (.inl j :: .inr (.inr (some r)) :: q) σ = if (pz_is σ r.1 r.2 53 || pz_is σ r.1 r.2 54) = true ∧ pz_out j (pz_sh σ r.1).2.2 = false then some (pc + 1, L, .inr (.inr (pz_rr σ r.1 r.2 j.toNatClampNeg)) :: q, σ) else none := by sorry
theorem pz_isto_e : pz_isto pc L (.inl v :: .inl j :: .inr (.inr (some r)) :: q) σ = if pz_is σ r.1 r.2 50 = true ∧ pz_out j (pz_sh σ r.1).2.2 = false then some (pc + 1, L, q, pz_wM σ r.1 r.2 j.toNatClampNeg v) else none := by sorry
theorem pz_bsto_e : pz_bsto pc L (.inl v :: .inl j :: .inr (.inr (some r)) :: q) σ = if pz_is σ r.1 r.2 52 = true ∧ pz_out j (pz_sh σ r.1).2.2 = false ∧ (v = 0 ∨ v = 1) then some (pc + 1, L, q, pz_wM σ r.1 r.2 j.toNatClampNeg v) else none := by sorry
theorem pz_lsto_e {w : Int64} : pz_lsto pc L (.inr (.inl w) :: .inl j :: .inr (.inr (some r)) :: q) σ = if pz_is σ r.1 r.2 51 = true ∧ pz_out j (pz_sh σ r.1).2.2 = false then some (pc + 1, L, q, pz_wL σ r.1 r.2 j.toNatClampNeg w) else none := by sorry
theorem pz_asto_e {g : pz_R} : pz_asto pc L (.inr (.inr (some g)) :: .inl j :: .inr (.inr (some r)) :: q) σ = if pz_is σ r.1 r.2 54 = true ∧ pz_is σ g.1 g.2 1 = true ∧ pz_out j (pz_sh σ r.1).2.2 = false then some (pc + 1, L, q, pz_wR σ r.1 r.2 j.toNatClampNeg (some g)) else none := by sorry
theorem pz_len_e : pz_len pc L (.inr (.inr (some r)) :: q) σ = if pz_arr (pz_sh σ r.1).1 = true ∧ pz_is σ r.1 r.2 (pz_sh σ r.1).1 = true then some (pc + 1, L, .inl (Int32.ofNat (pz_sh σ r.1).2.2) :: q, σ) else none := by sorry
end QE
def qz_Sm (ph : Bool) (pc' : Nat) (L : qz_L) (μ : qz_M) (x' : qz_X) (y : pz_P) : Prop := ∃ σ' Lc', y = some (pc', Lc', qz_cS ph x'.2.1, σ') ∧ qz_LR ph x'.1 Lc' ∧ qz_Rel ph x'.2.2 σ' ∧ qz_okL ph (qz_na x'.2.2) x'.1 ∧ qz_okS ph (qz_na x'.2.2) x'.2.1 ∧ x'.1.length = L.length ∧ qz_na μ ≤ qz_na x'.2.2
theorem qz_cnd_t {α : Type} {c : Bool} {x y : α} {z : α} (h : (bif c then x else y) = z) (hy : y ≠ z) : c = true ∧ x = z := by sorry
section QS
variable {L : qz_L} {Lc : pz_L} {st : List qz_V} {μ : qz_M} {σ : pz_S} {pc : Nat} {x' : qz_X}
theorem qz_Sm_p {st' : List qz_V} {pc' : Nat} {y : pz_P} (R : qz_Rel ph μ σ) (hR : qz_LR ph L Lc) (hL : qz_okL ph (qz_na μ) L) (hs : qz_okS ph (qz_na μ) st') (e : y = some (pc', Lc, qz_cS ph st', σ)) : qz_Sm ph pc' L μ (L, st', μ) y := by sorry
theorem qz_Sm_q {st' : List qz_V} {pc' : Nat} {y : pz_P} {μ' : qz_M} {σ' : pz_S} (R : qz_Rel ph μ' σ') (hR : qz_LR ph L Lc) (hL : qz_okL ph (qz_na μ') L) (hs : qz_okS ph (qz_na μ') st') (hn : qz_na μ ≤ qz_na μ') (e : y = some (pc', Lc, qz_cS ph st', σ')) : qz_Sm ph pc' L μ (L, st', μ') y := by sorry
theorem qs_push {n : Nat} {v : qz_V} {w : pz_V} (R : qz_Rel ph μ σ) (hR : qz_LR ph L Lc) (hL : qz_okL ph (qz_na μ) L) (hS : qz_okS ph (qz_na μ) st) (hv : qz_okV ph (qz_na μ) v) (hw : w = qz_cv ph v) (h : qz_push L st μ v = some x') : qz_Sm ph (pc + n) L μ x' (pz_push pc Lc (qz_cS ph st) σ n w) := by sorry
theorem qs_ldi {n i : Nat} (R : qz_Rel ph μ σ) (hR : qz_LR ph L Lc) (hL : qz_okL ph (qz_na μ) L) (hS : qz_okS ph (qz_na μ) st) (h : qz_ldi L st μ i = some x') : qz_Sm ph (pc + n) L μ x' (pz_ldi pc Lc (qz_cS ph st) σ n i) := by sorry
theorem qs_ldl {n i : Nat} (R : qz_Rel ph μ σ) (hR : qz_LR ph L Lc) (hL : qz_okL ph (qz_na μ) L) (hS : qz_okS ph (qz_na μ) st) (h : qz_ldl L st μ i = some x') : qz_Sm ph (pc + n) L μ x' (pz_ldl pc Lc (qz_cS ph st) σ n i) := by sorry
theorem qs_lda {n i : Nat} (R : qz_Rel ph μ σ) (hR : qz_LR ph L Lc) (hL : qz_okL ph (qz_na μ) L) (hS : qz_okS ph (qz_na μ) st) (h : qz_lda L st μ i = some x') : qz_Sm ph (pc + n) L μ x' (pz_lda pc Lc (qz_cS ph st) σ n i) := by sorry
theorem qz_cL_lt {i : Nat} (hR : qz_LR ph L Lc) (h : Nat.blt i L.length = true) : i < Lc.length := by sorry
theorem qs_sti {n i : Nat} (R : qz_Rel ph μ σ) (hR : qz_LR ph L Lc) (hL : qz_okL ph (qz_na μ) L) (hS : qz_okS ph (qz_na μ) st) (h : qz_sti L st μ i = some x') : qz_Sm ph (pc + n) L μ x' (pz_sti pc Lc (qz_cS ph st) σ n i) := by sorry
theorem qs_sta {n i : Nat} (R : qz_Rel ph μ σ) (hR : qz_LR ph L Lc) (hL : qz_okL ph (qz_na μ) L) (hS : qz_okS ph (qz_na μ) st) (h : qz_sta L st μ i = some x') : qz_Sm ph (pc + n) L μ x' (pz_sta pc Lc (qz_cS ph st) σ n i) := by sorry
theorem qs_stl {n i : Nat} (R : qz_Rel ph μ σ) (hR : qz_LR ph L Lc) (hL : qz_okL ph (qz_na μ) L) (hS : qz_okS ph (qz_na μ) st) (h : qz_stl L st μ i = some x') : qz_Sm ph (pc + n) L μ x' (pz_stl pc Lc (qz_cS ph st) σ n i) := by sorry
theorem qs_inc {i : Nat} {k : Int} (R : qz_Rel ph μ σ) (hR : qz_LR ph L Lc) (hL : qz_okL ph (qz_na μ) L) (hS : qz_okS ph (qz_na μ) st) (h : qz_inc L st μ i k = some x') : qz_Sm ph (pc + 3) L μ x' (pz_inc pc Lc (qz_cS ph st) σ i k) := by sorry
theorem qs_bin {f : Int32 → Int32 → Int32} (R : qz_Rel ph μ σ) (hR : qz_LR ph L Lc) (hL : qz_okL ph (qz_na μ) L) (hS : qz_okS ph (qz_na μ) st) (h : qz_bin L st μ f = some x') : qz_Sm ph (pc + 1) L μ x' (pz_bin pc Lc (qz_cS ph st) σ f) := by sorry
theorem qs_dv {f : Int32 → Int32 → Int32} (R : qz_Rel ph μ σ) (hR : qz_LR ph L Lc) (hL : qz_okL ph (qz_na μ) L) (hS : qz_okS ph (qz_na μ) st) (h : qz_dv L st μ f = some x') : qz_Sm ph (pc + 1) L μ x' (pz_dv pc Lc (qz_cS ph st) σ f) := by sorry
theorem qs_lbin {f : Int64 → Int64 → Int64} (R : qz_Rel ph μ σ) (hR : qz_LR ph L Lc) (hL : qz_okL ph (qz_na μ) L) (hS : qz_okS ph (qz_na μ) st) (h : qz_lbin L st μ f = some x') : qz_Sm ph (pc + 1) L μ x' (pz_lbin pc Lc (qz_cS ph st) σ f) := by sorry
theorem qs_ldv {f : Int64 → Int64 → Int64} (R : qz_Rel ph μ σ) (hR : qz_LR ph L Lc) (hL : qz_okL ph (qz_na μ) L) (hS : qz_okS ph (qz_na μ) st) (h : qz_ldv L st μ f = some x') : qz_Sm ph (pc + 1) L μ x' (pz_ldv pc Lc (qz_cS ph st) σ f) := by sorry
theorem qs_neg (R : qz_Rel ph μ σ) (hR : qz_LR ph L Lc) (hL : qz_okL ph (qz_na μ) L) (hS : qz_okS ph (qz_na μ) st) (h : qz_neg L st μ = some x') : qz_Sm ph (pc + 1) L μ x' (pz_un pc Lc (qz_cS ph st) σ (fun x => .inl (-x))) := by sorry
theorem qs_i2l (R : qz_Rel ph μ σ) (hR : qz_LR ph L Lc) (hL : qz_okL ph (qz_na μ) L) (hS : qz_okS ph (qz_na μ) st) (h : qz_i2l L st μ = some x') : qz_Sm ph (pc + 1) L μ x' (pz_un pc Lc (qz_cS ph st) σ (fun x => .inr (.inl x.toInt64))) := by sorry
theorem qs_i2c (R : qz_Rel ph μ σ) (hR : qz_LR ph L Lc) (hL : qz_okL ph (qz_na μ) L) (hS : qz_okS ph (qz_na μ) st) (h : qz_i2c L st μ = some x') : qz_Sm ph (pc + 1) L μ x' (pz_un pc Lc (qz_cS ph st) σ (fun x => .inl (x.toUInt32 % 65536).toInt32)) := by sorry
theorem qs_get {t k : Nat} (R : qz_Rel ph μ σ) (hR : qz_LR ph L Lc) (hL : qz_okL ph (qz_na μ) L) (hS : qz_okS ph (qz_na μ) st) (h : qz_get L st μ t k = some x') : qz_Sm ph (pc + 3) L μ x' (pz_get pc Lc (qz_cS ph st) σ t k) := by sorry
theorem qs_put {t k : Nat} {fin : Bool} (R : qz_Rel ph μ σ) (hR : qz_LR ph L Lc) (hL : qz_okL ph (qz_na μ) L) (hS : qz_okS ph (qz_na μ) st) (h : qz_put L st μ t k fin = some x') : qz_Sm ph (pc + 3) L μ x' (pz_put pc Lc (qz_cS ph st) σ t k fin) := by sorry
theorem qz_nt {b : Bool} (h : (!b) = true) : b = false := by sorry
theorem qs_ilo {t : Nat} (R : qz_Rel ph μ σ) (hR : qz_LR ph L Lc) (hL : qz_okL ph (qz_na μ) L) (hS : qz_okS ph (qz_na μ) st) (h : qz_ilo L st μ t = some x') : qz_Sm ph (pc + 1) L μ x' (pz_ilo pc Lc (qz_cS ph st) σ t) := by sorry
theorem qs_llo (R : qz_Rel ph μ σ) (hR : qz_LR ph L Lc) (hL : qz_okL ph (qz_na μ) L) (hS : qz_okS ph (qz_na μ) st) (h : qz_llo L st μ = some x') : qz_Sm ph (pc + 1) L μ x' (pz_llo pc Lc (qz_cS ph st) σ) := by sorry
theorem qz_out_lt {j : Int32} {n : Nat} (h : pz_out j n = false) : j.toNatClampNeg < n := by sorry
theorem qs_alo (R : qz_Rel ph μ σ) (hR : qz_LR ph L Lc) (hL : qz_okL ph (qz_na μ) L) (hS : qz_okS ph (qz_na μ) st) (h : qz_alo L st μ = some x') : qz_Sm ph (pc + 1) L μ x' (pz_alo pc Lc (qz_cS ph st) σ) := by sorry
theorem qs_asto (R : qz_Rel ph μ σ) (hR : qz_LR ph L Lc) (hL : qz_okL ph (qz_na μ) L) (hS : qz_okS ph (qz_na μ) st) (h : qz_asto L st μ = some x') : qz_Sm ph (pc + 1) L μ x' (pz_asto pc Lc (qz_cS ph st) σ) := by sorry
theorem qs_isto (R : qz_Rel ph μ σ) (hR : qz_LR ph L Lc) (hL : qz_okL ph (qz_na μ) L) (hS : qz_okS ph (qz_na μ) st) (h : qz_isto L st μ = some x') : qz_Sm ph (pc + 1) L μ x' (pz_isto pc Lc (qz_cS ph st) σ) := by sorry
theorem qs_bsto (R : qz_Rel ph μ σ) (hR : qz_LR ph L Lc) (hL : qz_okL ph (qz_na μ) L) (hS : qz_okS ph (qz_na μ) st) (h : qz_bsto L st μ = some x') : qz_Sm ph (pc + 1) L μ x' (pz_bsto pc Lc (qz_cS ph st) σ) := by sorry
theorem qs_lsto (R : qz_Rel ph μ σ) (hR : qz_LR ph L Lc) (hL : qz_okL ph (qz_na μ) L) (hS : qz_okS ph (qz_na μ) st) (h : qz_lsto L st μ = some x') : qz_Sm ph (pc + 1) L μ x' (pz_lsto pc Lc (qz_cS ph st) σ) := by sorry
theorem qs_leng (R : qz_Rel ph μ σ) (hR : qz_LR ph L Lc) (hL : qz_okL ph (qz_na μ) L) (hS : qz_okS ph (qz_na μ) st) (h : qz_leng L st μ = some x') : qz_Sm ph (pc + 1) L μ x' (pz_len pc Lc (qz_cS ph st) σ) := by sorry
theorem qz_nw_cv (R : qz_Rel ph μ σ) : qz_cv ph (.inr (.inr (some (200, qz_na μ, 0)))) = .inr (.inr (some (σ.1, 0))) := by sorry
theorem qs_newa {n tag : Nat} (R : qz_Rel ph μ σ) (hR : qz_LR ph L Lc) (hL : qz_okL ph (qz_na μ) L) (hS : qz_okS ph (qz_na μ) st) (h : qz_newa L st μ tag = some x') : qz_Sm ph (pc + n) L μ x' (pz_newa pc Lc (qz_cS ph st) σ n tag) := by sorry
theorem qs_mnew (R : qz_Rel ph μ σ) (hR : qz_LR ph L Lc) (hL : qz_okL ph (qz_na μ) L) (hS : qz_okS ph (qz_na μ) st) (h : qz_mnew L st μ = some x') : qz_Sm ph (pc + 4) L μ x' (pz_mnew pc Lc (qz_cS ph st) σ) := by sorry
theorem qs_new {t : Nat} (R : qz_Rel ph μ σ) (hR : qz_LR ph L Lc) (hL : qz_okL ph (qz_na μ) L) (hS : qz_okS ph (qz_na μ) st) (h : qz_new L st μ t = some x') : t < 6 ∧ qz_Sm ph (pc + 3) L μ x' (pz_new pc Lc (qz_cS ph st) σ t) := by sorry
theorem qz_w1t {v : qz_V} (h : Nat.beq (qz_w1 v) 1 = true) : pz_w1 (qz_cv ph v) = 1 := by sorry
theorem qs_dup (R : qz_Rel ph μ σ) (hR : qz_LR ph L Lc) (hL : qz_okL ph (qz_na μ) L) (hS : qz_okS ph (qz_na μ) st) (h : qz_dup L st μ = some x') : qz_Sm ph (pc + 1) L μ x' (pz_dup pc Lc (qz_cS ph st) σ) := by sorry
theorem qs_pop (R : qz_Rel ph μ σ) (hR : qz_LR ph L Lc) (hL : qz_okL ph (qz_na μ) L) (hS : qz_okS ph (qz_na μ) st) (h : qz_pop L st μ = some x') : qz_Sm ph (pc + 1) L μ x' (pz_pop pc Lc (qz_cS ph st) σ) := by sorry
theorem qs_dupx1 (R : qz_Rel ph μ σ) (hR : qz_LR ph L Lc) (hL : qz_okL ph (qz_na μ) L) (hS : qz_okS ph (qz_na μ) st) (h : qz_dupx1 L st μ = some x') : qz_Sm ph (pc + 1) L μ x' (pz_dupx1 pc Lc (qz_cS ph st) σ) := by sorry
theorem qs_dupx2 (R : qz_Rel ph μ σ) (hR : qz_LR ph L Lc) (hL : qz_okL ph (qz_na μ) L) (hS : qz_okS ph (qz_na μ) st) (h : qz_dupx2 L st μ = some x') : qz_Sm ph (pc + 1) L μ x' (pz_dupx2 pc Lc (qz_cS ph st) σ) := by sorry
theorem qs_dup2 (R : qz_Rel ph μ σ) (hR : qz_LR ph L Lc) (hL : qz_okL ph (qz_na μ) L) (hS : qz_okS ph (qz_na μ) st) (h : qz_dup2 L st μ = some x') : qz_Sm ph (pc + 1) L μ x' (pz_dup2 pc Lc (qz_cS ph st) σ) := by sorry
theorem qs_scl (R : qz_Rel ph μ σ) (hR : qz_LR ph L Lc) (hL : qz_okL ph (qz_na μ) L) (hS : qz_okS ph (qz_na μ) st) (h : qz_scl L st μ = some x') : qz_Sm ph (pc + 1) L μ x' (pz_scl pc Lc (qz_cS ph st) σ) := by sorry
theorem qs_scn (R : qz_Rel ph μ σ) (hR : qz_LR ph L Lc) (hL : qz_okL ph (qz_na μ) L) (hS : qz_okS ph (qz_na μ) st) (h : qz_scn L st μ = some x') : qz_Sm ph (pc + 1) L μ x' (pz_scn pc Lc (qz_cS ph st) σ) := by sorry
end QS
end PH
def qz_cst (fin : Bool) (i : Instr) (a b pc : Nat) (L : pz_L) (st : List pz_V) (σ : pz_S) : pz_P := match i with
  | .iaload => bif Nat.beq a 60 then pz_scl pc L st σ else pz_step false .iaload a b pc L st σ
  | .arraylength => bif Nat.beq a 60 then pz_scn pc L st σ else pz_step false .arraylength a b pc L st σ
  | .new k => pz_step false (.new k) a b pc L st σ
  | i => pz_step fin i a b pc L st σ
def qz_spk (i : Instr) (a : Nat) : Bool := match i with
  | .iaload => true
  | .arraylength => true
  | .new _ => Nat.blt a 100
  | i => !pz_sp i
section QC
variable {ph : Bool}
variable {L : qz_L} {Lc : pz_L} {st : List qz_V} {μ : qz_M} {σ : pz_S} {pc : Nat} {x' : qz_X}
set_option maxHeartbeats 4000000 in
theorem qs_step {fin : Bool} {i : Instr} {a b : Nat} (R : qz_Rel ph μ σ) (hR : qz_LR ph L Lc) (hL : qz_okL ph (qz_na μ) L) (hS : qz_okS ph (qz_na μ) st) (h : qz_step fin i a b L st μ = some x') : qz_Sm ph (pc + pz_il i) L μ x' (qz_cst fin i a b pc Lc (qz_cS ph st) σ) ∧ qz_spk i a = true := by sorry
end QC
set_option maxHeartbeats 4000000 in
theorem qz_run_st {T : pz_Tb} {I : pz_Ib} {y pc n9 a b m : Nat} {My : pz_M} {i : Instr} {L : pz_L} {st : List pz_V} {σ : pz_S} (hI : I y = some My) (hT : T y pc = some (i, n9, a, b)) (hk : qz_spk i a = true) :
    pz_run T I (m + 1) y pc L st σ = pz_go (pz_run T I m) y (qz_cst (Nat.beq (pz_mK My) 2 && Nat.beq (pz_mT My) a) i a b pc L st σ) := by sorry
section QM
variable {T : pz_Tb} {I : pz_Ib} {rec rec' : pz_Rc}
theorem qz_bk_mono {My : pz_M} {y pc k : Nat} {L : pz_L} {rest : List pz_V} {r r' : pz_Rt} {out : pz_S × pz_O} (hh : ∀ y pc L st σ z, rec y pc L st σ = some z → rec' y pc L st σ = some z) (hr : ∀ z, r = some z → r' = some z) (h : pz_back rec My y pc L rest k r = some out) : pz_back rec' My y pc L rest k r' = some out := by sorry
theorem qz_inv_mono {My : pz_M} {y pc a k : Nat} {L : pz_L} {st : List pz_V} {σ : pz_S} {out : pz_S × pz_O} (hh : ∀ y pc L st σ z, rec y pc L st σ = some z → rec' y pc L st σ = some z) (h : pz_inv I rec My y pc L st σ a k = some out) : pz_inv I rec' My y pc L st σ a k = some out := by sorry
theorem qz_go_mono {y : Nat} {x : pz_P} {out : pz_S × pz_O} (hh : ∀ y pc L st σ z, rec y pc L st σ = some z → rec' y pc L st σ = some z) (h : pz_go rec y x = some out) : pz_go rec' y x = some out := by sorry
theorem qz_bi_mono {My : pz_M} {y pc a : Nat} {L : pz_L} {st : List pz_V} {σ : pz_S} {out : pz_S × pz_O} (hh : ∀ y pc L st σ z, rec y pc L st σ = some z → rec' y pc L st σ = some z) (h : pz_bi rec My y pc L st σ a = some out) : pz_bi rec' My y pc L st σ a = some out := by sorry
set_option maxHeartbeats 1000000 in
theorem qz_body_mono (hh : ∀ y pc L st σ z, rec y pc L st σ = some z → rec' y pc L st σ = some z) {y pc : Nat} {L : pz_L} {st : List pz_V} {σ : pz_S} {out : pz_S × pz_O} (h : pz_body T I rec y pc L st σ = some out) : pz_body T I rec' y pc L st σ = some out := by sorry
theorem qz_run_mono1 : ∀ (n : Nat) {y pc : Nat} {L : pz_L} {st : List pz_V} {σ : pz_S} {out : pz_S × pz_O}, pz_run T I n y pc L st σ = some out → pz_run T I (n + 1) y pc L st σ = some out := by sorry
theorem qz_run_mono {n m : Nat} (hm : n ≤ m) {y pc : Nat} {L : pz_L} {st : List pz_V} {σ : pz_S} {out : pz_S × pz_O} (h : pz_run T I n y pc L st σ = some out) : pz_run T I m y pc L st σ = some out := by sorry
end QM
section QP
variable (ph : Bool) (T : pz_Tb) (I : pz_Ib) (y : Nat) (My : pz_M)
def qz_Rch (pc : Nat) (L : pz_L) (st : List pz_V) (σ : pz_S) (pc' : Nat) (L' : pz_L) (st' : List pz_V) (σ' : pz_S) : Prop := ∀ m out, pz_run T I m y pc' L' st' σ' = some out → ∃ m', pz_run T I m' y pc L st σ = some out
def qz_To (pc : Nat) (Lc : pz_L) (st : List qz_V) (μ : qz_M) (σ : pz_S) (pc' : Nat) (x' : qz_X) : Prop := ∃ σ' Lc', qz_Rch T I y pc Lc (qz_cS ph st) σ pc' Lc' (qz_cS ph x'.2.1) σ' ∧ qz_LR ph x'.1 Lc' ∧ qz_Rel ph x'.2.2 σ' ∧ qz_okL ph (qz_na x'.2.2) x'.1 ∧ qz_okS ph (qz_na x'.2.2) x'.2.1 ∧ x'.1.length = pz_mL My ∧ qz_na μ ≤ qz_na x'.2.2
def qz_co (o : qz_Oc) : pz_O := match o with | .inl v => .inl (v.map (qz_cv ph)) | .inr E => .inr E
def qz_okO (n : Nat) (o : qz_Oc) : Prop := ∀ v, o = .inl (some v) → qz_okV ph n v
def qz_Pt (ls : List Nat) (pc q : Nat) (Lc : pz_L) (st : List qz_V) (μ : qz_M) (σ : pz_S) (e : qz_E) : Prop := match e with
  | .inl (0, x') => qz_To ph T I y My pc Lc st μ σ q x'
  | .inl (n + 1, x') => ∃ t, ls[n]? = some t ∧ qz_To ph T I y My pc Lc st μ σ t x'
  | .inr (μ', o) => ∃ m σ', pz_run T I m y pc Lc (qz_cS ph st) σ = some (σ', qz_co ph o) ∧ qz_Rel ph μ' σ' ∧ qz_okO ph (qz_na μ') o ∧ qz_na μ ≤ qz_na μ'
def qz_Ok (ls : List Nat) (pc q : Nat) (F : qz_F) : Prop := ∀ L st μ e σ Lc, F (L, st, μ) = some e → qz_Rel ph μ σ → qz_LR ph L Lc → qz_okL ph (qz_na μ) L → qz_okS ph (qz_na μ) st → L.length = pz_mL My → qz_Pt ph T I y My ls pc q Lc st μ σ e
def qz_Sd (f : qz_Fn) : Prop := ∀ as μ r σ, f as μ = some r → qz_Rel ph μ σ → qz_okS ph (qz_na μ) as → (qz_es as).length ≤ pz_mL My → ∃ m σ', pz_run T I m y 0 (pz_ent (qz_cS ph as) (pz_mL My)) [] σ = some (σ', qz_co ph r.2) ∧ qz_Rel ph r.1 σ' ∧ qz_okO ph (qz_na r.1) r.2 ∧ qz_na μ ≤ qz_na r.1
def qz_ckr (pc : Nat) (rs : qz_Rs) (q : Nat) : Bool := match rs with
  | [] => Nat.beq pc q
  | r :: rs => (match T y pc with | some (i, _, a, b) => decide (i = r.1) && (Nat.beq a r.2.1 && Nat.beq b r.2.2) | none => false) && qz_ckr (pc + pz_il r.1) rs q
end QP
section QO
variable {ph : Bool} {T : pz_Tb} {I : pz_Ib} {y : Nat} {My : pz_M} {ls : List Nat} {pc q : Nat}
theorem qz_Pt_tr {Lc Lc' : pz_L} {st st' : List qz_V} {μ μ' : qz_M} {σ σ' : pz_S} {m : Nat} {e : qz_E} (hr : qz_Rch T I y pc Lc (qz_cS ph st) σ m Lc' (qz_cS ph st') σ') (hn : qz_na μ ≤ qz_na μ') (h : qz_Pt ph T I y My ls m q Lc' st' μ' σ' e) : qz_Pt ph T I y My ls pc q Lc st μ σ e := by sorry
theorem qz_ins_ok (hI : I y = some My) : ∀ (rs : qz_Rs) (pc : Nat) {L : qz_L} {Lc : pz_L} {st : List qz_V} {μ : qz_M} {σ : pz_S} {x' : qz_X}, qz_ckr T y pc rs q = true → qz_ins (pz_mK My) (pz_mT My) rs (L, st, μ) = some x' → qz_Rel ph μ σ → qz_LR ph L Lc → qz_okL ph (qz_na μ) L → qz_okS ph (qz_na μ) st → L.length = pz_mL My → qz_To ph T I y My pc Lc st μ σ q x' := by sorry
theorem qz_fg_len : ∀ (ms : List Bool) (L : qz_L), (qz_fg ms L).length = L.length := by sorry
theorem qz_fg_at : ∀ {ms : List Bool} {L : qz_L} {i : Nat} {v : qz_V}, (qz_fg ms L).getD i none = some v → L.getD i none = some v := by sorry
theorem qz_fg_mem : ∀ {ms : List Bool} {L : qz_L} {v : qz_V}, some v ∈ qz_fg ms L → some v ∈ L := by sorry
theorem ok_i {rs : qz_Rs} (hI : I y = some My) (hc : qz_ckr T y pc rs q = true) : qz_Ok ph T I y My ls pc q (qn_i (pz_mK My) (pz_mT My) rs) := by sorry
theorem ok_s {m : Nat} {F G : qz_F} (hF : qz_Ok ph T I y My ls pc m F) (hG : qz_Ok ph T I y My ls m q G) : qz_Ok ph T I y My ls pc q (qn_s F G) := by sorry
theorem ok_lft {Lc : pz_L} {st : List qz_V} {μ : qz_M} {σ : pz_S} {e e' : qz_E} {q' : Nat} (hq : ∀ x', e = .inl (1, x') → q' = q) (h : qz_lft (some e) = some e') (A : qz_Pt ph T I y My (q' :: ls) pc q Lc st μ σ e) : qz_Pt ph T I y My ls pc q Lc st μ σ e' := by sorry
theorem ok_d {ms : List Bool} : qz_Ok ph T I y My ls pc pc (qn_d ms) := by sorry
theorem ok_b {F : qz_F} (hF : qz_Ok ph T I y My (q :: ls) pc q F) : qz_Ok ph T I y My ls pc q (qn_b F) := by sorry
theorem ok_l {F : qz_F} (hF : qz_Ok ph T I y My (pc :: ls) pc q F) : ∀ N, qz_Ok ph T I y My ls pc q (qn_l F N) := by sorry
theorem qz_cnd_ok {i : Instr} {st r : List qz_V} {c : Bool} {n : Nat} (h : qz_cnd i st = some (c, r)) (hS : qz_okS ph n st) : (∀ fin a b pc L σ, pz_step fin i a b pc L (qz_cS ph st) σ = pz_br pc L σ (qz_off i) c (qz_cS ph r)) ∧ qz_okS ph n r ∧ pz_sp i = false := by sorry
theorem qz_run_ns {i : Instr} {n9 a b m : Nat} {L : pz_L} {st : List pz_V} {σ : pz_S} (hI : I y = some My) (hT : T y pc = some (i, n9, a, b)) (hk : pz_sp i = false) :
    pz_run T I (m + 1) y pc L st σ = pz_go (pz_run T I m) y (pz_step (Nat.beq (pz_mK My) 2 && Nat.beq (pz_mT My) a) i a b pc L st σ) := by sorry
theorem ok_c {i : Instr} {n n9 a b t : Nat} (hI : I y = some My) (hT : T y pc = some (i, n9, a, b)) (ht : ls[n]? = some t) (ho : (pc : Int) + qz_off i = (t : Int)) (hq : q = pc + 3) : qz_Ok ph T I y My ls pc q (qn_c i n) := by sorry
theorem ok_g {off : Int} {n n9 a b t : Nat} (hI : I y = some My) (hT : T y pc = some (.goto off, n9, a, b)) (ht : ls[n]? = some t) (ho : (pc : Int) + off = (t : Int)) : qz_Ok ph T I y My ls pc q (qn_g n) := by sorry
def qz_ckw (ls : List Nat) (pc : Nat) (offs : List Int) (ds : List Nat) : Bool := match offs, ds with
  | [], [] => true
  | o :: os, d :: ds => (match ls[d]? with | some t => decide ((pc : Int) + o = (t : Int)) | none => false) && qz_ckw ls pc os ds
  | _, _ => false
theorem qz_ckw_at : ∀ {offs : List Int} {ds : List Nat} {k : Nat} {d0 : Nat}, qz_ckw ls pc offs ds = true → k < offs.length → ∃ o t, offs[k]? = some o ∧ ls[ds.getD k d0]? = some t ∧ (pc : Int) + o = (t : Int) := by sorry
theorem ok_w {lo hi d : Int} {offs : Array Int} {dl : Nat} {ds : List Nat} {n9 a b t : Nat} (hI : I y = some My) (hT : T y pc = some (.tableswitch d lo hi offs, n9, a, b)) (ht : ls[dl]? = some t) (ho : (pc : Int) + d = (t : Int)) (hs : hi - lo < (offs.size : Int)) (hc : qz_ckw ls pc offs.toList ds = true) : qz_Ok ph T I y My ls pc q (qn_w lo hi ds dl) := by sorry
theorem qz_rt_ok {i : Instr} {st : List qz_V} {v : Option qz_V} {n : Nat} (h : qz_rt i (pz_mR My) st = some v) (hS : qz_okS ph n st) : pz_rt i My (qz_cS ph st) = some (v.map (qz_cv ph)) ∧ qz_okO ph n (.inl v) ∧ (∀ (rec : pz_Rc) y pc L σ a b, pz_spc I rec My y pc L (qz_cS ph st) σ i a b = pz_rtn σ (pz_rt i My (qz_cS ph st))) ∧ pz_sp i = true := by sorry
theorem ok_r {i : Instr} {n9 a b : Nat} {Rt : Option FieldType} (hI : I y = some My) (hT : T y pc = some (i, n9, a, b)) (hRt : Rt = pz_mR My) : qz_Ok ph T I y My ls pc q (qn_r i Rt) := by sorry
theorem ok_t {k n9 a b E W : Nat} (hI : I y = some My) (hT : T y pc = some (.new k, n9, a, b)) (ha : a = 100 + E) (hH : pz_mH My = []) (hF : Nat.ble 6 (pz_mF My) = true) (hW : W = pz_mW My) : qz_Ok ph T I y My ls pc q (qn_t W E) := by sorry
theorem qz_es_cS (as : List qz_V) : pz_es (qz_cS ph as) = qz_cL ph (qz_es as) := by sorry
theorem qz_ent_cS (as : List qz_V) (n : Nat) : pz_ent (qz_cS ph as) n = qz_cL ph (qz_ent as n) := by sorry
theorem qz_ent_okL {n k : Nat} {as : List qz_V} (h : qz_okS ph n as) : qz_okL ph n (qz_ent as k) := by sorry
theorem qz_ent_len {as : List qz_V} {n : Nat} (h : (qz_es as).length ≤ n) : (qz_ent as n).length = n := by sorry
theorem ok_mt {F : qz_F} (hF : qz_Ok ph T I y My [] 0 q F) : qz_Sd ph T I y My (qz_mt (pz_mL My) F) := by sorry
theorem qz_args_ok {n k : Nat} {st as rest : List qz_V} (h : qz_args n st = some (as, rest)) (hS : qz_okS ph k st) : pz_args n (qz_cS ph st) = some (qz_cS ph as, qz_cS ph rest) ∧ qz_okS ph k as ∧ qz_okS ph k rest := by sorry
theorem qz_rcv_ok {μ : qz_M} {σ : pz_S} {t : Nat} {as : List qz_V} (R : qz_Rel ph μ σ) (hS : qz_okS ph (qz_na μ) as) (h : qz_rcv μ t as = true) : pz_rcv σ t (qz_cS ph as) = true := by sorry
def qz_Cl (i : Instr) (a k : Nat) : Prop := a < 10000 ∧ ((∃ idx, i = .invokestatic idx ∧ k = 0) ∨ (∃ idx, i = .invokevirtual idx ∧ k = 1) ∨ ∃ idx, i = .invokespecial idx ∧ k = 2)
theorem qz_run_cl {i : Instr} {n9 a b m k : Nat} {L : pz_L} {st : List pz_V} {σ : pz_S} (hI : I y = some My) (hT : T y pc = some (i, n9, a, b)) (hk : qz_Cl i a k) :
    pz_run T I (m + 1) y pc L st σ = pz_inv I (pz_run T I m) My y pc L st σ a k := by sorry
def qz_ckh (ls : List Nat) (H : List (Nat × Nat × Nat × Nat)) (pc : Nat) (hs : List (Nat × Nat)) : Bool := match hs with
  | [] => true
  | x :: r => (match pz_hnd H pc x.1, ls[x.2]? with | some t, some t' => Nat.beq t t' | _, _ => false) && qz_ckh ls H pc r
theorem qz_ckh_at {H : List (Nat × Nat × Nat × Nat)} : ∀ {hs : List (Nat × Nat)} {E h : Nat}, qz_ckh ls H pc hs = true → qz_hn hs E = some h → ∃ t, pz_hnd H pc E = some t ∧ ls[h]? = some t := by sorry
def qz_fits (My Ma : pz_M) (n l k t : Nat) (hs : List (Nat × Nat)) : Bool := (Nat.ble (pz_mF Ma + 1) (pz_mF My) && Nat.ble (8 + (pz_mL Ma + 11) + pz_mW Ma) (pz_mW My)) && ((Nat.beq n (pz_mP Ma + (bif Nat.beq k 0 then 0 else 1)) && Nat.beq l (pz_mL Ma)) && ((Nat.beq k (pz_mK Ma) && Nat.beq t (pz_mT Ma)) && (match hs, pz_mH My with | [], [] => true | _ :: _, _ :: _ => true | _, _ => false)))
theorem ok_k {f : qz_Fn} {i : Instr} {n9 a b n l k t : Nat} {Ma : pz_M} {hs : List (Nat × Nat)} (hI : I y = some My) (hT : T y pc = some (i, n9, a, b)) (hk : qz_Cl i a k) (hIa : I a = some Ma) (hf : qz_Sd ph T I a Ma f) (hfit : qz_fits My Ma n l k t hs = true) (hh : qz_ckh ls (pz_mH My) pc hs = true) (hq : q = pc + 3) : qz_Ok ph T I y My ls pc q (qn_k f n l k t hs) := by sorry
theorem qz_run_bi {idx n9 a b m : Nat} {L : pz_L} {st : List pz_V} {σ : pz_S} (hI : I y = some My) (hT : T y pc = some (.invokestatic idx, n9, a, b)) (ha : Nat.blt a 10000 = false) :
    pz_run T I (m + 1) y pc L st σ = pz_bi (pz_run T I m) My y pc L st σ a := by sorry
section QB
variable {rec : pz_Rc} {My : pz_M} {y pc : Nat} {L : pz_L} {q : List pz_V} {σ : pz_S}
theorem pz_bi_e0 {u v : Int32} : pz_bi rec My y pc L (.inl v :: .inl u :: q) σ 10000 = bif pz_rm My 13 q then rec y (pc + 3) L (.inl (if v < u then v else u) :: q) σ else none := by sorry
theorem pz_bi_e1 {u v : Int32} : pz_bi rec My y pc L (.inl v :: .inl u :: q) σ 10001 = bif pz_rm My 13 q then rec y (pc + 3) L (.inl (if u < v then v else u) :: q) σ else none := by sorry
theorem pz_bi_e2 {u v : Int64} : pz_bi rec My y pc L (.inr (.inl v) :: .inr (.inl u) :: q) σ 10002 = bif pz_rm My 15 q then rec y (pc + 3) L (.inr (.inl (if v < u then u else v)) :: q) σ else none := by sorry
theorem pz_bi_e3 {n dp sp : Int32} {f g : pz_R} : pz_bi rec My y pc L (.inl n :: .inl dp :: .inr (.inr (some g)) :: .inl sp :: .inr (.inr (some f)) :: q) σ 10003 = if (pz_rm My 18 q && (pz_is σ f.1 f.2 50 && pz_is σ g.1 g.2 50)) = true ∧ ¬ sp < 0 ∧ ¬ dp < 0 ∧ ¬ n < 0 ∧ sp.toNatClampNeg + n.toNatClampNeg ≤ (pz_sh σ f.1).2.2 ∧ dp.toNatClampNeg + n.toNatClampNeg ≤ (pz_sh σ g.1).2.2 then
        rec y (pc + 3) L q (pz_wC σ g.1 g.2 (va_cpy (pz_mm σ f.1 f.2) (pz_mm σ g.1 g.2) sp.toNatClampNeg dp.toNatClampNeg n.toNatClampNeg))
      else none := by sorry
end QB
theorem ok_m {idx n9 b W : Nat} {mx : Bool} (hI : I y = some My) (hT : T y pc = some (.invokestatic idx, n9, (bif mx then 10001 else 10000), b)) (hF : Nat.ble 1 (pz_mF My) = true) (hW : W = pz_mW My) (hq : q = pc + 3) : qz_Ok ph T I y My ls pc q (qn_m mx W) := by sorry
theorem ok_ml {idx n9 b W : Nat} (hI : I y = some My) (hT : T y pc = some (.invokestatic idx, n9, 10002, b)) (hF : Nat.ble 1 (pz_mF My) = true) (hW : W = pz_mW My) (hq : q = pc + 3) : qz_Ok ph T I y My ls pc q (qn_ml W) := by sorry
theorem ok_ac {idx n9 b W : Nat} (hI : I y = some My) (hT : T y pc = some (.invokestatic idx, n9, 10003, b)) (hF : Nat.ble 1 (pz_mF My) = true) (hW : W = pz_mW My) (hq : q = pc + 3) : qz_Ok ph T I y My ls pc q (qn_ac W) := by sorry
theorem ok_oi {idx n9 b W : Nat} (hI : I y = some My) (hT : T y pc = some (.invokespecial idx, n9, 10004, b)) (hF : Nat.ble 1 (pz_mF My) = true) (hW : W = pz_mW My) (hq : q = pc + 3) : qz_Ok ph T I y My ls pc q (qn_oi W) := by sorry
end QO
def qz_row (T : pz_Tb) (y pc : Nat) (p : Instr → Nat → Nat → Bool) : Bool := match T y pc with
  | some (i, _, a, b) => p i a b
  | none => false
def qz_lab (ls : List Nat) (n : Nat) (z : Int) : Bool := match ls[n]? with
  | some t => decide (z = (t : Int))
  | none => false
def qz_clb (i : Instr) (a k : Nat) : Bool := Nat.blt a 10000 && match i with
  | .invokestatic _ => Nat.beq k 0
  | .invokevirtual _ => Nat.beq k 1
  | .invokespecial _ => Nat.beq k 2
  | _ => false
section Q9
variable {ph : Bool} {T : pz_Tb} {I : pz_Ib} {y : Nat} {My : pz_M} {ls : List Nat} {pc q : Nat}
theorem qz_row_at {p : Instr → Nat → Nat → Bool} (h : qz_row T y pc p = true) : ∃ i n9 a b, T y pc = some (i, n9, a, b) ∧ p i a b = true := by sorry
theorem qz_lab_at {n : Nat} {z : Int} (h : qz_lab ls n z = true) : ∃ t, ls[n]? = some t ∧ z = (t : Int) := by sorry
theorem ok_c9 {i : Instr} {n : Nat} (hI : I y = some My) (h : (qz_row T y pc (fun i' _ _ => decide (i' = i)) && (qz_lab ls n ((pc : Int) + qz_off i) && Nat.beq q (pc + 3))) = true) : qz_Ok ph T I y My ls pc q (qn_c i n) := by sorry
theorem ok_g9 {n : Nat} (hI : I y = some My) (h : qz_row T y pc (fun i _ _ => match i with | .goto off => qz_lab ls n ((pc : Int) + off) | _ => false) = true) : qz_Ok ph T I y My ls pc q (qn_g n) := by sorry
theorem ok_w9 {lo hi : Int} {ds : List Nat} {dl : Nat} (hI : I y = some My) (h : qz_row T y pc (fun i _ _ => match i with | .tableswitch d lo' hi' offs => (decide (lo' = lo) && decide (hi' = hi)) && (qz_lab ls dl ((pc : Int) + d) && (decide (hi - lo < (offs.size : Int)) && qz_ckw ls pc offs.toList ds)) | _ => false) = true) : qz_Ok ph T I y My ls pc q (qn_w lo hi ds dl) := by sorry
theorem ok_r9 {i : Instr} {R : Option FieldType} (hI : I y = some My) (h : qz_row T y pc (fun i' _ _ => decide (i' = i)) = true) (hR : R = pz_mR My) : qz_Ok ph T I y My ls pc q (qn_r i R) := by sorry
theorem ok_t9 {W E : Nat} (hI : I y = some My) (h : (qz_row T y pc (fun i a _ => match i with | .new _ => Nat.beq a (100 + E) | _ => false) && ((match pz_mH My with | [] => true | _ => false) && (Nat.ble 6 (pz_mF My) && Nat.beq W (pz_mW My)))) = true) : qz_Ok ph T I y My ls pc q (qn_t W E) := by sorry
theorem ok_k9 {f : qz_Fn} {a n l k t : Nat} {Ma : pz_M} {hs : List (Nat × Nat)} (hI : I y = some My) (hIa : I a = some Ma) (hf : qz_Sd ph T I a Ma f) (h : (qz_row T y pc (fun i a' _ => Nat.beq a' a && qz_clb i a k) && (qz_fits My Ma n l k t hs && (qz_ckh ls (pz_mH My) pc hs && Nat.beq q (pc + 3)))) = true) : qz_Ok ph T I y My ls pc q (qn_k f n l k t hs) := by sorry
def qz_ck1 (T : pz_Tb) (My : pz_M) (y pc q W a : Nat) : Bool := qz_row T y pc (fun i a' _ => match i with | .invokestatic _ => Nat.beq a' a | _ => false) && (Nat.ble 1 (pz_mF My) && (Nat.beq W (pz_mW My) && Nat.beq q (pc + 3)))
theorem qz_ck1_at {W a : Nat} (h : qz_ck1 T My y pc q W a = true) : ∃ idx n9 b, T y pc = some (.invokestatic idx, n9, a, b) ∧ Nat.ble 1 (pz_mF My) = true ∧ W = pz_mW My ∧ q = pc + 3 := by sorry
theorem ok_m9 {mx : Bool} {W : Nat} (hI : I y = some My) (h : qz_ck1 T My y pc q W (bif mx then 10001 else 10000) = true) : qz_Ok ph T I y My ls pc q (qn_m mx W) := by sorry
theorem ok_ml9 {W : Nat} (hI : I y = some My) (h : qz_ck1 T My y pc q W 10002 = true) : qz_Ok ph T I y My ls pc q (qn_ml W) := by sorry
theorem ok_ac9 {W : Nat} (hI : I y = some My) (h : qz_ck1 T My y pc q W 10003 = true) : qz_Ok ph T I y My ls pc q (qn_ac W) := by sorry
theorem ok_oi9 {W : Nat} (hI : I y = some My) (h : (qz_row T y pc (fun i a' _ => match i with | .invokespecial _ => Nat.beq a' 10004 | _ => false) && (Nat.ble 1 (pz_mF My) && (Nat.beq W (pz_mW My) && Nat.beq q (pc + 3)))) = true) : qz_Ok ph T I y My ls pc q (qn_oi W) := by sorry
theorem sd_none {Ma : pz_M} {a : Nat} : qz_Sd ph T I a Ma (fun _ _ => none) := by sorry
end Q9
abbrev wz_K : Type := Nat → qz_X → Prop
abbrev wz_R : Type := qz_M → qz_Oc → Prop
abbrev wz_W : Type := wz_K → wz_R → qz_X → Prop
abbrev wz_k : Type := qz_X → Prop
def wz_rk (o : Option qz_R) (k : qz_R → Prop) : Prop := match o with | some r => k r | none => False
def wz_wr (v : qz_M) (k : qz_M → Prop) : Prop := ∀ μ', μ' = v → k μ'
def wz_up1 (v : qz_V) (L : qz_L) (i : Nat) (k : qz_L → Prop) : Prop := match L, i with
  | [], _ => k []
  | _ :: L, 0 => k (some v :: L)
  | some (.inr (.inl _)) :: L, 1 => wz_up1 v L 0 (fun L' => k (none :: L'))
  | x :: L, i + 1 => wz_up1 v L i (fun L' => k (x :: L'))
def wz_up0 (L : qz_L) (i : Nat) (k : qz_L → Prop) : Prop := match L, i with
  | [], _ => k []
  | _ :: L, 0 => k (none :: L)
  | x :: L, i + 1 => wz_up0 L i (fun L' => k (x :: L'))
section WA
variable (L : qz_L) (st : List qz_V) (μ : qz_M) (k : wz_k)
def tz_ldi (i : Nat) : Prop := match L.getD i none with | some (.inl x) => k (L, .inl x :: st, μ) | _ => False
def tz_ldl (i : Nat) : Prop := match L.getD i none with | some (.inr (.inl x)) => k (L, .inr (.inl x) :: st, μ) | _ => False
def tz_lda (i : Nat) : Prop := match L.getD i none with | some (.inr (.inr (some x))) => k (L, .inr (.inr (some x)) :: st, μ) | _ => False
def tz_sti (i : Nat) : Prop := match st with | .inl x :: r => bif Nat.blt i L.length then wz_up1 (.inl x) L i (fun L' => k (L', r, μ)) else False | _ => False
def tz_sta (i : Nat) : Prop := match st with | .inr (.inr (some x)) :: r => bif Nat.blt i L.length then wz_up1 (.inr (.inr (some x))) L i (fun L' => k (L', r, μ)) else False | _ => False
def tz_stl (i : Nat) : Prop := match st with | .inr (.inl x) :: r => bif Nat.blt (i + 1) L.length then wz_up1 (.inr (.inl x)) L i (fun L' => wz_up0 L' (i + 1) (fun L'' => k (L'', r, μ))) else False | _ => False
def tz_inc (i : Nat) (n : Int) : Prop := match L.getD i none with | some (.inl x) => bif Nat.blt i L.length then wz_up1 (.inl (x + Int32.ofInt n)) L i (fun L' => k (L', st, μ)) else False | _ => False
def tz_bin (f : Int32 → Int32 → Int32) : Prop := match st with | .inl y :: .inl x :: r => k (L, .inl (f x y) :: r, μ) | _ => False
def tz_dv (f : Int32 → Int32 → Int32) : Prop := match st with | .inl y :: .inl x :: r => bif decide (y = 0) then False else k (L, .inl (f x y) :: r, μ) | _ => False
def tz_lbin (f : Int64 → Int64 → Int64) : Prop := match st with | .inr (.inl y) :: .inr (.inl x) :: r => k (L, .inr (.inl (f x y)) :: r, μ) | _ => False
def tz_ldv (f : Int64 → Int64 → Int64) : Prop := match st with | .inr (.inl y) :: .inr (.inl x) :: r => bif decide (y = 0) then False else k (L, .inr (.inl (f x y)) :: r, μ) | _ => False
def tz_neg : Prop := match st with | .inl x :: r => k (L, .inl (-x) :: r, μ) | _ => False
def tz_i2l : Prop := match st with | .inl x :: r => k (L, .inr (.inl x.toInt64) :: r, μ) | _ => False
def tz_i2c : Prop := match st with | .inl x :: r => k (L, .inl (x.toUInt32 % 65536).toInt32 :: r, μ) | _ => False
def tz_l2i : Prop := match st with | .inr (.inl x) :: r => k (L, .inl x.toInt32 :: r, μ) | _ => False
def tz_lcp : Prop := match st with | .inr (.inl y) :: .inr (.inl x) :: r => k (L, .inl (lg_cmp x y) :: r, μ) | _ => False
def tz_get (t n : Nat) : Prop := match st with
  | .inr (.inr (some r)) :: q => bif Nat.beq (qz_tag μ r) t && (Nat.blt t 6 && Nat.blt n (pz_n t)) then (bif Nat.beq (pz_kd (pz_ty t n)) 2 then wz_rk (qz_rf μ r n) (fun r' => k (L, .inr (.inr (some r')) :: q, μ)) else k (L, .inl (qz_im μ r.1 r.2.1 r.2.2 n) :: q, μ)) else False
  | _ => False
def tz_put (t n : Nat) (fin : Bool) : Prop := match st with
  | .inl v :: .inr (.inr (some r)) :: q => bif (Nat.beq (qz_tag μ r) t && Nat.blt t 6) && (!(pz_T t n).2.2.2 || fin) then (bif Nat.beq (pz_kd (pz_ty t n)) 0 || (Nat.beq (pz_kd (pz_ty t n)) 1 && (decide (v = 0) || decide (v = 1))) then wz_wr (qz_wI μ r n v) (fun μ' => k (L, q, μ')) else False) else False
  | .inr (.inr v) :: .inr (.inr (some r)) :: q => bif (Nat.beq (qz_tag μ r) t && Nat.blt t 6) && ((!(pz_T t n).2.2.2 || fin) && (Nat.beq (pz_kd (pz_ty t n)) 2 && qz_dy r n)) then wz_wr (qz_wR μ r n v) (fun μ' => k (L, q, μ')) else False
  | _ => False
def tz_ilo (t : Nat) : Prop := match st with
  | .inl j :: .inr (.inr (some r)) :: q => bif Nat.beq (qz_tag μ r) t && Nat.blt t 60 then (bif pz_out j (qz_len μ r) then False else k (L, .inl (qz_im μ r.1 r.2.1 r.2.2 j.toNatClampNeg) :: q, μ)) else False
  | _ => False
def tz_llo : Prop := match st with
  | .inl j :: .inr (.inr (some r)) :: q => bif Nat.beq (qz_tag μ r) 51 then (bif pz_out j (qz_len μ r) then False else k (L, .inr (.inl (qz_lm μ r.1 r.2.1 r.2.2 j.toNatClampNeg)) :: q, μ)) else False
  | _ => False
def tz_alo : Prop := match st with
  | .inl j :: .inr (.inr (some r)) :: q => bif Nat.beq (qz_tag μ r) 53 || Nat.beq (qz_tag μ r) 54 then (bif pz_out j (qz_len μ r) then False else wz_rk (qz_rf μ r j.toNatClampNeg) (fun r' => k (L, .inr (.inr (some r')) :: q, μ))) else False
  | _ => False
def tz_isto : Prop := match st with
  | .inl v :: .inl j :: .inr (.inr (some r)) :: q => bif Nat.beq (qz_tag μ r) 50 then (bif pz_out j (qz_len μ r) then False else wz_wr (qz_wI μ r j.toNatClampNeg v) (fun μ' => k (L, q, μ'))) else False
  | _ => False
def tz_bsto : Prop := match st with
  | .inl v :: .inl j :: .inr (.inr (some r)) :: q => bif Nat.beq (qz_tag μ r) 52 then (bif pz_out j (qz_len μ r) then False else (bif decide (v = 0) || decide (v = 1) then wz_wr (qz_wI μ r j.toNatClampNeg v) (fun μ' => k (L, q, μ')) else False)) else False
  | _ => False
def tz_lsto : Prop := match st with
  | .inr (.inl v) :: .inl j :: .inr (.inr (some r)) :: q => bif Nat.beq (qz_tag μ r) 51 then (bif pz_out j (qz_len μ r) then False else wz_wr (qz_wL μ r j.toNatClampNeg v) (fun μ' => k (L, q, μ'))) else False
  | _ => False
def tz_asto : Prop := match st with
  | .inr (.inr (some g)) :: .inl j :: .inr (.inr (some r)) :: q => bif Nat.beq (qz_tag μ r) 54 && (Nat.beq (qz_tag μ g) 1 && Nat.beq r.1 200) then (bif pz_out j (qz_len μ r) then False else wz_wr (qz_wR μ r j.toNatClampNeg (some g)) (fun μ' => k (L, q, μ'))) else False
  | _ => False
def tz_mnew : Prop := match st with
  | .inl m :: .inl n :: q => bif (decide (n < 0) || decide (m < 0)) || (Nat.blt 1000 n.toNatClampNeg || Nat.blt 1000 m.toNatClampNeg) then False else
    wz_wr (qz_alr (qz_al μ 50 n.toNatClampNeg m.toNatClampNeg n.toNatClampNeg (n.toNatClampNeg * m.toNatClampNeg)) 53 1 n.toNatClampNeg 1 n.toNatClampNeg (fun j => if j < n.toNatClampNeg then some (200, qz_na μ, j) else none)) (fun μ' => k (L, .inr (.inr (some (200, qz_na μ + 1, 0))) :: q, μ'))
  | _ => False
def tz_leng : Prop := match st with
  | .inr (.inr (some r)) :: q => bif pz_arr (qz_tag μ r) then k (L, .inl (Int32.ofNat (qz_len μ r)) :: q, μ) else False
  | _ => False
def tz_newa (tag : Nat) : Prop := match st with
  | .inl n :: q => bif decide (n < 0) || Nat.blt 1000000 n.toNatClampNeg then False else wz_wr (qz_al μ tag 1 n.toNatClampNeg 1 n.toNatClampNeg) (fun μ' => k (L, .inr (.inr (some (200, qz_na μ, 0))) :: q, μ'))
  | _ => False
def tz_new (t : Nat) : Prop := bif Nat.blt t 6 then wz_wr (qz_al μ t 1 0 1 (pz_n t)) (fun μ' => k (L, .inr (.inr (some (200, qz_na μ, 0))) :: st, μ')) else False
def tz_dup : Prop := match st with | v :: r => bif Nat.beq (qz_w1 v) 1 then k (L, v :: v :: r, μ) else False | _ => False
def tz_pop : Prop := match st with | v :: r => bif Nat.beq (qz_w1 v) 1 then k (L, r, μ) else False | _ => False
def tz_dupx1 : Prop := match st with | a :: b :: r => bif Nat.beq (qz_w1 a) 1 && Nat.beq (qz_w1 b) 1 then k (L, a :: b :: a :: r, μ) else False | _ => False
def tz_dupx2 : Prop := match st with | a :: b :: d :: r => bif Nat.beq (qz_w1 a) 1 && (Nat.beq (qz_w1 b) 1 && Nat.beq (qz_w1 d) 1) then k (L, a :: b :: d :: a :: r, μ) else False | _ => False
def tz_dup2 : Prop := match st with | a :: b :: r => bif Nat.beq (qz_w1 a) 1 && Nat.beq (qz_w1 b) 1 then k (L, a :: b :: a :: b :: r, μ) else False | _ => False
def tz_scl : Prop := match st with
  | .inl j :: .inr (.inr (some r)) :: q => bif (Nat.beq r.1 200 && (Nat.beq r.2.1 0 && Nat.beq r.2.2 0)) && Nat.beq (qz_tag μ (200, 0, 0)) 60 then (bif pz_out j (qz_len μ (200, 0, 0)) then False else k (L, .inl (qz_im μ 200 0 0 j.toNatClampNeg) :: q, μ)) else False
  | _ => False
def tz_scn : Prop := match st with
  | .inr (.inr (some r)) :: q => bif (Nat.beq r.1 200 && (Nat.beq r.2.1 0 && Nat.beq r.2.2 0)) && Nat.beq (qz_tag μ (200, 0, 0)) 60 then k (L, .inl (Int32.ofNat (qz_len μ (200, 0, 0))) :: q, μ) else False
  | _ => False
end WA
def tz_step (fin : Bool) (i : Instr) (a b : Nat) (L : qz_L) (st : List qz_V) (μ : qz_M) (k : wz_k) : Prop := match i with
  | .iconst n => k (L, .inl (Int32.ofInt n) :: st, μ)
  | .bipush n => k (L, .inl (Int8.ofInt n).toInt32 :: st, μ)
  | .sipush n => k (L, .inl (Int16.ofInt n).toInt32 :: st, μ)
  | .lconst n => k (L, .inr (.inl (Int64.ofNat (n : Nat))) :: st, μ)
  | .ldc _ => k (L, .inl (Int32.ofNat a) :: st, μ)
  | .ldc_w _ => k (L, .inl (Int32.ofNat a) :: st, μ)
  | .ldc2_w _ => k (L, .inr (.inl (pz_lcs.getD a 0)) :: st, μ)
  | .iload n => tz_ldi L st μ k n
  | .iload_n n => tz_ldi L st μ k n
  | .lload n => tz_ldl L st μ k n
  | .lload_n n => tz_ldl L st μ k n
  | .aload n => tz_lda L st μ k n
  | .aload_n n => tz_lda L st μ k n
  | .istore n => tz_sti L st μ k n
  | .istore_n n => tz_sti L st μ k n
  | .lstore n => tz_stl L st μ k n
  | .lstore_n n => tz_stl L st μ k n
  | .astore n => tz_sta L st μ k n
  | .astore_n n => tz_sta L st μ k n
  | .iinc n c => tz_inc L st μ k n c
  | .iadd => tz_bin L st μ k (fun x y => x + y)
  | .isub => tz_bin L st μ k (fun x y => x - y)
  | .imul => tz_bin L st μ k (fun x y => x * y)
  | .iand => tz_bin L st μ k (fun x y => x &&& y)
  | .ior => tz_bin L st μ k (fun x y => x ||| y)
  | .ixor => tz_bin L st μ k (fun x y => x ^^^ y)
  | .ishl => tz_bin L st μ k (fun x y => x <<< (y &&& 31))
  | .ishr => tz_bin L st μ k (fun x y => x >>> (y &&& 31))
  | .idiv => tz_dv L st μ k (fun x y => x / y)
  | .irem => tz_dv L st μ k (fun x y => x - x / y * y)
  | .ineg => tz_neg L st μ k
  | .i2l => tz_i2l L st μ k
  | .i2c => tz_i2c L st μ k
  | .l2i => tz_l2i L st μ k
  | .ladd => tz_lbin L st μ k (fun x y => x + y)
  | .lsub => tz_lbin L st μ k (fun x y => x - y)
  | .lmul => tz_lbin L st μ k (fun x y => x * y)
  | .ldiv => tz_ldv L st μ k (fun x y => x / y)
  | .lrem => tz_ldv L st μ k (fun x y => x - x / y * y)
  | .lcmp => tz_lcp L st μ k
  | .dup => tz_dup L st μ k
  | .pop => tz_pop L st μ k
  | .dup_x1 => tz_dupx1 L st μ k
  | .dup_x2 => tz_dupx2 L st μ k
  | .dup2 => tz_dup2 L st μ k
  | .getfield _ => tz_get L st μ k a b
  | .putfield _ => tz_put L st μ k a b fin
  | .iaload => bif Nat.beq a 60 then tz_scl L st μ k else tz_ilo L st μ k 50
  | .baload => tz_ilo L st μ k 52
  | .laload => tz_llo L st μ k
  | .aaload => tz_alo L st μ k
  | .iastore => tz_isto L st μ k
  | .bastore => tz_bsto L st μ k
  | .lastore => tz_lsto L st μ k
  | .aastore => tz_asto L st μ k
  | .arraylength => bif Nat.beq a 60 then tz_scn L st μ k else tz_leng L st μ k
  | .newarray .int => tz_newa L st μ k 50
  | .newarray .long => tz_newa L st μ k 51
  | .newarray .boolean => tz_newa L st μ k 52
  | .anewarray _ => tz_newa L st μ k 54
  | .multianewarray _ _ => tz_mnew L st μ k
  | .new _ => tz_new L st μ k a
  | _ => False
theorem wz_bif {c : Bool} {A B : Prop} (h : bif c then A else B) (hB : ¬ B) : c = true ∧ A := by sorry
theorem wz_bif2 {c : Bool} {A : Prop} (h : bif c then False else A) : c = false ∧ A := by sorry
theorem wz_rk_at {o : Option qz_R} {k : qz_R → Prop} (h : wz_rk o k) : ∃ r, o = some r ∧ k r := by sorry
theorem wz_up1_ok {v : qz_V} : ∀ {L : qz_L} {i : Nat} {k : qz_L → Prop}, wz_up1 v L i k → k (qz_st1 L i v) := by sorry
theorem wz_up0_ok : ∀ {L : qz_L} {i : Nat} {k : qz_L → Prop}, wz_up0 L i k → k (L.set i none) := by sorry
section WB
variable {L : qz_L} {st : List qz_V} {μ : qz_M} {k : wz_k}
theorem wz_tt {c : Bool} {x y : qz_Q} (h : c = true) : (bif c then x else y) = x := by sorry
theorem wz_ff {c : Bool} {x y : qz_Q} (h : c = false) : (bif c then x else y) = y := by sorry
theorem wt_ldi {i : Nat} (h : tz_ldi L st μ k i) : ∃ x', qz_ldi L st μ i = some x' ∧ k x' := by sorry
theorem wt_ldl {i : Nat} (h : tz_ldl L st μ k i) : ∃ x', qz_ldl L st μ i = some x' ∧ k x' := by sorry
theorem wt_lda {i : Nat} (h : tz_lda L st μ k i) : ∃ x', qz_lda L st μ i = some x' ∧ k x' := by sorry
theorem wt_sti {i : Nat} (h : tz_sti L st μ k i) : ∃ x', qz_sti L st μ i = some x' ∧ k x' := by sorry
theorem wt_sta {i : Nat} (h : tz_sta L st μ k i) : ∃ x', qz_sta L st μ i = some x' ∧ k x' := by sorry
theorem wt_stl {i : Nat} (h : tz_stl L st μ k i) : ∃ x', qz_stl L st μ i = some x' ∧ k x' := by sorry
theorem wt_inc {i : Nat} {n : Int} (h : tz_inc L st μ k i n) : ∃ x', qz_inc L st μ i n = some x' ∧ k x' := by sorry
theorem wt_bin {f : Int32 → Int32 → Int32} (h : tz_bin L st μ k f) : ∃ x', qz_bin L st μ f = some x' ∧ k x' := by sorry
theorem wt_lbin {f : Int64 → Int64 → Int64} (h : tz_lbin L st μ k f) : ∃ x', qz_lbin L st μ f = some x' ∧ k x' := by sorry
theorem wt_dv {f : Int32 → Int32 → Int32} (h : tz_dv L st μ k f) : ∃ x', qz_dv L st μ f = some x' ∧ k x' := by sorry
theorem wt_ldv {f : Int64 → Int64 → Int64} (h : tz_ldv L st μ k f) : ∃ x', qz_ldv L st μ f = some x' ∧ k x' := by sorry
theorem wt_neg (h : tz_neg L st μ k) : ∃ x', qz_neg L st μ = some x' ∧ k x' := by sorry
theorem wt_i2l (h : tz_i2l L st μ k) : ∃ x', qz_i2l L st μ = some x' ∧ k x' := by sorry
theorem wt_i2c (h : tz_i2c L st μ k) : ∃ x', qz_i2c L st μ = some x' ∧ k x' := by sorry
theorem wt_l2i (h : tz_l2i L st μ k) : ∃ x', qz_l2i L st μ = some x' ∧ k x' := by sorry
theorem wt_lcp (h : tz_lcp L st μ k) : ∃ x', qz_lcp L st μ = some x' ∧ k x' := by sorry
theorem wt_get {t n : Nat} (h : tz_get L st μ k t n) : ∃ x', qz_get L st μ t n = some x' ∧ k x' := by sorry
theorem wt_put {t n : Nat} {fin : Bool} (h : tz_put L st μ k t n fin) : ∃ x', qz_put L st μ t n fin = some x' ∧ k x' := by sorry
theorem wt_ilo {t : Nat} (h : tz_ilo L st μ k t) : ∃ x', qz_ilo L st μ t = some x' ∧ k x' := by sorry
theorem wt_llo (h : tz_llo L st μ k) : ∃ x', qz_llo L st μ = some x' ∧ k x' := by sorry
theorem wt_isto (h : tz_isto L st μ k) : ∃ x', qz_isto L st μ = some x' ∧ k x' := by sorry
theorem wt_lsto (h : tz_lsto L st μ k) : ∃ x', qz_lsto L st μ = some x' ∧ k x' := by sorry
theorem wt_alo (h : tz_alo L st μ k) : ∃ x', qz_alo L st μ = some x' ∧ k x' := by sorry
theorem wt_bsto (h : tz_bsto L st μ k) : ∃ x', qz_bsto L st μ = some x' ∧ k x' := by sorry
theorem wt_asto (h : tz_asto L st μ k) : ∃ x', qz_asto L st μ = some x' ∧ k x' := by sorry
theorem wt_mnew (h : tz_mnew L st μ k) : ∃ x', qz_mnew L st μ = some x' ∧ k x' := by sorry
theorem wt_leng (h : tz_leng L st μ k) : ∃ x', qz_leng L st μ = some x' ∧ k x' := by sorry
theorem wt_newa {t : Nat} (h : tz_newa L st μ k t) : ∃ x', qz_newa L st μ t = some x' ∧ k x' := by sorry
theorem wt_new {t : Nat} (h : tz_new L st μ k t) : ∃ x', qz_new L st μ t = some x' ∧ k x' := by sorry
theorem wt_dup (h : tz_dup L st μ k) : ∃ x', qz_dup L st μ = some x' ∧ k x' := by sorry
theorem wt_pop (h : tz_pop L st μ k) : ∃ x', qz_pop L st μ = some x' ∧ k x' := by sorry
theorem wt_dupx1 (h : tz_dupx1 L st μ k) : ∃ x', qz_dupx1 L st μ = some x' ∧ k x' := by sorry
theorem wt_dupx2 (h : tz_dupx2 L st μ k) : ∃ x', qz_dupx2 L st μ = some x' ∧ k x' := by sorry
theorem wt_dup2 (h : tz_dup2 L st μ k) : ∃ x', qz_dup2 L st μ = some x' ∧ k x' := by sorry
theorem wt_scl (h : tz_scl L st μ k) : ∃ x', qz_scl L st μ = some x' ∧ k x' := by sorry
theorem wt_scn (h : tz_scn L st μ k) : ∃ x', qz_scn L st μ = some x' ∧ k x' := by sorry
set_option maxHeartbeats 4000000 in
theorem tz_step_ok {fin : Bool} {i : Instr} {a b : Nat} (h : tz_step fin i a b L st μ k) : ∃ x', qz_step fin i a b L st μ = some x' ∧ k x' := by sorry
end WB
def tz_ins (K g : Nat) (rs : qz_Rs) (x : qz_X) (k : wz_k) : Prop := match rs with
  | [] => k x
  | r :: q => tz_step (Nat.beq K 2 && Nat.beq g r.2.1) r.1 r.2.1 r.2.2 x.1 x.2.1 x.2.2 (fun x' => tz_ins K g q x' k)
def tz_cnd (i : Instr) (st : List qz_V) (k : Bool → List qz_V → Prop) : Prop := match i with
  | .ifCond .eq _ => (match st with | .inl x :: r => k (decide (x = 0)) r | _ => False)
  | .ifCond .ne _ => (match st with | .inl x :: r => k (!decide (x = 0)) r | _ => False)
  | .ifCond .lt _ => (match st with | .inl x :: r => k (decide (x < 0)) r | _ => False)
  | .ifCond .ge _ => (match st with | .inl x :: r => k (decide (0 ≤ x)) r | _ => False)
  | .ifCond .gt _ => (match st with | .inl x :: r => k (decide (0 < x)) r | _ => False)
  | .ifCond .le _ => (match st with | .inl x :: r => k (decide (x ≤ 0)) r | _ => False)
  | .if_icmp .eq _ => (match st with | .inl y :: .inl x :: r => k (decide (x = y)) r | _ => False)
  | .if_icmp .ne _ => (match st with | .inl y :: .inl x :: r => k (!decide (x = y)) r | _ => False)
  | .if_icmp .lt _ => (match st with | .inl y :: .inl x :: r => k (decide (x < y)) r | _ => False)
  | .if_icmp .ge _ => (match st with | .inl y :: .inl x :: r => k (decide (y ≤ x)) r | _ => False)
  | .if_icmp .gt _ => (match st with | .inl y :: .inl x :: r => k (decide (y < x)) r | _ => False)
  | .if_icmp .le _ => (match st with | .inl y :: .inl x :: r => k (decide (x ≤ y)) r | _ => False)
  | _ => False
theorem tz_cnd_ok {i : Instr} {st : List qz_V} {k : Bool → List qz_V → Prop} (h : tz_cnd i st k) : ∃ c r, qz_cnd i st = some (c, r) ∧ k c r := by sorry
def wz_E (k : wz_K) (R : wz_R) (e : qz_E) : Prop := match e with | .inl (n, x') => k n x' | .inr (μ, o) => R μ o
def wz_S (G : wz_W) (F : qz_F) : Prop := ∀ k R x, G k R x → ∃ e, F x = some e ∧ wz_E k R e
def wz_call (f : qz_Fn) (as : List qz_V) (μ : qz_M) (Q : wz_R) : Prop := ∃ μ' o, f as μ = some (μ', o) ∧ Q μ' o
def wi (K g : Nat) (rs : qz_Rs) : wz_W := fun k _ x => tz_ins K g rs x (k 0)
def wd (ms : List Bool) : wz_W := fun k _ x => k 0 (qz_fg ms x.1, x.2)
def wz_sk (G : wz_W) (k : wz_K) (R : wz_R) : wz_K := fun n x' => match n with | 0 => G k R x' | n + 1 => k (n + 1) x'
def wz_kb (k : wz_K) : wz_K := fun n x' => match n with | 0 => k 0 x' | n + 1 => k n x'
def wz_k0 : wz_K := fun _ _ => False
def ws (F G : wz_W) : wz_W := fun k R x => F (wz_sk G k R) R x
def wb (F : wz_W) : wz_W := fun k R x => F (wz_kb k) R x
def wc (i : Instr) (n : Nat) : wz_W := fun k _ x => tz_cnd i x.2.1 (fun c r => bif c then k (n + 1) (x.1, r, x.2.2) else k 0 (x.1, r, x.2.2))
def wg (n : Nat) : wz_W := fun k _ x => k (n + 1) x
def wz_sw (v lo : Int) (ds : List Nat) (d : Nat) (k : Nat → Prop) : Prop := match ds with
  | [] => k d
  | e :: ds => bif decide (v = lo) then k e else wz_sw v (lo + 1) ds d k
def ww (lo hi : Int) (ds : List Nat) (d : Nat) : wz_W := fun k _ x => match x.2.1 with
  | .inl v :: r => bif decide (hi - lo + 1 = (ds.length : Int)) then (bif decide (v.toInt < lo) || decide (hi < v.toInt) then k (d + 1) (x.1, r, x.2.2) else wz_sw v.toInt lo ds d (fun n => k (n + 1) (x.1, r, x.2.2))) else False
  | _ => False
def wz_kr (R : Option FieldType) : Nat := match R with | some .int => 0 | some .boolean => 1 | some .long => 2 | some (.object _) => 3 | some (.array _) => 3 | none => 4 | _ => 5
def wr (i : Instr) (Rt : Option FieldType) : wz_W := fun _ R x => match i with
  | .ireturn => (match x.2.1 with
    | [.inl v] => bif Nat.beq (wz_kr Rt) 0 || (Nat.beq (wz_kr Rt) 1 && (decide (v = 0) || decide (v = 1))) then R x.2.2 (.inl (some (.inl v))) else False
    | _ => False)
  | .lreturn => (match x.2.1 with
    | [.inr (.inl v)] => bif Nat.beq (wz_kr Rt) 2 then R x.2.2 (.inl (some (.inr (.inl v)))) else False
    | _ => False)
  | .areturn => (match x.2.1 with
    | [.inr (.inr v)] => bif Nat.beq (wz_kr Rt) 3 then R x.2.2 (.inl (some (.inr (.inr v)))) else False
    | _ => False)
  | .return_ => (match x.2.1 with
    | [] => bif Nat.beq (wz_kr Rt) 4 then R x.2.2 (.inl none) else False
    | _ => False)
  | _ => False
def wt (W E : Nat) : wz_W := fun _ R x => bif Nat.ble (qz_wt x.2.1 + 82) W then R (qz_kk x.2.2 1 6) (.inr E) else False
def wz_ex (kd : Nat) (hs : List (Nat × Nat)) (L : qz_L) (k : wz_K) (R : wz_R) (μ : qz_M) (E : Nat) : Prop := bif Nat.beq kd 2 then False else match hs with
    | [] => R μ (.inr E)
    | _ => match qz_hn hs E with
      | some h => k (h + 1) (L, [.inr (.inr (some (200, qz_na μ, 0)))], qz_al μ 99 0 0 0 0)
      | none => False
def wz_cI (f : qz_Fn) (as : List qz_V) (μ : qz_M) (kv : qz_M → Int32 → Prop) (ke : qz_M → Nat → Prop) : Prop := wz_call f as μ (fun μ' o => match o with | .inl (some (.inl v)) => kv μ' v | .inr E => ke μ' E | _ => False)
def wz_cJ (f : qz_Fn) (as : List qz_V) (μ : qz_M) (kv : qz_M → Int64 → Prop) (ke : qz_M → Nat → Prop) : Prop := wz_call f as μ (fun μ' o => match o with | .inl (some (.inr (.inl v))) => kv μ' v | .inr E => ke μ' E | _ => False)
def wz_cR (f : qz_Fn) (as : List qz_V) (μ : qz_M) (kv : qz_M → qz_R → Prop) (ke : qz_M → Nat → Prop) : Prop := wz_call f as μ (fun μ' o => match o with | .inl (some (.inr (.inr (some v)))) => kv μ' v | .inr E => ke μ' E | _ => False)
def wz_cV (f : qz_Fn) (as : List qz_V) (μ : qz_M) (kv : qz_M → Prop) (ke : qz_M → Nat → Prop) : Prop := wz_call f as μ (fun μ' o => match o with | .inl none => kv μ' | .inr E => ke μ' E | _ => False)
def wz_cl (rk : Nat) (f : qz_Fn) (as : List qz_V) (μ : qz_M) (k : qz_M → Option qz_V → Prop) (ke : qz_M → Nat → Prop) : Prop := match rk with
  | 0 => wz_cI f as μ (fun μ' v => k μ' (some (.inl v))) ke
  | 2 => wz_cJ f as μ (fun μ' v => k μ' (some (.inr (.inl v)))) ke
  | 3 => wz_cR f as μ (fun μ' v => k μ' (some (.inr (.inr (some v))))) ke
  | _ => wz_cV f as μ (fun μ' => k μ' none) ke
def wz_psh (v : Option qz_V) (rest : List qz_V) : List qz_V := match v with | some v => v :: rest | none => rest
def wk (f : qz_Fn) (n l kd t : Nat) (hs : List (Nat × Nat)) (rk : Nat) : wz_W := fun k R x => match qz_args n x.2.1 with
  | none => False
  | some (as, rest) => bif (Nat.ble (qz_wt rest) 8 && Nat.ble (qz_es as).length l) && (Nat.beq kd 0 || qz_rcv x.2.2 t as) then wz_cl rk f as x.2.2 (fun μ' v => k 0 (x.1, wz_psh v rest, μ')) (wz_ex kd hs x.1 k R) else False
def wz_loop (F : qz_F) (N : Nat) (k : wz_K) (R : wz_R) (x : qz_X) : Prop := ∃ e, qn_l F N x = some e ∧ wz_E k R e
def wl (F : qz_F) (N : Nat) : wz_W := fun k R x => wz_loop F N k R x
def wm (mx : Bool) (W : Nat) : wz_W := fun k _ x => match x.2.1 with
  | .inl v :: .inl u :: r => bif Nat.ble (qz_wt r + 13) W then k 0 (x.1, .inl (bif mx then (if u < v then v else u) else (if v < u then v else u)) :: r, x.2.2) else False
  | _ => False
def wml (W : Nat) : wz_W := fun k _ x => match x.2.1 with
  | .inr (.inl v) :: .inr (.inl u) :: r => bif Nat.ble (qz_wt r + 15) W then k 0 (x.1, .inr (.inl (if v < u then u else v)) :: r, x.2.2) else False
  | _ => False
def wac (W : Nat) : wz_W := fun k _ x => match x.2.1 with
  | .inl n :: .inl dp :: .inr (.inr (some g)) :: .inl sp :: .inr (.inr (some f)) :: r =>
    bif Nat.ble (qz_wt r + 18) W && (Nat.beq (qz_tag x.2.2 f) 50 && Nat.beq (qz_tag x.2.2 g) 50) then
      ((¬ sp < 0 ∧ ¬ dp < 0 ∧ ¬ n < 0 ∧ sp.toNatClampNeg + n.toNatClampNeg ≤ qz_len x.2.2 f ∧ dp.toNatClampNeg + n.toNatClampNeg ≤ qz_len x.2.2 g) ∧
      wz_wr (qz_wC x.2.2 g (va_cpy (qz_im x.2.2 f.1 f.2.1 f.2.2) (qz_im x.2.2 g.1 g.2.1 g.2.2) sp.toNatClampNeg dp.toNatClampNeg n.toNatClampNeg)) (fun μ' => k 0 (x.1, r, μ')))
    else False
  | _ => False
def woi (W : Nat) : wz_W := fun k _ x => match x.2.1 with
  | .inr (.inr (some _)) :: r => bif Nat.ble (qz_wt r + 12) W then k 0 (x.1, r, x.2.2) else False
  | _ => False
theorem tz_ins_ok {K g : Nat} : ∀ {rs : qz_Rs} {x : qz_X} {k : wz_k}, tz_ins K g rs x k → ∃ x', qz_ins K g rs x = some x' ∧ k x' := by sorry
theorem s_i {K g : Nat} {rs : qz_Rs} : wz_S (wi K g rs) (qn_i K g rs) := by sorry
theorem s_d {ms : List Bool} : wz_S (wd ms) (qn_d ms) := by sorry
theorem s_s {F G : wz_W} {f g : qz_F} (hF : wz_S F f) (hG : wz_S G g) : wz_S (ws F G) (qn_s f g) := by sorry
theorem s_b {F : wz_W} {f : qz_F} (hF : wz_S F f) : wz_S (wb F) (qn_b f) := by sorry
theorem s_c {i : Instr} {n : Nat} : wz_S (wc i n) (qn_c i n) := by sorry
theorem s_g {n : Nat} : wz_S (wg n) (qn_g n) := by sorry
theorem wz_sw_ok {v : Int} {d : Nat} {k : Nat → Prop} : ∀ {ds : List Nat} {lo : Int}, lo ≤ v → wz_sw v lo ds d k → k (ds.getD (v - lo).toNat d) := by sorry
theorem s_w {lo hi : Int} {ds : List Nat} {d : Nat} : wz_S (ww lo hi ds d) (qn_w lo hi ds d) := by sorry
theorem wz_kr0 {R : Option FieldType} (h : Nat.beq (wz_kr R) 0 = true) : R = some .int := by sorry
theorem wz_kr1 {R : Option FieldType} (h : Nat.beq (wz_kr R) 1 = true) : R = some .boolean := by sorry
theorem wz_kr2 {R : Option FieldType} (h : Nat.beq (wz_kr R) 2 = true) : R = some .long := by sorry
theorem wz_kr3 {R : Option FieldType} (h : Nat.beq (wz_kr R) 3 = true) : ∃ rt, R = some rt ∧ pz_kd rt = 2 := by sorry
theorem wz_kr4 {R : Option FieldType} (h : Nat.beq (wz_kr R) 4 = true) : R = none := by sorry
theorem s_r {i : Instr} {Rt : Option FieldType} : wz_S (wr i Rt) (qn_r i Rt) := by sorry
theorem s_t {W E : Nat} : wz_S (wt W E) (qn_t W E) := by sorry
theorem wz_cl_at {rk : Nat} {f : qz_Fn} {as : List qz_V} {μ : qz_M} {k : qz_M → Option qz_V → Prop} {ke : qz_M → Nat → Prop} (h : wz_cl rk f as μ k ke) : ∃ μ' o, f as μ = some (μ', o) ∧ match o with | .inl v => k μ' v | .inr E => ke μ' E := by sorry
theorem s_k {f : qz_Fn} {n l kd t : Nat} {hs : List (Nat × Nat)} {rk : Nat} : wz_S (wk f n l kd t hs rk) (qn_k f n l kd t hs) := by sorry
theorem s_l {F : qz_F} {N : Nat} : wz_S (wl F N) (qn_l F N) := by sorry
theorem s_m {mx : Bool} {W : Nat} : wz_S (wm mx W) (qn_m mx W) := by sorry
theorem s_ml {W : Nat} : wz_S (wml W) (qn_ml W) := by sorry
theorem s_ac {W : Nat} : wz_S (wac W) (qn_ac W) := by sorry
theorem s_oi {W : Nat} : wz_S (woi W) (qn_oi W) := by sorry
theorem wz_mt {G : wz_W} {F : qz_F} {n : Nat} {as : List qz_V} {μ : qz_M} {Q : wz_R} (hS : wz_S G F) (h : G wz_k0 Q (qz_ent as n, [], μ)) : wz_call (qz_mt n F) as μ Q := by sorry
theorem wz_mt9 {G : wz_W} {F : qz_F} {n : Nat} {as : List qz_V} {μ : qz_M} {Q : wz_R} {L : qz_L} (hS : wz_S G F) (hL : qz_ent as n = L) (h : G wz_k0 Q (L, [], μ)) : wz_call (qz_mt n F) as μ Q := by sorry
theorem wz_call_of {f : qz_Fn} {as : List qz_V} {μ μ' : qz_M} {o : qz_Oc} {Q : wz_R} (e : f as μ = some (μ', o)) (h : Q μ' o) : wz_call f as μ Q := by sorry
theorem wz_call_eq {f : qz_Fn} {as : List qz_V} {μ μ' : qz_M} {o : qz_Oc} (h : wz_call f as μ (fun μ2 o2 => μ2 = μ' ∧ o2 = o)) : f as μ = some (μ', o) := by sorry
theorem wz_call_im {f : qz_Fn} {as : List qz_V} {μ : qz_M} {Q Q' : wz_R} (h : wz_call f as μ Q) (hi : ∀ μ' o, Q μ' o → Q' μ' o) : wz_call f as μ Q' := by sorry
def wz_lk (k : wz_K) (I : qz_X → Prop) : wz_K := fun n x' => match n with | 0 => k 0 x' | 1 => I x' | n + 2 => k (n + 1) x'
theorem wz_lp {F : qz_F} {G : wz_W} {k : wz_K} {R : wz_R} (hS : wz_S G F) (Inv : Nat → qz_X → Prop)
    (hb : ∀ m x, Inv m x → G (wz_lk k (fun x' => ∃ m', m' < m ∧ Inv m' x')) R x) : ∀ (N m : Nat) (x : qz_X), m < N → Inv m x → wz_loop F N k R x := by sorry
theorem wz_cI_of {f : qz_Fn} {as : List qz_V} {μ μ' : qz_M} {v : Int32} {kv : qz_M → Int32 → Prop} {ke : qz_M → Nat → Prop} (e : f as μ = some (μ', .inl (some (.inl v)))) (h : kv μ' v) : wz_cI f as μ kv ke := by sorry
theorem wz_cJ_of {f : qz_Fn} {as : List qz_V} {μ μ' : qz_M} {v : Int64} {kv : qz_M → Int64 → Prop} {ke : qz_M → Nat → Prop} (e : f as μ = some (μ', .inl (some (.inr (.inl v))))) (h : kv μ' v) : wz_cJ f as μ kv ke := by sorry
theorem wz_cR_of {f : qz_Fn} {as : List qz_V} {μ μ' : qz_M} {v : qz_R} {kv : qz_M → qz_R → Prop} {ke : qz_M → Nat → Prop} (e : f as μ = some (μ', .inl (some (.inr (.inr (some v)))))) (h : kv μ' v) : wz_cR f as μ kv ke := by sorry
theorem wz_cV_of {f : qz_Fn} {as : List qz_V} {μ μ' : qz_M} {kv : qz_M → Prop} {ke : qz_M → Nat → Prop} (e : f as μ = some (μ', .inl none)) (h : kv μ') : wz_cV f as μ kv ke := by sorry
theorem wz_cI_E {f : qz_Fn} {as : List qz_V} {μ μ' : qz_M} {E : Nat} {kv : qz_M → Int32 → Prop} {ke : qz_M → Nat → Prop} (e : f as μ = some (μ', .inr E)) (h : ke μ' E) : wz_cI f as μ kv ke := by sorry
theorem wz_cV_E {f : qz_Fn} {as : List qz_V} {μ μ' : qz_M} {E : Nat} {kv : qz_M → Prop} {ke : qz_M → Nat → Prop} (e : f as μ = some (μ', .inr E)) (h : ke μ' E) : wz_cV f as μ kv ke := by sorry
theorem wz_fgd {ms : List Bool} {B : wz_W} {k : wz_K} {R : wz_R} {L L0 : qz_L} {st : List qz_V} {μ : qz_M} (hL : qz_fg ms L = L0) (h : B k R (L0, st, μ)) : ws (wd ms) B k R (L, st, μ) := by sorry
theorem wz_if {c : Bool} {A B : Prop} (h1 : c = true → A) (h2 : c = false → B) : (bif c then A else B) := by sorry
theorem wz_i1 {c : Bool} {A B : Prop} (hc : c = true) (h : A) : (bif c then A else B) := by sorry
theorem wz_i0 {c : Bool} {A B : Prop} (hc : c = false) (h : B) : (bif c then A else B) := by sorry
