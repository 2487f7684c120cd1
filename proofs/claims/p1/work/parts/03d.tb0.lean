/-! TABLES AND THEIR CHECKS: what they are (no machine yet). -/
/-- how long an instruction is -/
def pz_il (i : Instr) : Nat := match i with
  | .bipush _ | .iload _ | .lload _ | .aload _ | .istore _ | .lstore _ | .astore _ | .newarray _ | .ldc _ => 2
  | .sipush _ | .iinc _ _ | .ifCond _ _ | .if_icmp _ _ | .goto _ | .getfield _ | .putfield _ | .ldc_w _ | .ldc2_w _ | .new _ | .anewarray _ | .invokestatic _ | .invokevirtual _ | .invokespecial _ | .getstatic _ => 3
  | .multianewarray _ _ => 4
  | _ => 1
/-- name, code, locals, what it returns, parameters, kind (0 static, 1 virtual, 2 constructor), the receiver's tag, handlers, frames, words of locals -/
abbrev pz_M : Type := MethodName × ByteArray × Nat × Option FieldType × Nat × Nat × Nat × List (Nat × Nat × Nat × Nat) × Nat × Nat
abbrev pz_mN (M : pz_M) : MethodName := M.1
abbrev pz_mB (M : pz_M) : ByteArray := M.2.1
abbrev pz_mL (M : pz_M) : Nat := M.2.2.1
abbrev pz_mR (M : pz_M) : Option FieldType := M.2.2.2.1
abbrev pz_mP (M : pz_M) : Nat := M.2.2.2.2.1
abbrev pz_mK (M : pz_M) : Nat := M.2.2.2.2.2.1
abbrev pz_mT (M : pz_M) : Nat := M.2.2.2.2.2.2.1
abbrev pz_mH (M : pz_M) : List (Nat × Nat × Nat × Nat) := M.2.2.2.2.2.2.2.1
abbrev pz_mF (M : pz_M) : Nat := M.2.2.2.2.2.2.2.2.1
abbrev pz_mW (M : pz_M) : Nat := M.2.2.2.2.2.2.2.2.2
/-- entries of MarketHall's constant pool for a throw: the class, the text, the constructor -/
def pz_tix (E : Nat) : Nat × Nat × Nat := if E = 24 then (339, 341, 343) else if E = 13 then (346, 348, 350) else (351, 353, 355)
abbrev pz_Rw : Type := Nat × Instr × Nat × Nat × Nat
abbrev pz_Ey : Type := pz_M × List (List pz_Rw)
abbrev pz_All : Type := List (List pz_Ey)
/-- the links of a class: by their index in the constant pool, what they name -/
abbrev pz_Lt : Type := List (List (Nat × Nat × Nat))
def pz_fl (idx : Nat) (l : List (Nat × Nat × Nat)) : Option (Nat × Nat) := match l with
  | [] => none
  | x :: r => bif Nat.beq x.1 idx then some x.2 else pz_fl idx r
def pz_lt (t : pz_Lt) (idx a b : Nat) : Bool := match pz_fl idx (t.getD (idx / 16) []) with
  | some (x, y) => Nat.beq x a && Nat.beq y b
  | none => false
/-- fields (tag, place), methods (number, 0), classes (tag, 0; 50 Hall as an element, 51 [[I), constants (value, 0; 1 for a long's place) -/
abbrev pz_Ls : Type := pz_Lt × pz_Lt × pz_Lt × pz_Lt
def pz_tsw (i : Instr) : Bool := match i with | .tableswitch _ _ _ _ => true | _ => false
def pz_dec (cc : ByteArray) (pc : Nat) (i : Instr) (n : Nat) : Bool := decide (decode cc pc = .ok (i, n))
def pz_ckt (q : Nat) (cc : ByteArray) (pc E : Nat) : Bool := Nat.beq q 11 && (decide (E = 24 ∨ E = 13 ∨ E = 15) && (pz_dec cc pc (.new (pz_tix E).1) 3 && (pz_dec cc (pc + 3) .dup 1 && (pz_dec cc (pc + 4) (.ldc_w (pz_tix E).2.1) 3 && (pz_dec cc (pc + 7) (.invokespecial (pz_tix E).2.2) 3 && pz_dec cc (pc + 10) .athrow 1)))))
def pz_cki (q y4 y9 : Nat) (t : pz_Ls) (cc : ByteArray) (pc : Nat) (i : Instr) (n a b : Nat) : Bool := match i with
  | .ireturn | .lreturn | .areturn | .return_ | .iaload | .arraylength => Nat.beq n 1
  | .invokestatic idx => Nat.beq n 3 && (pz_lt t.2.1 idx a 0 && !Nat.beq a 632)
  | .invokevirtual idx => Nat.beq n 3 && (pz_lt t.2.1 idx a 0 && (Nat.blt a 10000 && !Nat.beq a 632))
  | .invokespecial idx => Nat.beq n 3 && (!Nat.beq a 632 && ((pz_lt t.2.1 idx a 0 && Nat.ble a 10004 && (Nat.blt a 10000 || Nat.beq a 10004)) || (Nat.beq q 11 && (Nat.blt a 10000 && ((Nat.beq idx 18 && Nat.beq a y4) || (Nat.beq idx 25 && Nat.beq a y9))))))
  | .new idx => Nat.beq n 3 && (bif Nat.blt a 100 then (Nat.blt a 6 && pz_lt t.2.2.1 idx a 0) else pz_ckt q cc pc (a - 100))
  | .getfield idx => Nat.beq n 3 && pz_lt t.1 idx a b
  | .putfield idx => Nat.beq n 3 && (pz_lt t.1 idx a b && !Nat.beq a 60)
  | .ldc idx => Nat.beq n 2 && pz_lt t.2.2.2 idx a 0
  | .ldc_w idx => Nat.beq n 3 && pz_lt t.2.2.2 idx a 0
  | .ldc2_w idx => Nat.beq n 3 && pz_lt t.2.2.2 idx a 1
  | .anewarray idx => Nat.beq n 3 && pz_lt t.2.2.1 idx 1 0
  | .multianewarray idx d => Nat.beq n 4 && (Nat.beq d 2 && pz_lt t.2.2.1 idx 51 0)
  | .tableswitch _ _ _ _ => true
  | i => Nat.beq n (pz_il i)
def pz_ckr (q y4 y9 : Nat) (t : pz_Ls) (cc : ByteArray) (x : pz_Rw) : Bool := pz_dec cc x.1 x.2.1 x.2.2.1 && pz_cki q y4 y9 t cc x.1 x.2.1 x.2.2.1 x.2.2.2.1 x.2.2.2.2
def pz_ckm (q y4 y9 : Nat) (t : pz_Ls) (cc : ByteArray) (rs : List (List pz_Rw)) : Bool := rs.all fun c => c.all (pz_ckr q y4 y9 t cc)
def pz_n60 (x : pz_Rw) : Bool := match x.2.1 with
  | .iaload | .arraylength => !Nat.beq x.2.2.2.1 60
  | _ => true
def pz_c60 (rs : List (List pz_Rw)) : Bool := rs.all fun c => c.all pz_n60
theorem pz_ckm_app {q y4 y9 : Nat} {t : pz_Ls} {cc : ByteArray} {a b : List (List pz_Rw)} (h1 : pz_ckm q y4 y9 t cc a = true) (h2 : pz_ckm q y4 y9 t cc b = true) : pz_ckm q y4 y9 t cc (a ++ b) = true := by
  unfold pz_ckm at h1 h2 ⊢
  rw [List.all_append, h1, h2]
  rfl
theorem pz_ckm_c {q y4 y9 : Nat} {t : pz_Ls} {cc : ByteArray} {a : List pz_Rw} {b : List (List pz_Rw)} (h1 : pz_ckm q y4 y9 t cc [a] = true) (h2 : pz_ckm q y4 y9 t cc b = true) : pz_ckm q y4 y9 t cc (a :: b) = true := pz_ckm_app (a := [a]) h1 h2
