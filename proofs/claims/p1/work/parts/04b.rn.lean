/-! THE PURE MACHINE WITH CALLS: tables of methods and instructions, runs with fuel. -/
abbrev pz_Tb : Type := Nat → Nat → Option (Instr × Nat × Nat × Nat)
abbrev pz_Ib : Type := Nat → Option pz_M
abbrev pz_Rt : Type := Option (pz_S × pz_O)
abbrev pz_Rc : Type := Nat → Nat → pz_L → List pz_V → pz_S → pz_Rt
def pz_es (args : List pz_V) : pz_L := args.flatMap fun v => bif pz_c2 v then [some v, none] else [some v]
/-- a callee's locals at its entry -/
def pz_ent (args : List pz_V) (n : Nat) : pz_L := pz_es args ++ List.replicate (n - (pz_es args).length) none
def pz_hnd (hh : List (Nat × Nat × Nat × Nat)) (pc E : Nat) : Option Nat := match hh with
  | [] => none
  | (a, b, h, k) :: r => if (a ≤ pc ∧ pc < b) ∧ k = E then some h else pz_hnd r pc E
def pz_args (n : Nat) (st : List pz_V) : Option (List pz_V × List pz_V) := if n ≤ st.length then some ((st.take n).reverse, st.drop n) else none
def pz_fit (My Ma : pz_M) (args rest : List pz_V) : Bool := Nat.ble (pz_mF Ma + 1) (pz_mF My) && (Nat.ble (8 + (pz_mL Ma + 11) + pz_mW Ma) (pz_mW My) && (Nat.ble (pz_wt rest) 8 && Nat.ble (pz_es args).length (pz_mL Ma)))
def pz_rcv (σ : pz_S) (t : Nat) (args : List pz_V) : Bool := match args with
  | .inr (.inr (some (f, i))) :: _ => pz_is σ f i t && Nat.blt t 6
  | _ => false
/-- behind a call -/
def pz_back (rec : pz_Rc) (My : pz_M) (y pc : Nat) (L : pz_L) (rest : List pz_V) (k : Nat) (r : pz_Rt) : pz_Rt := match r with
  | none => none
  | some (σ1, .inl none) => rec y (pc + 3) L rest σ1
  | some (σ1, .inl (some v)) => rec y (pc + 3) L (v :: rest) σ1
  | some (σ1, .inr E) => bif Nat.beq k 2 then none else match pz_hnd (pz_mH My) pc E with
    | some h => rec y h L [.inr (.inr (some (σ1.1, 0)))] (pz_al σ1 99 0 0 0 0 (fun _ _ => none))
    | none => match pz_mH My with
      | [] => some (σ1, .inr E)
      | _ => none
def pz_inv (I : pz_Ib) (rec : pz_Rc) (My : pz_M) (y pc : Nat) (L : pz_L) (st : List pz_V) (σ : pz_S) (a k : Nat) : pz_Rt := match I a with
  | none => none
  | some Ma => bif Nat.beq (pz_mK Ma) k then
      (match pz_args (pz_mP Ma + (bif Nat.beq k 0 then 0 else 1)) st with
        | none => none
        | some (as, rest) => bif pz_fit My Ma as rest && (Nat.beq k 0 || pz_rcv σ (pz_mT Ma) as) then pz_back rec My y pc L rest k (rec a 0 (pz_ent as (pz_mL Ma)) [] σ) else none)
    else none
def pz_wC (σ : pz_S) (a i : Nat) (c : Nat → Int32) : pz_S := (σ.1, σ.2.1, σ.2.2.1, (fun a' i' => if a' = a ∧ i' = i then c else σ.2.2.2.1 a' i'), σ.2.2.2.2)
def pz_rm (My : pz_M) (n : Nat) (rest : List pz_V) : Bool := Nat.ble 1 (pz_mF My) && Nat.ble (pz_wt rest + n) (pz_mW My)
/-- Math.min, Math.max, System.arraycopy -/
def pz_bi (rec : pz_Rc) (My : pz_M) (y pc : Nat) (L : pz_L) (st : List pz_V) (σ : pz_S) (a : Nat) : pz_Rt :=
  bif Nat.beq a 10000 then (match st with
    | .inl v :: .inl u :: r => bif pz_rm My 13 r then rec y (pc + 3) L (.inl (if v < u then v else u) :: r) σ else none
    | _ => none)
  else bif Nat.beq a 10001 then (match st with
    | .inl v :: .inl u :: r => bif pz_rm My 13 r then rec y (pc + 3) L (.inl (if u < v then v else u) :: r) σ else none
    | _ => none)
  else bif Nat.beq a 10002 then (match st with
    | .inr (.inl v) :: .inr (.inl u) :: r => bif pz_rm My 15 r then rec y (pc + 3) L (.inr (.inl (if v < u then u else v)) :: r) σ else none
    | _ => none)
  else bif Nat.beq a 10003 then (match st with
    | .inl n :: .inl dp :: .inr (.inr (some (g, j))) :: .inl sp :: .inr (.inr (some (f, i))) :: r =>
      if (pz_rm My 18 r && (pz_is σ f i 50 && pz_is σ g j 50)) = true ∧ ¬ sp < 0 ∧ ¬ dp < 0 ∧ ¬ n < 0 ∧ sp.toNatClampNeg + n.toNatClampNeg ≤ (pz_sh σ f).2.2 ∧ dp.toNatClampNeg + n.toNatClampNeg ≤ (pz_sh σ g).2.2 then
        rec y (pc + 3) L r (pz_wC σ g j (va_cpy (pz_mm σ f i) (pz_mm σ g j) sp.toNatClampNeg dp.toNatClampNeg n.toNatClampNeg))
      else none
    | _ => none)
  else none
/-- Object.<init>, and new E("..") with its throw: what the class has in one method alone -/
def pz_oi (rec : pz_Rc) (My : pz_M) (y pc : Nat) (L : pz_L) (st : List pz_V) (σ : pz_S) : pz_Rt := match st with
  | .inr (.inr (some _)) :: r => bif pz_rm My 12 r then rec y (pc + 3) L r σ else none
  | _ => none
def pz_thr (My : pz_M) (L : pz_L) (st : List pz_V) (σ : pz_S) (E : Nat) : pz_Rt := match pz_mH My with
  | [] => bif Nat.ble 6 (pz_mF My) && (Nat.ble (pz_wt st + 82) (pz_mW My) && Nat.beq L.length (pz_mL My)) then some ((σ.1, σ.2.1, σ.2.2.1, σ.2.2.2.1, σ.2.2.2.2.1, σ.2.2.2.2.2.1 + 1, σ.2.2.2.2.2.2 + 6), .inr E) else none
  | _ => none
/-- an argument array that is only read: a family of tag 60 -/
def pz_scl (pc : Nat) (L : pz_L) (st : List pz_V) (σ : pz_S) : pz_P := match st with
  | .inl j :: .inr (.inr (some (f, i))) :: r => if (Nat.beq f 0 && pz_is σ f i 60) = true ∧ pz_out j (pz_sh σ f).2.2 = false then some (pc + 1, L, .inl (pz_mm σ f i j.toNatClampNeg) :: r, σ) else none
  | _ => none
def pz_scn (pc : Nat) (L : pz_L) (st : List pz_V) (σ : pz_S) : pz_P := match st with
  | .inr (.inr (some (f, i))) :: r => if (Nat.beq f 0 && pz_is σ f i 60) = true then some (pc + 1, L, .inl (Int32.ofNat (pz_sh σ f).2.2) :: r, σ) else none
  | _ => none
def pz_go (rec : pz_Rc) (y : Nat) (x : pz_P) : pz_Rt := match x with
  | some (pc', L', st', σ') => rec y pc' L' st' σ'
  | none => none
def pz_rt (i : Instr) (My : pz_M) (st : List pz_V) : Option (Option pz_V) := match i with
  | .ireturn => (match st with
    | [.inl v] => if pz_mR My = some .int ∨ pz_mR My = some .boolean ∧ (v = 0 ∨ v = 1) then some (some (.inl v)) else none
    | _ => none)
  | .lreturn => (match st with
    | [.inr (.inl v)] => if pz_mR My = some .long then some (some (.inr (.inl v))) else none
    | _ => none)
  | .areturn => (match st with
    | [.inr (.inr v)] => (match pz_mR My with
      | some rt => if pz_kd rt = 2 then some (some (.inr (.inr v))) else none
      | none => none)
    | _ => none)
  | .return_ => (match st with
    | [] => if pz_mR My = none then some none else none
    | _ => none)
  | _ => none
def pz_rtn (σ : pz_S) (r : Option (Option pz_V)) : pz_Rt := match r with
  | some v => some (σ, .inl v)
  | none => none
/-- the instructions that are no plain step -/
def pz_sp (i : Instr) : Bool := match i with
  | .ireturn | .lreturn | .areturn | .return_ | .invokestatic _ | .invokevirtual _ | .invokespecial _ | .new _ | .iaload | .arraylength => true
  | _ => false
def pz_spc (I : pz_Ib) (rec : pz_Rc) (My : pz_M) (y pc : Nat) (L : pz_L) (st : List pz_V) (σ : pz_S) (i : Instr) (a b : Nat) : pz_Rt := match i with
  | .ireturn => pz_rtn σ (pz_rt .ireturn My st)
  | .lreturn => pz_rtn σ (pz_rt .lreturn My st)
  | .areturn => pz_rtn σ (pz_rt .areturn My st)
  | .return_ => pz_rtn σ (pz_rt .return_ My st)
  | .invokestatic _ => bif Nat.blt a 10000 then pz_inv I rec My y pc L st σ a 0 else pz_bi rec My y pc L st σ a
  | .invokevirtual _ => pz_inv I rec My y pc L st σ a 1
  | .invokespecial _ => bif Nat.blt a 10000 then pz_inv I rec My y pc L st σ a 2 else pz_oi rec My y pc L st σ
  | .new k => bif Nat.blt a 100 then pz_go rec y (pz_step false (.new k) a b pc L st σ) else pz_thr My L st σ (a - 100)
  | .iaload => bif Nat.beq a 60 then pz_go rec y (pz_scl pc L st σ) else pz_go rec y (pz_step false .iaload a b pc L st σ)
  | .arraylength => bif Nat.beq a 60 then pz_go rec y (pz_scn pc L st σ) else pz_go rec y (pz_step false .arraylength a b pc L st σ)
  | _ => none
def pz_body (T : pz_Tb) (I : pz_Ib) (rec : pz_Rc) : pz_Rc := fun y pc L st σ => match I y with
  | none => none
  | some My => match T y pc with
    | none => none
    | some (i, _, a, b) => bif pz_sp i then pz_spc I rec My y pc L st σ i a b else pz_go rec y (pz_step (Nat.beq (pz_mK My) 2 && Nat.beq (pz_mT My) a) i a b pc L st σ)
noncomputable def pz_run (T : pz_Tb) (I : pz_Ib) (n : Nat) : pz_Rc := Nat.rec (fun _ _ _ _ _ => none) (fun _ rec => pz_body T I rec) n
theorem pz_run_0 (T : pz_Tb) (I : pz_Ib) (y pc : Nat) (L : pz_L) (st : List pz_V) (σ : pz_S) : pz_run T I 0 y pc L st σ = none := rfl
theorem pz_run_s (T : pz_Tb) (I : pz_Ib) (n : Nat) : pz_run T I (n + 1) = pz_body T I (pz_run T I n) := rfl
