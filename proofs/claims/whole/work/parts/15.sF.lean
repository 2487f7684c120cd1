def wz_hnk (hs : List (Nat × Nat)) (E : Nat) (k : Nat → Prop) : Prop := match hs with
  | [] => False
  | x :: r => bif Nat.beq x.1 E then k x.2 else wz_hnk r E k
theorem wz_hnk_at : ∀ {hs : List (Nat × Nat)} {E : Nat} {k : Nat → Prop}, wz_hnk hs E k → ∃ h, qz_hn hs E = some h ∧ k h := by sorry
def wkh (f : qz_Fn) (n l kd t : Nat) (hs : List (Nat × Nat)) (rk : Nat) : wz_W := fun k R x => match qz_args n x.2.1 with
  | none => False
  | some (as, rest) => bif (Nat.ble (qz_wt rest) 8 && Nat.ble (qz_es as).length l) && (Nat.beq kd 0 || qz_rcv x.2.2 t as) then wz_cl rk f as x.2.2 (fun μ' v => k 0 (x.1, wz_psh v rest, μ')) (fun μ' E => wz_hnk hs E (fun h => wz_wr (qz_al μ' 99 0 0 0 0) (fun μ2 => k (h + 1) (x.1, [.inr (.inr (some (200, qz_na μ', 0)))], μ2)))) else False
theorem s_kh {f : qz_Fn} {n l kd t : Nat} {y : Nat × Nat} {r : List (Nat × Nat)} {rk : Nat} (hk : Nat.beq kd 2 = false) : wz_S (wkh f n l kd t (y :: r) rk) (qn_k f n l kd t (y :: r)) := by sorry
noncomputable def gv_569 : wz_W := Classical.choice ⟨fun _ _ _ => False⟩
set_option maxRecDepth 10000 in
theorem fv_569 (a1 : Int32) (μ : qz_M) (R : wz_R)
    (h : (wz_cI qf_185 [.inr (.inr (some (0, 0, 0))), .inl a1] μ (fun μ1 v3 => (wz_wr (qz_wL μ1 (71, 0, 0) 0 v3.toInt64) (fun μ4 => (R μ4 (.inl (some (.inl (0 : Int32)))))))) (fun μ1 e => (bif Nat.beq 13 e then (wz_wr (qz_al μ1 99 0 0 0 0) (fun μ2 => (R μ2 (.inl (some (.inl (1 : Int32))))))) else False)))) :
    wz_call qf_569 [.inr (.inr (some (0, 0, 0))), .inl a1, .inr (.inr (some (71, 0, 0)))] μ R := by sorry
noncomputable def gv_570 : wz_W := Classical.choice ⟨fun _ _ _ => False⟩
set_option maxRecDepth 10000 in
theorem fv_570 (a1 : Int32) (μ : qz_M) (R : wz_R)
    (h : (wz_cI qf_186 [.inr (.inr (some (0, 0, 0))), .inl a1] μ (fun μ1 v4 => (wz_wr (qz_wL μ1 (71, 0, 0) 0 v4.toInt64) (fun μ5 => (R μ5 (.inl (some (.inl (0 : Int32)))))))) (fun μ1 e => (bif Nat.beq 13 e then (wz_wr (qz_al μ1 99 0 0 0 0) (fun μ3 => (R μ3 (.inl (some (.inl (1 : Int32))))))) else (bif Nat.beq 15 e then (wz_wr (qz_al μ1 99 0 0 0 0) (fun μ2 => (R μ2 (.inl (some (.inl (2 : Int32))))))) else False))))) :
    wz_call qf_570 [.inr (.inr (some (0, 0, 0))), .inl a1, .inr (.inr (some (71, 0, 0)))] μ R := by sorry
noncomputable def gv_571 : wz_W := Classical.choice ⟨fun _ _ _ => False⟩
set_option maxRecDepth 10000 in
theorem fv_571 (a1 : Int32) (a2 : Int32) (μ : qz_M) (R : wz_R)
    (h : (wz_cI qf_187 [.inr (.inr (some (0, 0, 0))), .inl a1, .inl a2] μ (fun μ1 v3 => (wz_wr (qz_wL μ1 (71, 0, 0) 0 v3.toInt64) (fun μ4 => (R μ4 (.inl (some (.inl (0 : Int32)))))))) (fun μ1 e => (bif Nat.beq 13 e then (wz_wr (qz_al μ1 99 0 0 0 0) (fun μ2 => (R μ2 (.inl (some (.inl (1 : Int32))))))) else False)))) :
    wz_call qf_571 [.inr (.inr (some (0, 0, 0))), .inl a1, .inl a2, .inr (.inr (some (71, 0, 0)))] μ R := by sorry
noncomputable def gv_572 : wz_W := Classical.choice ⟨fun _ _ _ => False⟩
set_option maxRecDepth 10000 in
theorem fv_572 (a1 : Int32) (a2 : Int32) (μ : qz_M) (R : wz_R)
    (h : (wz_cI qf_188 [.inr (.inr (some (0, 0, 0))), .inl a1, .inl a2] μ (fun μ1 v4 => (wz_wr (qz_wL μ1 (71, 0, 0) 0 v4.toInt64) (fun μ5 => (R μ5 (.inl (some (.inl (0 : Int32)))))))) (fun μ1 e => (bif Nat.beq 24 e then (wz_wr (qz_al μ1 99 0 0 0 0) (fun μ3 => (R μ3 (.inl (some (.inl (1 : Int32))))))) else (bif Nat.beq 15 e then (wz_wr (qz_al μ1 99 0 0 0 0) (fun μ2 => (R μ2 (.inl (some (.inl (2 : Int32))))))) else False))))) :
    wz_call qf_572 [.inr (.inr (some (0, 0, 0))), .inl a1, .inl a2, .inr (.inr (some (71, 0, 0)))] μ R := by sorry
noncomputable def gv_573 : wz_W := Classical.choice ⟨fun _ _ _ => False⟩
set_option maxRecDepth 10000 in
theorem fv_573 (a1 : Int32) (a2 : Int32) (a3 : Int32) (a4 : Int32) (μ : qz_M) (R : wz_R)
    (h : (wz_cI qf_189 [.inr (.inr (some (0, 0, 0))), .inl a1, .inl a2, .inl a3, .inl a4] μ (fun μ1 v5 => (wz_wr (qz_wL μ1 (71, 0, 0) 0 v5.toInt64) (fun μ6 => (R μ6 (.inl (some (.inl (0 : Int32)))))))) (fun μ1 e => (bif Nat.beq 24 e then (wz_wr (qz_al μ1 99 0 0 0 0) (fun μ4 => (R μ4 (.inl (some (.inl (1 : Int32))))))) else (bif Nat.beq 13 e then (wz_wr (qz_al μ1 99 0 0 0 0) (fun μ3 => (R μ3 (.inl (some (.inl (2 : Int32))))))) else (bif Nat.beq 15 e then (wz_wr (qz_al μ1 99 0 0 0 0) (fun μ2 => (R μ2 (.inl (some (.inl (3 : Int32))))))) else False)))))) :
    wz_call qf_573 [.inr (.inr (some (0, 0, 0))), .inl a1, .inl a2, .inl a3, .inl a4, .inr (.inr (some (71, 0, 0)))] μ R := by sorry
noncomputable def gv_574 : wz_W := Classical.choice ⟨fun _ _ _ => False⟩
set_option maxRecDepth 10000 in
theorem fv_574 (a1 : Int32) (a2 : Int32) (a3 : Int32) (μ : qz_M) (R : wz_R)
    (h : (wz_cI qf_190 [.inr (.inr (some (0, 0, 0))), .inl a1, .inl a2, .inl a3] μ (fun μ1 v5 => (wz_wr (qz_wL μ1 (71, 0, 0) 0 v5.toInt64) (fun μ6 => (R μ6 (.inl (some (.inl (0 : Int32)))))))) (fun μ1 e => (bif Nat.beq 24 e then (wz_wr (qz_al μ1 99 0 0 0 0) (fun μ4 => (R μ4 (.inl (some (.inl (1 : Int32))))))) else (bif Nat.beq 13 e then (wz_wr (qz_al μ1 99 0 0 0 0) (fun μ3 => (R μ3 (.inl (some (.inl (2 : Int32))))))) else (bif Nat.beq 15 e then (wz_wr (qz_al μ1 99 0 0 0 0) (fun μ2 => (R μ2 (.inl (some (.inl (3 : Int32))))))) else False)))))) :
    wz_call qf_574 [.inr (.inr (some (0, 0, 0))), .inl a1, .inl a2, .inl a3, .inr (.inr (some (71, 0, 0)))] μ R := by sorry
noncomputable def gv_575 : wz_W := Classical.choice ⟨fun _ _ _ => False⟩
set_option maxRecDepth 10000 in
theorem fv_575 (a1 : Int32) (a2 : Int32) (a3 : Int32) (μ : qz_M) (R : wz_R)
    (h : (wz_cI qf_191 [.inr (.inr (some (0, 0, 0))), .inl a1, .inl a2, .inl a3] μ (fun μ1 v5 => (wz_wr (qz_wL μ1 (71, 0, 0) 0 v5.toInt64) (fun μ6 => (R μ6 (.inl (some (.inl (0 : Int32)))))))) (fun μ1 e => (bif Nat.beq 24 e then (wz_wr (qz_al μ1 99 0 0 0 0) (fun μ4 => (R μ4 (.inl (some (.inl (1 : Int32))))))) else (bif Nat.beq 13 e then (wz_wr (qz_al μ1 99 0 0 0 0) (fun μ3 => (R μ3 (.inl (some (.inl (2 : Int32))))))) else (bif Nat.beq 15 e then (wz_wr (qz_al μ1 99 0 0 0 0) (fun μ2 => (R μ2 (.inl (some (.inl (3 : Int32))))))) else False)))))) :
    wz_call qf_575 [.inr (.inr (some (0, 0, 0))), .inl a1, .inl a2, .inl a3, .inr (.inr (some (71, 0, 0)))] μ R := by sorry
noncomputable def gv_576 : wz_W := Classical.choice ⟨fun _ _ _ => False⟩
set_option maxRecDepth 10000 in
theorem fv_576 (a1 : Int32) (μ : qz_M) (R : wz_R)
    (h : (wz_cI qf_192 [.inr (.inr (some (0, 0, 0))), .inl a1] μ (fun μ1 v4 => (wz_wr (qz_wL μ1 (71, 0, 0) 0 v4.toInt64) (fun μ5 => (R μ5 (.inl (some (.inl (0 : Int32)))))))) (fun μ1 e => (bif Nat.beq 24 e then (wz_wr (qz_al μ1 99 0 0 0 0) (fun μ3 => (R μ3 (.inl (some (.inl (1 : Int32))))))) else (bif Nat.beq 15 e then (wz_wr (qz_al μ1 99 0 0 0 0) (fun μ2 => (R μ2 (.inl (some (.inl (2 : Int32))))))) else False))))) :
    wz_call qf_576 [.inr (.inr (some (0, 0, 0))), .inl a1, .inr (.inr (some (71, 0, 0)))] μ R := by sorry
noncomputable def gv_577 : wz_W := Classical.choice ⟨fun _ _ _ => False⟩
set_option maxRecDepth 10000 in
theorem fv_577 (a1 : Int32) (a2 : Int32) (a3 : Int32) (a4 : Int32) (a5 : Int32) (μ : qz_M) (R : wz_R)
    (h : (wz_cI qf_193 [.inr (.inr (some (0, 0, 0))), .inl a1, .inl a2, .inl a3, .inl a4, .inl a5] μ (fun μ1 v4 => (wz_wr (qz_wL μ1 (71, 0, 0) 0 v4.toInt64) (fun μ5 => (R μ5 (.inl (some (.inl (0 : Int32)))))))) (fun μ1 e => (bif Nat.beq 13 e then (wz_wr (qz_al μ1 99 0 0 0 0) (fun μ3 => (R μ3 (.inl (some (.inl (1 : Int32))))))) else (bif Nat.beq 15 e then (wz_wr (qz_al μ1 99 0 0 0 0) (fun μ2 => (R μ2 (.inl (some (.inl (2 : Int32))))))) else False))))) :
    wz_call qf_577 [.inr (.inr (some (0, 0, 0))), .inl a1, .inl a2, .inl a3, .inl a4, .inl a5, .inr (.inr (some (71, 0, 0)))] μ R := by sorry
noncomputable def gv_578 : wz_W := Classical.choice ⟨fun _ _ _ => False⟩
set_option maxRecDepth 10000 in
theorem fv_578 (a1 : Int32) (a2 : Int32) (a3 : Int32) (a4 : Int32) (a5 : Int32) (μ : qz_M) (R : wz_R)
    (h : (wz_cI qf_195 [.inr (.inr (some (0, 0, 0))), .inl a1, .inl a2, .inl a3, .inl a4, .inl a5] μ (fun μ1 v5 => (wz_wr (qz_wL μ1 (71, 0, 0) 0 v5.toInt64) (fun μ6 => (R μ6 (.inl (some (.inl (0 : Int32)))))))) (fun μ1 e => (bif Nat.beq 24 e then (wz_wr (qz_al μ1 99 0 0 0 0) (fun μ4 => (R μ4 (.inl (some (.inl (1 : Int32))))))) else (bif Nat.beq 13 e then (wz_wr (qz_al μ1 99 0 0 0 0) (fun μ3 => (R μ3 (.inl (some (.inl (2 : Int32))))))) else (bif Nat.beq 15 e then (wz_wr (qz_al μ1 99 0 0 0 0) (fun μ2 => (R μ2 (.inl (some (.inl (3 : Int32))))))) else False)))))) :
    wz_call qf_578 [.inr (.inr (some (0, 0, 0))), .inl a1, .inl a2, .inl a3, .inl a4, .inl a5, .inr (.inr (some (71, 0, 0)))] μ R := by sorry
noncomputable def gv_579 : wz_W := Classical.choice ⟨fun _ _ _ => False⟩
set_option maxRecDepth 10000 in
theorem fv_579 (a1 : Int32) (μ : qz_M) (R : wz_R)
    (h : (wz_cI qf_197 [.inr (.inr (some (0, 0, 0))), .inl a1] μ (fun μ1 v4 => (wz_wr (qz_wL μ1 (71, 0, 0) 0 v4.toInt64) (fun μ5 => (R μ5 (.inl (some (.inl (0 : Int32)))))))) (fun μ1 e => (bif Nat.beq 13 e then (wz_wr (qz_al μ1 99 0 0 0 0) (fun μ3 => (R μ3 (.inl (some (.inl (1 : Int32))))))) else (bif Nat.beq 15 e then (wz_wr (qz_al μ1 99 0 0 0 0) (fun μ2 => (R μ2 (.inl (some (.inl (2 : Int32))))))) else False))))) :
    wz_call qf_579 [.inr (.inr (some (0, 0, 0))), .inl a1, .inr (.inr (some (71, 0, 0)))] μ R := by sorry
noncomputable def gv_580 : wz_W := Classical.choice ⟨fun _ _ _ => False⟩
set_option maxRecDepth 10000 in
theorem fv_580 (a1 : Int32) (μ : qz_M) (R : wz_R)
    (h : (wz_cI qf_198 [.inr (.inr (some (0, 0, 0))), .inl a1] μ (fun μ1 v4 => (wz_wr (qz_wL μ1 (71, 0, 0) 0 v4.toInt64) (fun μ5 => (R μ5 (.inl (some (.inl (0 : Int32)))))))) (fun μ1 e => (bif Nat.beq 24 e then (wz_wr (qz_al μ1 99 0 0 0 0) (fun μ3 => (R μ3 (.inl (some (.inl (1 : Int32))))))) else (bif Nat.beq 15 e then (wz_wr (qz_al μ1 99 0 0 0 0) (fun μ2 => (R μ2 (.inl (some (.inl (2 : Int32))))))) else False))))) :
    wz_call qf_580 [.inr (.inr (some (0, 0, 0))), .inl a1, .inr (.inr (some (71, 0, 0)))] μ R := by sorry
noncomputable def gv_581 : wz_W := Classical.choice ⟨fun _ _ _ => False⟩
set_option maxRecDepth 10000 in
theorem fv_581 (a1 : Int32) (a2 : Int32) (μ : qz_M) (R : wz_R)
    (h : (wz_cI qf_199 [.inr (.inr (some (0, 0, 0))), .inl a1, .inl a2] μ (fun μ1 v4 => (wz_wr (qz_wL μ1 (71, 0, 0) 0 v4.toInt64) (fun μ5 => (R μ5 (.inl (some (.inl (0 : Int32)))))))) (fun μ1 e => (bif Nat.beq 24 e then (wz_wr (qz_al μ1 99 0 0 0 0) (fun μ3 => (R μ3 (.inl (some (.inl (1 : Int32))))))) else (bif Nat.beq 13 e then (wz_wr (qz_al μ1 99 0 0 0 0) (fun μ2 => (R μ2 (.inl (some (.inl (2 : Int32))))))) else False))))) :
    wz_call qf_581 [.inr (.inr (some (0, 0, 0))), .inl a1, .inl a2, .inr (.inr (some (71, 0, 0)))] μ R := by sorry
noncomputable def gv_582 : wz_W := Classical.choice ⟨fun _ _ _ => False⟩
set_option maxRecDepth 10000 in
theorem fv_582 (a1 : Int32) (a2 : Int32) (μ : qz_M) (R : wz_R)
    (h : (wz_cI qf_200 [.inr (.inr (some (0, 0, 0))), .inl a1, .inl a2] μ (fun μ1 v5 => (wz_wr (qz_wL μ1 (71, 0, 0) 0 v5.toInt64) (fun μ6 => (R μ6 (.inl (some (.inl (0 : Int32)))))))) (fun μ1 e => (bif Nat.beq 24 e then (wz_wr (qz_al μ1 99 0 0 0 0) (fun μ4 => (R μ4 (.inl (some (.inl (1 : Int32))))))) else (bif Nat.beq 13 e then (wz_wr (qz_al μ1 99 0 0 0 0) (fun μ3 => (R μ3 (.inl (some (.inl (2 : Int32))))))) else (bif Nat.beq 15 e then (wz_wr (qz_al μ1 99 0 0 0 0) (fun μ2 => (R μ2 (.inl (some (.inl (3 : Int32))))))) else False)))))) :
    wz_call qf_582 [.inr (.inr (some (0, 0, 0))), .inl a1, .inl a2, .inr (.inr (some (71, 0, 0)))] μ R := by sorry
noncomputable def gv_583 : wz_W := Classical.choice ⟨fun _ _ _ => False⟩
set_option maxRecDepth 10000 in
theorem fv_583 (a1 : Int32) (a2 : Int32) (μ : qz_M) (R : wz_R)
    (h : (wz_cI qf_201 [.inr (.inr (some (0, 0, 0))), .inl a1, .inl a2] μ (fun μ1 v4 => (wz_wr (qz_wL μ1 (71, 0, 0) 0 v4.toInt64) (fun μ5 => (R μ5 (.inl (some (.inl (0 : Int32)))))))) (fun μ1 e => (bif Nat.beq 24 e then (wz_wr (qz_al μ1 99 0 0 0 0) (fun μ3 => (R μ3 (.inl (some (.inl (1 : Int32))))))) else (bif Nat.beq 13 e then (wz_wr (qz_al μ1 99 0 0 0 0) (fun μ2 => (R μ2 (.inl (some (.inl (2 : Int32))))))) else False))))) :
    wz_call qf_583 [.inr (.inr (some (0, 0, 0))), .inl a1, .inl a2, .inr (.inr (some (71, 0, 0)))] μ R := by sorry
noncomputable def gv_584 : wz_W := Classical.choice ⟨fun _ _ _ => False⟩
set_option maxRecDepth 10000 in
theorem fv_584 (a1 : Int32) (a2 : Int32) (μ : qz_M) (R : wz_R)
    (h : (wz_cI qf_202 [.inr (.inr (some (0, 0, 0))), .inl a1, .inl a2] μ (fun μ1 v3 => (bif decide (v3 = 0) then (wz_wr (qz_wL μ1 (71, 0, 0) 0 (0 : Int64)) (fun μ4 => (R μ4 (.inl (some (.inl (0 : Int32))))))) else (wz_wr (qz_wL μ1 (71, 0, 0) 0 (1 : Int64)) (fun μ5 => (R μ5 (.inl (some (.inl (0 : Int32))))))))) (fun μ1 e => (bif Nat.beq 24 e then (wz_wr (qz_al μ1 99 0 0 0 0) (fun μ2 => (R μ2 (.inl (some (.inl (1 : Int32))))))) else False)))) :
    wz_call qf_584 [.inr (.inr (some (0, 0, 0))), .inl a1, .inl a2, .inr (.inr (some (71, 0, 0)))] μ R := by sorry
noncomputable def gv_585 : wz_W := Classical.choice ⟨fun _ _ _ => False⟩
set_option maxRecDepth 10000 in
theorem fv_585 (a1 : Int32) (a2 : Int32) (a3 : Int32) (a4 : Int32) (μ : qz_M) (R : wz_R)
    (h : (wz_cI qf_203 [.inr (.inr (some (0, 0, 0))), .inl a1, .inl a2, .inl a3, .inl a4] μ (fun μ1 v5 => (wz_wr (qz_wL μ1 (71, 0, 0) 0 v5.toInt64) (fun μ6 => (R μ6 (.inl (some (.inl (0 : Int32)))))))) (fun μ1 e => (bif Nat.beq 24 e then (wz_wr (qz_al μ1 99 0 0 0 0) (fun μ4 => (R μ4 (.inl (some (.inl (1 : Int32))))))) else (bif Nat.beq 13 e then (wz_wr (qz_al μ1 99 0 0 0 0) (fun μ3 => (R μ3 (.inl (some (.inl (2 : Int32))))))) else (bif Nat.beq 15 e then (wz_wr (qz_al μ1 99 0 0 0 0) (fun μ2 => (R μ2 (.inl (some (.inl (3 : Int32))))))) else False)))))) :
    wz_call qf_585 [.inr (.inr (some (0, 0, 0))), .inl a1, .inl a2, .inl a3, .inl a4, .inr (.inr (some (71, 0, 0)))] μ R := by sorry
noncomputable def gv_586 : wz_W := Classical.choice ⟨fun _ _ _ => False⟩
set_option maxRecDepth 10000 in
theorem fv_586 (a1 : Int32) (a2 : Int32) (μ : qz_M) (R : wz_R)
    (h : (wz_cI qf_204 [.inr (.inr (some (0, 0, 0))), .inl a1, .inl a2] μ (fun μ1 v4 => (wz_wr (qz_wL μ1 (71, 0, 0) 0 v4.toInt64) (fun μ5 => (R μ5 (.inl (some (.inl (0 : Int32)))))))) (fun μ1 e => (bif Nat.beq 13 e then (wz_wr (qz_al μ1 99 0 0 0 0) (fun μ3 => (R μ3 (.inl (some (.inl (1 : Int32))))))) else (bif Nat.beq 15 e then (wz_wr (qz_al μ1 99 0 0 0 0) (fun μ2 => (R μ2 (.inl (some (.inl (2 : Int32))))))) else False))))) :
    wz_call qf_586 [.inr (.inr (some (0, 0, 0))), .inl a1, .inl a2, .inr (.inr (some (71, 0, 0)))] μ R := by sorry
noncomputable def gv_587 : wz_W := Classical.choice ⟨fun _ _ _ => False⟩
set_option maxRecDepth 10000 in
theorem fv_587 (a1 : Int32) (a2 : Int32) (μ : qz_M) (R : wz_R)
    (h : (wz_cI qf_205 [.inr (.inr (some (0, 0, 0))), .inl a1, .inl a2] μ (fun μ1 v4 => (wz_wr (qz_wL μ1 (71, 0, 0) 0 v4.toInt64) (fun μ5 => (R μ5 (.inl (some (.inl (0 : Int32)))))))) (fun μ1 e => (bif Nat.beq 24 e then (wz_wr (qz_al μ1 99 0 0 0 0) (fun μ3 => (R μ3 (.inl (some (.inl (1 : Int32))))))) else (bif Nat.beq 13 e then (wz_wr (qz_al μ1 99 0 0 0 0) (fun μ2 => (R μ2 (.inl (some (.inl (2 : Int32))))))) else False))))) :
    wz_call qf_587 [.inr (.inr (some (0, 0, 0))), .inl a1, .inl a2, .inr (.inr (some (71, 0, 0)))] μ R := by sorry
noncomputable def gv_588 : wz_W := Classical.choice ⟨fun _ _ _ => False⟩
set_option maxRecDepth 10000 in
theorem fv_588 (a1 : Int32) (a2 : Int32) (μ : qz_M) (R : wz_R)
    (h : (wz_cI qf_206 [.inr (.inr (some (0, 0, 0))), .inl a1, .inl a2] μ (fun μ1 v4 => (wz_wr (qz_wL μ1 (71, 0, 0) 0 v4.toInt64) (fun μ5 => (R μ5 (.inl (some (.inl (0 : Int32)))))))) (fun μ1 e => (bif Nat.beq 24 e then (wz_wr (qz_al μ1 99 0 0 0 0) (fun μ3 => (R μ3 (.inl (some (.inl (1 : Int32))))))) else (bif Nat.beq 13 e then (wz_wr (qz_al μ1 99 0 0 0 0) (fun μ2 => (R μ2 (.inl (some (.inl (2 : Int32))))))) else False))))) :
    wz_call qf_588 [.inr (.inr (some (0, 0, 0))), .inl a1, .inl a2, .inr (.inr (some (71, 0, 0)))] μ R := by sorry
noncomputable def gv_589 : wz_W := Classical.choice ⟨fun _ _ _ => False⟩
set_option maxRecDepth 10000 in
theorem fv_589 (a1 : Int32) (a2 : Int32) (μ : qz_M) (R : wz_R)
    (h : (wz_cI qf_207 [.inr (.inr (some (0, 0, 0))), .inl a1, .inl a2] μ (fun μ1 v4 => (wz_wr (qz_wL μ1 (71, 0, 0) 0 v4.toInt64) (fun μ5 => (R μ5 (.inl (some (.inl (0 : Int32)))))))) (fun μ1 e => (bif Nat.beq 24 e then (wz_wr (qz_al μ1 99 0 0 0 0) (fun μ3 => (R μ3 (.inl (some (.inl (1 : Int32))))))) else (bif Nat.beq 13 e then (wz_wr (qz_al μ1 99 0 0 0 0) (fun μ2 => (R μ2 (.inl (some (.inl (2 : Int32))))))) else False))))) :
    wz_call qf_589 [.inr (.inr (some (0, 0, 0))), .inl a1, .inl a2, .inr (.inr (some (71, 0, 0)))] μ R := by sorry
noncomputable def gv_590 : wz_W := Classical.choice ⟨fun _ _ _ => False⟩
set_option maxRecDepth 10000 in
theorem fv_590 (a1 : Int32) (a2 : Int32) (μ : qz_M) (R : wz_R)
    (h : (wz_cI qf_211 [.inr (.inr (some (0, 0, 0))), .inl a1, .inl a2] μ (fun μ1 v4 => (wz_wr (qz_wL μ1 (71, 0, 0) 0 v4.toInt64) (fun μ5 => (R μ5 (.inl (some (.inl (0 : Int32)))))))) (fun μ1 e => (bif Nat.beq 13 e then (wz_wr (qz_al μ1 99 0 0 0 0) (fun μ3 => (R μ3 (.inl (some (.inl (1 : Int32))))))) else (bif Nat.beq 15 e then (wz_wr (qz_al μ1 99 0 0 0 0) (fun μ2 => (R μ2 (.inl (some (.inl (2 : Int32))))))) else False))))) :
    wz_call qf_590 [.inr (.inr (some (0, 0, 0))), .inl a1, .inl a2, .inr (.inr (some (71, 0, 0)))] μ R := by sorry
noncomputable def gv_591 : wz_W := Classical.choice ⟨fun _ _ _ => False⟩
set_option maxRecDepth 10000 in
theorem fv_591 (a1 : Int32) (μ : qz_M) (R : wz_R)
    (h : (wz_cI qf_212 [.inr (.inr (some (0, 0, 0))), .inl a1] μ (fun μ1 v3 => (bif decide (v3 = 0) then (wz_wr (qz_wL μ1 (71, 0, 0) 0 (0 : Int64)) (fun μ4 => (R μ4 (.inl (some (.inl (0 : Int32))))))) else (wz_wr (qz_wL μ1 (71, 0, 0) 0 (1 : Int64)) (fun μ5 => (R μ5 (.inl (some (.inl (0 : Int32))))))))) (fun μ1 e => (bif Nat.beq 13 e then (wz_wr (qz_al μ1 99 0 0 0 0) (fun μ2 => (R μ2 (.inl (some (.inl (1 : Int32))))))) else False)))) :
    wz_call qf_591 [.inr (.inr (some (0, 0, 0))), .inl a1, .inr (.inr (some (71, 0, 0)))] μ R := by sorry
noncomputable def gv_592 : wz_W := Classical.choice ⟨fun _ _ _ => False⟩
set_option maxRecDepth 10000 in
theorem fv_592 (a1 : Int32) (μ : qz_M) (R : wz_R)
    (h : (wz_cI qf_213 [.inr (.inr (some (0, 0, 0))), .inl a1] μ (fun μ1 v3 => (wz_wr (qz_wL μ1 (71, 0, 0) 0 v3.toInt64) (fun μ4 => (R μ4 (.inl (some (.inl (0 : Int32)))))))) (fun μ1 e => (bif Nat.beq 13 e then (wz_wr (qz_al μ1 99 0 0 0 0) (fun μ2 => (R μ2 (.inl (some (.inl (1 : Int32))))))) else False)))) :
    wz_call qf_592 [.inr (.inr (some (0, 0, 0))), .inl a1, .inr (.inr (some (71, 0, 0)))] μ R := by sorry
noncomputable def gv_593 : wz_W := Classical.choice ⟨fun _ _ _ => False⟩
set_option maxRecDepth 10000 in
theorem fv_593 (a1 : Int32) (a2 : Int32) (μ : qz_M) (R : wz_R)
    (h : (wz_cI qf_214 [.inr (.inr (some (0, 0, 0))), .inl a1, .inl a2] μ (fun μ1 v4 => (wz_wr (qz_wL μ1 (71, 0, 0) 0 v4.toInt64) (fun μ5 => (R μ5 (.inl (some (.inl (0 : Int32)))))))) (fun μ1 e => (bif Nat.beq 24 e then (wz_wr (qz_al μ1 99 0 0 0 0) (fun μ3 => (R μ3 (.inl (some (.inl (1 : Int32))))))) else (bif Nat.beq 13 e then (wz_wr (qz_al μ1 99 0 0 0 0) (fun μ2 => (R μ2 (.inl (some (.inl (2 : Int32))))))) else False))))) :
    wz_call qf_593 [.inr (.inr (some (0, 0, 0))), .inl a1, .inl a2, .inr (.inr (some (71, 0, 0)))] μ R := by sorry
noncomputable def gv_594 : wz_W := Classical.choice ⟨fun _ _ _ => False⟩
set_option maxRecDepth 10000 in
theorem fv_594 (a1 : Int32) (a2 : Int32) (μ : qz_M) (R : wz_R)
    (h : (wz_cI qf_215 [.inr (.inr (some (0, 0, 0))), .inl a1, .inl a2] μ (fun μ1 v4 => (wz_wr (qz_wL μ1 (71, 0, 0) 0 v4.toInt64) (fun μ5 => (R μ5 (.inl (some (.inl (0 : Int32)))))))) (fun μ1 e => (bif Nat.beq 24 e then (wz_wr (qz_al μ1 99 0 0 0 0) (fun μ3 => (R μ3 (.inl (some (.inl (1 : Int32))))))) else (bif Nat.beq 15 e then (wz_wr (qz_al μ1 99 0 0 0 0) (fun μ2 => (R μ2 (.inl (some (.inl (2 : Int32))))))) else False))))) :
    wz_call qf_594 [.inr (.inr (some (0, 0, 0))), .inl a1, .inl a2, .inr (.inr (some (71, 0, 0)))] μ R := by sorry
noncomputable def gv_595 : wz_W := Classical.choice ⟨fun _ _ _ => False⟩
set_option maxRecDepth 10000 in
theorem fv_595 (a1 : Int32) (a2 : Int32) (μ : qz_M) (R : wz_R)
    (h : (wz_cI qf_216 [.inr (.inr (some (0, 0, 0))), .inl a1, .inl a2] μ (fun μ1 v4 => (wz_wr (qz_wL μ1 (71, 0, 0) 0 v4.toInt64) (fun μ5 => (R μ5 (.inl (some (.inl (0 : Int32)))))))) (fun μ1 e => (bif Nat.beq 24 e then (wz_wr (qz_al μ1 99 0 0 0 0) (fun μ3 => (R μ3 (.inl (some (.inl (1 : Int32))))))) else (bif Nat.beq 13 e then (wz_wr (qz_al μ1 99 0 0 0 0) (fun μ2 => (R μ2 (.inl (some (.inl (2 : Int32))))))) else False))))) :
    wz_call qf_595 [.inr (.inr (some (0, 0, 0))), .inl a1, .inl a2, .inr (.inr (some (71, 0, 0)))] μ R := by sorry
noncomputable def gv_596 : wz_W := Classical.choice ⟨fun _ _ _ => False⟩
set_option maxRecDepth 10000 in
theorem fv_596 (a1 : Int32) (a2 : Int32) (a3 : Int32) (μ : qz_M) (R : wz_R)
    (h : (wz_cI qf_217 [.inr (.inr (some (0, 0, 0))), .inl a1, .inl a2, .inl a3] μ (fun μ1 v4 => (wz_wr (qz_wL μ1 (71, 0, 0) 0 v4.toInt64) (fun μ5 => (R μ5 (.inl (some (.inl (0 : Int32)))))))) (fun μ1 e => (bif Nat.beq 24 e then (wz_wr (qz_al μ1 99 0 0 0 0) (fun μ3 => (R μ3 (.inl (some (.inl (1 : Int32))))))) else (bif Nat.beq 13 e then (wz_wr (qz_al μ1 99 0 0 0 0) (fun μ2 => (R μ2 (.inl (some (.inl (2 : Int32))))))) else False))))) :
    wz_call qf_596 [.inr (.inr (some (0, 0, 0))), .inl a1, .inl a2, .inl a3, .inr (.inr (some (71, 0, 0)))] μ R := by sorry
noncomputable def gv_597 : wz_W := Classical.choice ⟨fun _ _ _ => False⟩
set_option maxRecDepth 10000 in
theorem fv_597 (a1 : Int32) (μ : qz_M) (R : wz_R)
    (h : (wz_cI qf_218 [.inr (.inr (some (0, 0, 0))), .inl a1] μ (fun μ1 v3 => (wz_wr (qz_wL μ1 (71, 0, 0) 0 v3.toInt64) (fun μ4 => (R μ4 (.inl (some (.inl (0 : Int32)))))))) (fun μ1 e => (bif Nat.beq 13 e then (wz_wr (qz_al μ1 99 0 0 0 0) (fun μ2 => (R μ2 (.inl (some (.inl (1 : Int32))))))) else False)))) :
    wz_call qf_597 [.inr (.inr (some (0, 0, 0))), .inl a1, .inr (.inr (some (71, 0, 0)))] μ R := by sorry
noncomputable def gv_598 : wz_W := Classical.choice ⟨fun _ _ _ => False⟩
set_option maxRecDepth 10000 in
theorem fv_598 (a1 : Int32) (a2 : Int32) (a3 : Int32) (a4 : Int32) (a5 : Int32) (μ : qz_M) (R : wz_R)
    (h : (wz_cJ qf_219 [.inr (.inr (some (0, 0, 0))), .inl a1, .inl a2, .inl a3, .inl a4, .inl a5] μ (fun μ1 v3 => (wz_wr (qz_wL μ1 (71, 0, 0) 0 v3) (fun μ4 => (R μ4 (.inl (some (.inl (0 : Int32)))))))) (fun μ1 e => (bif Nat.beq 13 e then (wz_wr (qz_al μ1 99 0 0 0 0) (fun μ2 => (R μ2 (.inl (some (.inl (1 : Int32))))))) else False)))) :
    wz_call qf_598 [.inr (.inr (some (0, 0, 0))), .inl a1, .inl a2, .inl a3, .inl a4, .inl a5, .inr (.inr (some (71, 0, 0)))] μ R := by sorry
noncomputable def gv_599 : wz_W := Classical.choice ⟨fun _ _ _ => False⟩
set_option maxRecDepth 10000 in
theorem fv_599 (a1 : Int32) (a2 : Int32) (a3 : Int32) (a4 : Int32) (a5 : Int32) (a6 : Int32) (μ : qz_M) (R : wz_R)
    (h : (wz_cI qf_220 [.inr (.inr (some (0, 0, 0))), .inl a1, .inl a2, .inl a3, .inl a4, .inl a5, .inl a6] μ (fun μ1 v5 => (wz_wr (qz_wL μ1 (71, 0, 0) 0 v5.toInt64) (fun μ6 => (R μ6 (.inl (some (.inl (0 : Int32)))))))) (fun μ1 e => (bif Nat.beq 24 e then (wz_wr (qz_al μ1 99 0 0 0 0) (fun μ4 => (R μ4 (.inl (some (.inl (1 : Int32))))))) else (bif Nat.beq 13 e then (wz_wr (qz_al μ1 99 0 0 0 0) (fun μ3 => (R μ3 (.inl (some (.inl (2 : Int32))))))) else (bif Nat.beq 15 e then (wz_wr (qz_al μ1 99 0 0 0 0) (fun μ2 => (R μ2 (.inl (some (.inl (3 : Int32))))))) else False)))))) :
    wz_call qf_599 [.inr (.inr (some (0, 0, 0))), .inl a1, .inl a2, .inl a3, .inl a4, .inl a5, .inl a6, .inr (.inr (some (71, 0, 0)))] μ R := by sorry
noncomputable def gv_600 : wz_W := Classical.choice ⟨fun _ _ _ => False⟩
set_option maxRecDepth 10000 in
theorem fv_600 (a1 : Int32) (a2 : Int32) (μ : qz_M) (R : wz_R)
    (h : (wz_cI qf_221 [.inr (.inr (some (0, 0, 0))), .inl a1, .inl a2] μ (fun μ1 v4 => (wz_wr (qz_wL μ1 (71, 0, 0) 0 v4.toInt64) (fun μ5 => (R μ5 (.inl (some (.inl (0 : Int32)))))))) (fun μ1 e => (bif Nat.beq 24 e then (wz_wr (qz_al μ1 99 0 0 0 0) (fun μ3 => (R μ3 (.inl (some (.inl (1 : Int32))))))) else (bif Nat.beq 13 e then (wz_wr (qz_al μ1 99 0 0 0 0) (fun μ2 => (R μ2 (.inl (some (.inl (2 : Int32))))))) else False))))) :
    wz_call qf_600 [.inr (.inr (some (0, 0, 0))), .inl a1, .inl a2, .inr (.inr (some (71, 0, 0)))] μ R := by sorry
noncomputable def gv_601 : wz_W := Classical.choice ⟨fun _ _ _ => False⟩
set_option maxRecDepth 10000 in
theorem fv_601 (a1 : Int32) (a2 : Int32) (μ : qz_M) (R : wz_R)
    (h : (wz_cI qf_222 [.inr (.inr (some (0, 0, 0))), .inl a1, .inl a2] μ (fun μ1 v4 => (wz_wr (qz_wL μ1 (71, 0, 0) 0 v4.toInt64) (fun μ5 => (R μ5 (.inl (some (.inl (0 : Int32)))))))) (fun μ1 e => (bif Nat.beq 13 e then (wz_wr (qz_al μ1 99 0 0 0 0) (fun μ3 => (R μ3 (.inl (some (.inl (1 : Int32))))))) else (bif Nat.beq 15 e then (wz_wr (qz_al μ1 99 0 0 0 0) (fun μ2 => (R μ2 (.inl (some (.inl (2 : Int32))))))) else False))))) :
    wz_call qf_601 [.inr (.inr (some (0, 0, 0))), .inl a1, .inl a2, .inr (.inr (some (71, 0, 0)))] μ R := by sorry
noncomputable def gv_602 : wz_W := Classical.choice ⟨fun _ _ _ => False⟩
set_option maxRecDepth 10000 in
theorem fv_602 (a1 : Int32) (a2 : Int32) (μ : qz_M) (R : wz_R)
    (h : (wz_cI qf_223 [.inr (.inr (some (0, 0, 0))), .inl a1, .inl a2] μ (fun μ1 v4 => (wz_wr (qz_wL μ1 (71, 0, 0) 0 v4.toInt64) (fun μ5 => (R μ5 (.inl (some (.inl (0 : Int32)))))))) (fun μ1 e => (bif Nat.beq 24 e then (wz_wr (qz_al μ1 99 0 0 0 0) (fun μ3 => (R μ3 (.inl (some (.inl (1 : Int32))))))) else (bif Nat.beq 13 e then (wz_wr (qz_al μ1 99 0 0 0 0) (fun μ2 => (R μ2 (.inl (some (.inl (2 : Int32))))))) else False))))) :
    wz_call qf_602 [.inr (.inr (some (0, 0, 0))), .inl a1, .inl a2, .inr (.inr (some (71, 0, 0)))] μ R := by sorry
noncomputable def gv_603 : wz_W := Classical.choice ⟨fun _ _ _ => False⟩
set_option maxRecDepth 10000 in
theorem fv_603 (a1 : Int32) (a2 : Int32) (μ : qz_M) (R : wz_R)
    (h : (wz_cI qf_224 [.inr (.inr (some (0, 0, 0))), .inl a1, .inl a2] μ (fun μ1 v4 => (wz_wr (qz_wL μ1 (71, 0, 0) 0 v4.toInt64) (fun μ5 => (R μ5 (.inl (some (.inl (0 : Int32)))))))) (fun μ1 e => (bif Nat.beq 24 e then (wz_wr (qz_al μ1 99 0 0 0 0) (fun μ3 => (R μ3 (.inl (some (.inl (1 : Int32))))))) else (bif Nat.beq 13 e then (wz_wr (qz_al μ1 99 0 0 0 0) (fun μ2 => (R μ2 (.inl (some (.inl (2 : Int32))))))) else False))))) :
    wz_call qf_603 [.inr (.inr (some (0, 0, 0))), .inl a1, .inl a2, .inr (.inr (some (71, 0, 0)))] μ R := by sorry
noncomputable def gv_604 : wz_W := Classical.choice ⟨fun _ _ _ => False⟩
set_option maxRecDepth 10000 in
theorem fv_604 (a1 : Int32) (a2 : Int32) (μ : qz_M) (R : wz_R)
    (h : (wz_cI qf_225 [.inr (.inr (some (0, 0, 0))), .inl a1, .inl a2] μ (fun μ1 v4 => (wz_wr (qz_wL μ1 (71, 0, 0) 0 v4.toInt64) (fun μ5 => (R μ5 (.inl (some (.inl (0 : Int32)))))))) (fun μ1 e => (bif Nat.beq 24 e then (wz_wr (qz_al μ1 99 0 0 0 0) (fun μ3 => (R μ3 (.inl (some (.inl (1 : Int32))))))) else (bif Nat.beq 13 e then (wz_wr (qz_al μ1 99 0 0 0 0) (fun μ2 => (R μ2 (.inl (some (.inl (2 : Int32))))))) else False))))) :
    wz_call qf_604 [.inr (.inr (some (0, 0, 0))), .inl a1, .inl a2, .inr (.inr (some (71, 0, 0)))] μ R := by sorry
noncomputable def gv_605 : wz_W := Classical.choice ⟨fun _ _ _ => False⟩
set_option maxRecDepth 10000 in
theorem fv_605 (a1 : Int32) (a2 : Int32) (μ : qz_M) (R : wz_R)
    (h : (wz_cI qf_226 [.inr (.inr (some (0, 0, 0))), .inl a1, .inl a2] μ (fun μ1 v4 => (wz_wr (qz_wL μ1 (71, 0, 0) 0 v4.toInt64) (fun μ5 => (R μ5 (.inl (some (.inl (0 : Int32)))))))) (fun μ1 e => (bif Nat.beq 24 e then (wz_wr (qz_al μ1 99 0 0 0 0) (fun μ3 => (R μ3 (.inl (some (.inl (1 : Int32))))))) else (bif Nat.beq 13 e then (wz_wr (qz_al μ1 99 0 0 0 0) (fun μ2 => (R μ2 (.inl (some (.inl (2 : Int32))))))) else False))))) :
    wz_call qf_605 [.inr (.inr (some (0, 0, 0))), .inl a1, .inl a2, .inr (.inr (some (71, 0, 0)))] μ R := by sorry
noncomputable def gv_606 : wz_W := Classical.choice ⟨fun _ _ _ => False⟩
set_option maxRecDepth 10000 in
theorem fv_606 (a1 : Int32) (μ : qz_M) (R : wz_R)
    (h : (wz_cI qf_227 [.inr (.inr (some (0, 0, 0))), .inl a1] μ (fun μ1 v4 => (wz_wr (qz_wL μ1 (71, 0, 0) 0 v4.toInt64) (fun μ5 => (R μ5 (.inl (some (.inl (0 : Int32)))))))) (fun μ1 e => (bif Nat.beq 13 e then (wz_wr (qz_al μ1 99 0 0 0 0) (fun μ3 => (R μ3 (.inl (some (.inl (1 : Int32))))))) else (bif Nat.beq 15 e then (wz_wr (qz_al μ1 99 0 0 0 0) (fun μ2 => (R μ2 (.inl (some (.inl (2 : Int32))))))) else False))))) :
    wz_call qf_606 [.inr (.inr (some (0, 0, 0))), .inl a1, .inr (.inr (some (71, 0, 0)))] μ R := by sorry
noncomputable def gv_607 : wz_W := Classical.choice ⟨fun _ _ _ => False⟩
set_option maxRecDepth 10000 in
theorem fv_607 (a1 : Int32) (a2 : Int32) (μ : qz_M) (R : wz_R)
    (h : (wz_cI qf_228 [.inr (.inr (some (0, 0, 0))), .inl a1, .inl a2] μ (fun μ1 v5 => (wz_wr (qz_wL μ1 (71, 0, 0) 0 v5.toInt64) (fun μ6 => (R μ6 (.inl (some (.inl (0 : Int32)))))))) (fun μ1 e => (bif Nat.beq 24 e then (wz_wr (qz_al μ1 99 0 0 0 0) (fun μ4 => (R μ4 (.inl (some (.inl (1 : Int32))))))) else (bif Nat.beq 13 e then (wz_wr (qz_al μ1 99 0 0 0 0) (fun μ3 => (R μ3 (.inl (some (.inl (2 : Int32))))))) else (bif Nat.beq 15 e then (wz_wr (qz_al μ1 99 0 0 0 0) (fun μ2 => (R μ2 (.inl (some (.inl (3 : Int32))))))) else False)))))) :
    wz_call qf_607 [.inr (.inr (some (0, 0, 0))), .inl a1, .inl a2, .inr (.inr (some (71, 0, 0)))] μ R := by sorry
noncomputable def gv_608 : wz_W := Classical.choice ⟨fun _ _ _ => False⟩
set_option maxRecDepth 10000 in
theorem fv_608 (a1 : Int32) (a2 : Int32) (a3 : Int32) (a4 : Int32) (μ : qz_M) (R : wz_R)
    (h : (wz_cI qf_229 [.inr (.inr (some (0, 0, 0))), .inl a1, .inl a2, .inl a3, .inl a4] μ (fun μ1 v3 => (wz_wr (qz_wL μ1 (71, 0, 0) 0 v3.toInt64) (fun μ4 => (R μ4 (.inl (some (.inl (0 : Int32)))))))) (fun μ1 e => (bif Nat.beq 13 e then (wz_wr (qz_al μ1 99 0 0 0 0) (fun μ2 => (R μ2 (.inl (some (.inl (1 : Int32))))))) else False)))) :
    wz_call qf_608 [.inr (.inr (some (0, 0, 0))), .inl a1, .inl a2, .inl a3, .inl a4, .inr (.inr (some (71, 0, 0)))] μ R := by sorry
noncomputable def gv_609 : wz_W := Classical.choice ⟨fun _ _ _ => False⟩
set_option maxRecDepth 10000 in
theorem fv_609 (a1 : Int32) (a2 : Int32) (μ : qz_M) (R : wz_R)
    (h : (wz_cI qf_230 [.inr (.inr (some (0, 0, 0))), .inl a1, .inl a2] μ (fun μ1 v4 => (wz_wr (qz_wL μ1 (71, 0, 0) 0 v4.toInt64) (fun μ5 => (R μ5 (.inl (some (.inl (0 : Int32)))))))) (fun μ1 e => (bif Nat.beq 24 e then (wz_wr (qz_al μ1 99 0 0 0 0) (fun μ3 => (R μ3 (.inl (some (.inl (1 : Int32))))))) else (bif Nat.beq 15 e then (wz_wr (qz_al μ1 99 0 0 0 0) (fun μ2 => (R μ2 (.inl (some (.inl (2 : Int32))))))) else False))))) :
    wz_call qf_609 [.inr (.inr (some (0, 0, 0))), .inl a1, .inl a2, .inr (.inr (some (71, 0, 0)))] μ R := by sorry
noncomputable def gv_610 : wz_W := Classical.choice ⟨fun _ _ _ => False⟩
set_option maxRecDepth 10000 in
theorem fv_610 (a1 : Int32) (a2 : Int32) (μ : qz_M) (R : wz_R)
    (h : (wz_cI qf_231 [.inr (.inr (some (0, 0, 0))), .inl a1, .inl a2] μ (fun μ1 v5 => (wz_wr (qz_wL μ1 (71, 0, 0) 0 v5.toInt64) (fun μ6 => (R μ6 (.inl (some (.inl (0 : Int32)))))))) (fun μ1 e => (bif Nat.beq 24 e then (wz_wr (qz_al μ1 99 0 0 0 0) (fun μ4 => (R μ4 (.inl (some (.inl (1 : Int32))))))) else (bif Nat.beq 13 e then (wz_wr (qz_al μ1 99 0 0 0 0) (fun μ3 => (R μ3 (.inl (some (.inl (2 : Int32))))))) else (bif Nat.beq 15 e then (wz_wr (qz_al μ1 99 0 0 0 0) (fun μ2 => (R μ2 (.inl (some (.inl (3 : Int32))))))) else False)))))) :
    wz_call qf_610 [.inr (.inr (some (0, 0, 0))), .inl a1, .inl a2, .inr (.inr (some (71, 0, 0)))] μ R := by sorry
noncomputable def gv_611 : wz_W := Classical.choice ⟨fun _ _ _ => False⟩
set_option maxRecDepth 10000 in
theorem fv_611 (a1 : Int32) (a2 : Int32) (μ : qz_M) (R : wz_R)
    (h : (wz_cI qf_232 [.inr (.inr (some (0, 0, 0))), .inl a1, .inl a2] μ (fun μ1 v4 => (wz_wr (qz_wL μ1 (71, 0, 0) 0 v4.toInt64) (fun μ5 => (R μ5 (.inl (some (.inl (0 : Int32)))))))) (fun μ1 e => (bif Nat.beq 24 e then (wz_wr (qz_al μ1 99 0 0 0 0) (fun μ3 => (R μ3 (.inl (some (.inl (1 : Int32))))))) else (bif Nat.beq 13 e then (wz_wr (qz_al μ1 99 0 0 0 0) (fun μ2 => (R μ2 (.inl (some (.inl (2 : Int32))))))) else False))))) :
    wz_call qf_611 [.inr (.inr (some (0, 0, 0))), .inl a1, .inl a2, .inr (.inr (some (71, 0, 0)))] μ R := by sorry
noncomputable def gv_612 : wz_W := Classical.choice ⟨fun _ _ _ => False⟩
set_option maxRecDepth 10000 in
theorem fv_612 (a1 : Int32) (a2 : Int32) (a3 : Int32) (a4 : Int32) (μ : qz_M) (R : wz_R)
    (h : (wz_cI qf_233 [.inr (.inr (some (0, 0, 0))), .inl a1, .inl a2, .inl a3, .inl a4] μ (fun μ1 v5 => (wz_wr (qz_wL μ1 (71, 0, 0) 0 v5.toInt64) (fun μ6 => (R μ6 (.inl (some (.inl (0 : Int32)))))))) (fun μ1 e => (bif Nat.beq 24 e then (wz_wr (qz_al μ1 99 0 0 0 0) (fun μ4 => (R μ4 (.inl (some (.inl (1 : Int32))))))) else (bif Nat.beq 13 e then (wz_wr (qz_al μ1 99 0 0 0 0) (fun μ3 => (R μ3 (.inl (some (.inl (2 : Int32))))))) else (bif Nat.beq 15 e then (wz_wr (qz_al μ1 99 0 0 0 0) (fun μ2 => (R μ2 (.inl (some (.inl (3 : Int32))))))) else False)))))) :
    wz_call qf_612 [.inr (.inr (some (0, 0, 0))), .inl a1, .inl a2, .inl a3, .inl a4, .inr (.inr (some (71, 0, 0)))] μ R := by sorry
noncomputable def gv_613 : wz_W := Classical.choice ⟨fun _ _ _ => False⟩
set_option maxRecDepth 10000 in
theorem fv_613 (a1 : Int32) (a2 : Int32) (a3 : Int32) (μ : qz_M) (R : wz_R)
    (h : (wz_cI qf_235 [.inr (.inr (some (0, 0, 0))), .inl a1, .inl a2, .inl a3] μ (fun μ1 v4 => (wz_wr (qz_wL μ1 (71, 0, 0) 0 v4.toInt64) (fun μ5 => (R μ5 (.inl (some (.inl (0 : Int32)))))))) (fun μ1 e => (bif Nat.beq 24 e then (wz_wr (qz_al μ1 99 0 0 0 0) (fun μ3 => (R μ3 (.inl (some (.inl (1 : Int32))))))) else (bif Nat.beq 13 e then (wz_wr (qz_al μ1 99 0 0 0 0) (fun μ2 => (R μ2 (.inl (some (.inl (2 : Int32))))))) else False))))) :
    wz_call qf_613 [.inr (.inr (some (0, 0, 0))), .inl a1, .inl a2, .inl a3, .inr (.inr (some (71, 0, 0)))] μ R := by sorry
noncomputable def gv_614 : wz_W := Classical.choice ⟨fun _ _ _ => False⟩
set_option maxRecDepth 10000 in
theorem fv_614 (a1 : Int32) (a2 : Int32) (a3 : Int32) (μ : qz_M) (R : wz_R)
    (h : (wz_cI qf_236 [.inr (.inr (some (0, 0, 0))), .inl a1, .inl a2, .inl a3] μ (fun μ1 v4 => (wz_wr (qz_wL μ1 (71, 0, 0) 0 v4.toInt64) (fun μ5 => (R μ5 (.inl (some (.inl (0 : Int32)))))))) (fun μ1 e => (bif Nat.beq 13 e then (wz_wr (qz_al μ1 99 0 0 0 0) (fun μ3 => (R μ3 (.inl (some (.inl (1 : Int32))))))) else (bif Nat.beq 15 e then (wz_wr (qz_al μ1 99 0 0 0 0) (fun μ2 => (R μ2 (.inl (some (.inl (2 : Int32))))))) else False))))) :
    wz_call qf_614 [.inr (.inr (some (0, 0, 0))), .inl a1, .inl a2, .inl a3, .inr (.inr (some (71, 0, 0)))] μ R := by sorry
noncomputable def gv_615 : wz_W := Classical.choice ⟨fun _ _ _ => False⟩
set_option maxRecDepth 10000 in
theorem fv_615 (a1 : Int32) (a2 : Int32) (a3 : Int32) (μ : qz_M) (R : wz_R)
    (h : (wz_cI qf_237 [.inr (.inr (some (0, 0, 0))), .inl a1, .inl a2, .inl a3] μ (fun μ1 v4 => (wz_wr (qz_wL μ1 (71, 0, 0) 0 v4.toInt64) (fun μ5 => (R μ5 (.inl (some (.inl (0 : Int32)))))))) (fun μ1 e => (bif Nat.beq 24 e then (wz_wr (qz_al μ1 99 0 0 0 0) (fun μ3 => (R μ3 (.inl (some (.inl (1 : Int32))))))) else (bif Nat.beq 13 e then (wz_wr (qz_al μ1 99 0 0 0 0) (fun μ2 => (R μ2 (.inl (some (.inl (2 : Int32))))))) else False))))) :
    wz_call qf_615 [.inr (.inr (some (0, 0, 0))), .inl a1, .inl a2, .inl a3, .inr (.inr (some (71, 0, 0)))] μ R := by sorry
noncomputable def gv_616 : wz_W := Classical.choice ⟨fun _ _ _ => False⟩
set_option maxRecDepth 10000 in
theorem fv_616 (a1 : Int32) (a2 : Int32) (μ : qz_M) (R : wz_R)
    (h : (wz_cI qf_238 [.inr (.inr (some (0, 0, 0))), .inl a1, .inl a2] μ (fun μ1 v4 => (wz_wr (qz_wL μ1 (71, 0, 0) 0 v4.toInt64) (fun μ5 => (R μ5 (.inl (some (.inl (0 : Int32)))))))) (fun μ1 e => (bif Nat.beq 13 e then (wz_wr (qz_al μ1 99 0 0 0 0) (fun μ3 => (R μ3 (.inl (some (.inl (1 : Int32))))))) else (bif Nat.beq 15 e then (wz_wr (qz_al μ1 99 0 0 0 0) (fun μ2 => (R μ2 (.inl (some (.inl (2 : Int32))))))) else False))))) :
    wz_call qf_616 [.inr (.inr (some (0, 0, 0))), .inl a1, .inl a2, .inr (.inr (some (71, 0, 0)))] μ R := by sorry
noncomputable def gv_617 : wz_W := Classical.choice ⟨fun _ _ _ => False⟩
set_option maxRecDepth 10000 in
theorem fv_617 (a1 : Int32) (a2 : Int32) (μ : qz_M) (R : wz_R)
    (h : (wz_cI qf_239 [.inr (.inr (some (0, 0, 0))), .inl a1, .inl a2] μ (fun μ1 v5 => (wz_wr (qz_wL μ1 (71, 0, 0) 0 v5.toInt64) (fun μ6 => (R μ6 (.inl (some (.inl (0 : Int32)))))))) (fun μ1 e => (bif Nat.beq 24 e then (wz_wr (qz_al μ1 99 0 0 0 0) (fun μ4 => (R μ4 (.inl (some (.inl (1 : Int32))))))) else (bif Nat.beq 13 e then (wz_wr (qz_al μ1 99 0 0 0 0) (fun μ3 => (R μ3 (.inl (some (.inl (2 : Int32))))))) else (bif Nat.beq 15 e then (wz_wr (qz_al μ1 99 0 0 0 0) (fun μ2 => (R μ2 (.inl (some (.inl (3 : Int32))))))) else False)))))) :
    wz_call qf_617 [.inr (.inr (some (0, 0, 0))), .inl a1, .inl a2, .inr (.inr (some (71, 0, 0)))] μ R := by sorry
noncomputable def gv_618 : wz_W := Classical.choice ⟨fun _ _ _ => False⟩
set_option maxRecDepth 10000 in
theorem fv_618 (a1 : Int32) (a2 : Int32) (μ : qz_M) (R : wz_R)
    (h : (wz_cI qf_240 [.inr (.inr (some (0, 0, 0))), .inl a1, .inl a2] μ (fun μ1 v4 => (wz_wr (qz_wL μ1 (71, 0, 0) 0 v4.toInt64) (fun μ5 => (R μ5 (.inl (some (.inl (0 : Int32)))))))) (fun μ1 e => (bif Nat.beq 24 e then (wz_wr (qz_al μ1 99 0 0 0 0) (fun μ3 => (R μ3 (.inl (some (.inl (1 : Int32))))))) else (bif Nat.beq 13 e then (wz_wr (qz_al μ1 99 0 0 0 0) (fun μ2 => (R μ2 (.inl (some (.inl (2 : Int32))))))) else False))))) :
    wz_call qf_618 [.inr (.inr (some (0, 0, 0))), .inl a1, .inl a2, .inr (.inr (some (71, 0, 0)))] μ R := by sorry
noncomputable def gv_619 : wz_W := Classical.choice ⟨fun _ _ _ => False⟩
set_option maxRecDepth 10000 in
theorem fv_619 (a1 : Int32) (a2 : Int32) (a3 : Int32) (a4 : Int32) (a5 : Int32) (μ : qz_M) (R : wz_R)
    (h : (wz_cI qf_241 [.inr (.inr (some (0, 0, 0))), .inl a1, .inl a2, .inl a3, .inl a4, .inl a5] μ (fun μ1 v3 => (wz_wr (qz_wL μ1 (71, 0, 0) 0 v3.toInt64) (fun μ4 => (R μ4 (.inl (some (.inl (0 : Int32)))))))) (fun μ1 e => (bif Nat.beq 13 e then (wz_wr (qz_al μ1 99 0 0 0 0) (fun μ2 => (R μ2 (.inl (some (.inl (1 : Int32))))))) else False)))) :
    wz_call qf_619 [.inr (.inr (some (0, 0, 0))), .inl a1, .inl a2, .inl a3, .inl a4, .inl a5, .inr (.inr (some (71, 0, 0)))] μ R := by sorry
noncomputable def gv_620 : wz_W := Classical.choice ⟨fun _ _ _ => False⟩
set_option maxRecDepth 10000 in
theorem fv_620 (a1 : Int32) (μ : qz_M) (R : wz_R)
    (h : (wz_cI qf_242 [.inr (.inr (some (0, 0, 0))), .inl a1] μ (fun μ1 v4 => (wz_wr (qz_wL μ1 (71, 0, 0) 0 v4.toInt64) (fun μ5 => (R μ5 (.inl (some (.inl (0 : Int32)))))))) (fun μ1 e => (bif Nat.beq 13 e then (wz_wr (qz_al μ1 99 0 0 0 0) (fun μ3 => (R μ3 (.inl (some (.inl (1 : Int32))))))) else (bif Nat.beq 15 e then (wz_wr (qz_al μ1 99 0 0 0 0) (fun μ2 => (R μ2 (.inl (some (.inl (2 : Int32))))))) else False))))) :
    wz_call qf_620 [.inr (.inr (some (0, 0, 0))), .inl a1, .inr (.inr (some (71, 0, 0)))] μ R := by sorry
noncomputable def gv_621 : wz_W := Classical.choice ⟨fun _ _ _ => False⟩
set_option maxRecDepth 10000 in
theorem fv_621 (a1 : Int32) (a2 : Int32) (a3 : Int32) (a4 : Int32) (a5 : Int32) (μ : qz_M) (R : wz_R)
    (h : (wz_cI qf_243 [.inr (.inr (some (0, 0, 0))), .inl a1, .inl a2, .inl a3, .inl a4, .inl a5] μ (fun μ1 v4 => (wz_wr (qz_wL μ1 (71, 0, 0) 0 v4.toInt64) (fun μ5 => (R μ5 (.inl (some (.inl (0 : Int32)))))))) (fun μ1 e => (bif Nat.beq 13 e then (wz_wr (qz_al μ1 99 0 0 0 0) (fun μ3 => (R μ3 (.inl (some (.inl (1 : Int32))))))) else (bif Nat.beq 15 e then (wz_wr (qz_al μ1 99 0 0 0 0) (fun μ2 => (R μ2 (.inl (some (.inl (2 : Int32))))))) else False))))) :
    wz_call qf_621 [.inr (.inr (some (0, 0, 0))), .inl a1, .inl a2, .inl a3, .inl a4, .inl a5, .inr (.inr (some (71, 0, 0)))] μ R := by sorry
noncomputable def gv_622 : wz_W := Classical.choice ⟨fun _ _ _ => False⟩
set_option maxRecDepth 10000 in
theorem fv_622 (a1 : Int32) (μ : qz_M) (R : wz_R)
    (h : (wz_cI qf_244 [.inr (.inr (some (0, 0, 0))), .inl a1] μ (fun μ1 v3 => (wz_wr (qz_wL μ1 (71, 0, 0) 0 v3.toInt64) (fun μ4 => (R μ4 (.inl (some (.inl (0 : Int32)))))))) (fun μ1 e => (bif Nat.beq 13 e then (wz_wr (qz_al μ1 99 0 0 0 0) (fun μ2 => (R μ2 (.inl (some (.inl (1 : Int32))))))) else False)))) :
    wz_call qf_622 [.inr (.inr (some (0, 0, 0))), .inl a1, .inr (.inr (some (71, 0, 0)))] μ R := by sorry
noncomputable def gv_623 : wz_W := Classical.choice ⟨fun _ _ _ => False⟩
set_option maxRecDepth 10000 in
theorem fv_623 (a1 : Int32) (a2 : Int32) (μ : qz_M) (R : wz_R)
    (h : (wz_cI qf_245 [.inr (.inr (some (0, 0, 0))), .inl a1, .inl a2] μ (fun μ1 v4 => (wz_wr (qz_wL μ1 (71, 0, 0) 0 v4.toInt64) (fun μ5 => (R μ5 (.inl (some (.inl (0 : Int32)))))))) (fun μ1 e => (bif Nat.beq 24 e then (wz_wr (qz_al μ1 99 0 0 0 0) (fun μ3 => (R μ3 (.inl (some (.inl (1 : Int32))))))) else (bif Nat.beq 13 e then (wz_wr (qz_al μ1 99 0 0 0 0) (fun μ2 => (R μ2 (.inl (some (.inl (2 : Int32))))))) else False))))) :
    wz_call qf_623 [.inr (.inr (some (0, 0, 0))), .inl a1, .inl a2, .inr (.inr (some (71, 0, 0)))] μ R := by sorry
noncomputable def gv_624 : wz_W := Classical.choice ⟨fun _ _ _ => False⟩
set_option maxRecDepth 10000 in
theorem fv_624 (a1 : Int32) (a2 : Int32) (a3 : Int32) (μ : qz_M) (R : wz_R)
    (h : (wz_cI qf_246 [.inr (.inr (some (0, 0, 0))), .inl a1, .inl a2, .inl a3] μ (fun μ1 v4 => (wz_wr (qz_wL μ1 (71, 0, 0) 0 v4.toInt64) (fun μ5 => (R μ5 (.inl (some (.inl (0 : Int32)))))))) (fun μ1 e => (bif Nat.beq 24 e then (wz_wr (qz_al μ1 99 0 0 0 0) (fun μ3 => (R μ3 (.inl (some (.inl (1 : Int32))))))) else (bif Nat.beq 13 e then (wz_wr (qz_al μ1 99 0 0 0 0) (fun μ2 => (R μ2 (.inl (some (.inl (2 : Int32))))))) else False))))) :
    wz_call qf_624 [.inr (.inr (some (0, 0, 0))), .inl a1, .inl a2, .inl a3, .inr (.inr (some (71, 0, 0)))] μ R := by sorry
noncomputable def gv_625 : wz_W := Classical.choice ⟨fun _ _ _ => False⟩
set_option maxRecDepth 10000 in
theorem fv_625 (a1 : Int32) (a2 : Int32) (μ : qz_M) (R : wz_R)
    (h : (wz_cI qf_247 [.inr (.inr (some (0, 0, 0))), .inl a1, .inl a2] μ (fun μ1 v3 => (wz_wr (qz_wL μ1 (71, 0, 0) 0 v3.toInt64) (fun μ4 => (R μ4 (.inl (some (.inl (0 : Int32)))))))) (fun μ1 e => (bif Nat.beq 13 e then (wz_wr (qz_al μ1 99 0 0 0 0) (fun μ2 => (R μ2 (.inl (some (.inl (1 : Int32))))))) else False)))) :
    wz_call qf_625 [.inr (.inr (some (0, 0, 0))), .inl a1, .inl a2, .inr (.inr (some (71, 0, 0)))] μ R := by sorry
noncomputable def gv_626 : wz_W := Classical.choice ⟨fun _ _ _ => False⟩
set_option maxRecDepth 10000 in
theorem fv_626 (a1 : Int32) (a2 : Int32) (μ : qz_M) (R : wz_R)
    (h : (wz_cI qf_250 [.inr (.inr (some (0, 0, 0))), .inl a1, .inl a2] μ (fun μ1 v4 => (wz_wr (qz_wL μ1 (71, 0, 0) 0 v4.toInt64) (fun μ5 => (R μ5 (.inl (some (.inl (0 : Int32)))))))) (fun μ1 e => (bif Nat.beq 24 e then (wz_wr (qz_al μ1 99 0 0 0 0) (fun μ3 => (R μ3 (.inl (some (.inl (1 : Int32))))))) else (bif Nat.beq 13 e then (wz_wr (qz_al μ1 99 0 0 0 0) (fun μ2 => (R μ2 (.inl (some (.inl (2 : Int32))))))) else False))))) :
    wz_call qf_626 [.inr (.inr (some (0, 0, 0))), .inl a1, .inl a2, .inr (.inr (some (71, 0, 0)))] μ R := by sorry
noncomputable def gv_627 : wz_W := Classical.choice ⟨fun _ _ _ => False⟩
set_option maxRecDepth 10000 in
theorem fv_627 (a1 : Int32) (a2 : Int32) (μ : qz_M) (R : wz_R)
    (h : (wz_cI qf_251 [.inr (.inr (some (0, 0, 0))), .inl a1, .inl a2] μ (fun μ1 v4 => (wz_wr (qz_wL μ1 (71, 0, 0) 0 v4.toInt64) (fun μ5 => (R μ5 (.inl (some (.inl (0 : Int32)))))))) (fun μ1 e => (bif Nat.beq 13 e then (wz_wr (qz_al μ1 99 0 0 0 0) (fun μ3 => (R μ3 (.inl (some (.inl (1 : Int32))))))) else (bif Nat.beq 15 e then (wz_wr (qz_al μ1 99 0 0 0 0) (fun μ2 => (R μ2 (.inl (some (.inl (2 : Int32))))))) else False))))) :
    wz_call qf_627 [.inr (.inr (some (0, 0, 0))), .inl a1, .inl a2, .inr (.inr (some (71, 0, 0)))] μ R := by sorry
noncomputable def gv_628 : wz_W := Classical.choice ⟨fun _ _ _ => False⟩
set_option maxRecDepth 10000 in
theorem fv_628  (μ : qz_M) (R : wz_R)
    (h : (wz_cI qf_252 [.inr (.inr (some (0, 0, 0)))] μ (fun μ1 v3 => (wz_wr (qz_wL μ1 (71, 0, 0) 0 v3.toInt64) (fun μ4 => (R μ4 (.inl (some (.inl (0 : Int32)))))))) (fun μ1 e => (bif Nat.beq 15 e then (wz_wr (qz_al μ1 99 0 0 0 0) (fun μ2 => (R μ2 (.inl (some (.inl (1 : Int32))))))) else False)))) :
    wz_call qf_628 [.inr (.inr (some (0, 0, 0))), .inr (.inr (some (71, 0, 0)))] μ R := by sorry
noncomputable def gv_629 : wz_W := Classical.choice ⟨fun _ _ _ => False⟩
set_option maxRecDepth 10000 in
theorem fv_629 (a1 : Int32) (a2 : Int32) (a3 : Int32) (μ : qz_M) (R : wz_R)
    (h : (wz_cI qf_253 [.inr (.inr (some (0, 0, 0))), .inl a1, .inl a2, .inl a3] μ (fun μ1 v4 => (wz_wr (qz_wL μ1 (71, 0, 0) 0 v4.toInt64) (fun μ5 => (R μ5 (.inl (some (.inl (0 : Int32)))))))) (fun μ1 e => (bif Nat.beq 24 e then (wz_wr (qz_al μ1 99 0 0 0 0) (fun μ3 => (R μ3 (.inl (some (.inl (1 : Int32))))))) else (bif Nat.beq 13 e then (wz_wr (qz_al μ1 99 0 0 0 0) (fun μ2 => (R μ2 (.inl (some (.inl (2 : Int32))))))) else False))))) :
    wz_call qf_629 [.inr (.inr (some (0, 0, 0))), .inl a1, .inl a2, .inl a3, .inr (.inr (some (71, 0, 0)))] μ R := by sorry
noncomputable def gv_630 : wz_W := Classical.choice ⟨fun _ _ _ => False⟩
set_option maxRecDepth 10000 in
theorem fv_630 (a1 : Int32) (μ : qz_M) (R : wz_R)
    (h : (wz_cI qf_254 [.inr (.inr (some (0, 0, 0))), .inl a1] μ (fun μ1 v4 => (wz_wr (qz_wL μ1 (71, 0, 0) 0 v4.toInt64) (fun μ5 => (R μ5 (.inl (some (.inl (0 : Int32)))))))) (fun μ1 e => (bif Nat.beq 24 e then (wz_wr (qz_al μ1 99 0 0 0 0) (fun μ3 => (R μ3 (.inl (some (.inl (1 : Int32))))))) else (bif Nat.beq 15 e then (wz_wr (qz_al μ1 99 0 0 0 0) (fun μ2 => (R μ2 (.inl (some (.inl (2 : Int32))))))) else False))))) :
    wz_call qf_630 [.inr (.inr (some (0, 0, 0))), .inl a1, .inr (.inr (some (71, 0, 0)))] μ R := by sorry
noncomputable def gv_631 : wz_W := Classical.choice ⟨fun _ _ _ => False⟩
set_option maxRecDepth 10000 in
theorem fv_631 (a1 : Int32) (a2 : Int32) (μ : qz_M) (R : wz_R)
    (h : (wz_cI qf_255 [.inr (.inr (some (0, 0, 0))), .inl a1, .inl a2] μ (fun μ1 v4 => (wz_wr (qz_wL μ1 (71, 0, 0) 0 v4.toInt64) (fun μ5 => (R μ5 (.inl (some (.inl (0 : Int32)))))))) (fun μ1 e => (bif Nat.beq 24 e then (wz_wr (qz_al μ1 99 0 0 0 0) (fun μ3 => (R μ3 (.inl (some (.inl (1 : Int32))))))) else (bif Nat.beq 13 e then (wz_wr (qz_al μ1 99 0 0 0 0) (fun μ2 => (R μ2 (.inl (some (.inl (2 : Int32))))))) else False))))) :
    wz_call qf_631 [.inr (.inr (some (0, 0, 0))), .inl a1, .inl a2, .inr (.inr (some (71, 0, 0)))] μ R := by sorry
set_option maxRecDepth 10000 in
theorem fx_290 (sn : Nat) (μ : qz_M) (R : wz_R)
    (h : (wz_loop qb_290_1 65536 (wz_sk gc_290_2 wz_k0 R) R ([some (.inr (.inr (some (200, sn, 0)))), some (.inl (0 : Int32))], [], μ))) :
    wz_call qf_290 [.inr (.inr (some (200, sn, 0)))] μ R := by sorry
set_option maxRecDepth 10000 in
theorem fxc_290_2 (x0 : Nat) (μ : qz_M) (k : wz_K) (R : wz_R) (L : qz_L) (hL : qz_fg [true, false] L = [some (.inr (.inr (some (200, x0, 0)))), none])
    (h : (bif Nat.beq (qz_tag μ (200, x0, 0)) 5 && true then (bif Nat.beq (qz_tag μ (200, x0, 0)) 5 && true then (wz_rk (qz_rm μ 200 x0 0 0) (fun r1 => (bif Nat.beq (qz_tag μ r1) 50 then (bif pz_out (100 : Int32) (qz_len μ r1) then False else (wz_wr (qz_wI μ r1 100 (0 : Int32)) (fun μ2 => (bif Nat.beq (qz_tag μ2 (200, x0, 0)) 5 && true then (wz_cV qf_462 [.inr (.inr (some (200, x0, 0)))] μ2 (fun μ3 => (bif Nat.beq (qz_tag μ3 (200, x0, 0)) 5 && true then (bif Nat.beq (qz_tag μ3 (200, x0, 0)) 5 && true then (wz_rk (qz_rm μ3 200 x0 0 0) (fun r4 => (bif Nat.beq (qz_tag μ3 r4) 50 then (bif pz_out (1400 : Int32) (qz_len μ3 r4) then False else (wz_wr (qz_wI μ3 r4 1400 (0 : Int32)) (fun μ5 => (bif Nat.beq (qz_tag μ5 (200, x0, 0)) 5 && true then (wz_rk (qz_rm μ5 200 x0 0 0) (fun r6 => (bif Nat.beq (qz_tag μ5 r6) 50 then (bif pz_out (1401 : Int32) (qz_len μ5 r6) then False else (wz_wr (qz_wI μ5 r6 1401 (0 : Int32)) (fun μ7 => (bif Nat.beq (qz_tag μ7 (200, x0, 0)) 5 && true then (wz_cV qf_509 [.inr (.inr (some (200, x0, 0)))] μ7 (fun μ8 => (bif Nat.beq (qz_tag μ8 (200, x0, 0)) 5 && true then (bif Nat.beq (qz_tag μ8 (200, x0, 0)) 5 && true then (wz_rk (qz_rm μ8 200 x0 0 0) (fun r9 => (bif Nat.beq (qz_tag μ8 r9) 50 then (bif pz_out (3500 : Int32) (qz_len μ8 r9) then False else (wz_wr (qz_wI μ8 r9 3500 (0 : Int32)) (fun μ10 => (bif Nat.beq (qz_tag μ10 (200, x0, 0)) 5 && true then (bif Nat.beq (qz_tag μ10 (200, x0, 0)) 5 && true then (wz_rk (qz_rm μ10 200 x0 0 0) (fun r11 => (bif Nat.beq (qz_tag μ10 r11) 50 then (bif pz_out (3810 : Int32) (qz_len μ10 r11) then False else (wz_wr (qz_wI μ10 r11 3810 (50 : Int32)) (fun μ12 => (bif Nat.beq (qz_tag μ12 (200, x0, 0)) 5 && true then (wz_rk (qz_rm μ12 200 x0 0 0) (fun r13 => (bif Nat.beq (qz_tag μ12 r13) 50 then (bif pz_out (3811 : Int32) (qz_len μ12 r13) then False else (wz_wr (qz_wI μ12 r13 3811 (120 : Int32)) (fun μ14 => (bif Nat.beq (qz_tag μ14 (200, x0, 0)) 5 && true then (wz_rk (qz_rm μ14 200 x0 0 0) (fun r15 => (bif Nat.beq (qz_tag μ14 r15) 50 then (bif pz_out (3812 : Int32) (qz_len μ14 r15) then False else (wz_wr (qz_wI μ14 r15 3812 (400 : Int32)) (fun μ16 => (bif Nat.beq (qz_tag μ16 (200, x0, 0)) 5 && true then (wz_rk (qz_rm μ16 200 x0 0 0) (fun r17 => (bif Nat.beq (qz_tag μ16 r17) 50 then (bif pz_out (3813 : Int32) (qz_len μ16 r17) then False else (wz_wr (qz_wI μ16 r17 3813 (2500 : Int32)) (fun μ18 => (R μ18 (.inl none))))) else False))) else False)))) else False))) else False)))) else False))) else False)))) else False))) else False) else False)))) else False))) else False) else False)) (fun μ8 e => (R μ8 (.inr e)))) else False)))) else False))) else False)))) else False))) else False) else False)) (fun μ3 e => (R μ3 (.inr e)))) else False)))) else False))) else False) else False)) :
    gc_290_2 k R (L, [], μ) := by sorry
set_option maxRecDepth 10000 in
theorem fxb_290_1 (x0 : Nat) (x1 : Int32) (μ : qz_M) (k : wz_K) (R : wz_R) (L : qz_L) (hL : qz_fg [true, true] L = [some (.inr (.inr (some (200, x0, 0)))), some (.inl x1)])
    (h : (bif decide ((4400 : Int32) ≤ x1) then (k 0 ([some (.inr (.inr (some (200, x0, 0)))), some (.inl x1)], [], μ)) else (bif Nat.beq (qz_tag μ (200, x0, 0)) 5 && true then (wz_rk (qz_rm μ 200 x0 0 0) (fun r1 => (bif Nat.beq (qz_tag μ r1) 50 then (bif pz_out x1 (qz_len μ r1) then False else (wz_wr (qz_wI μ r1 x1.toNatClampNeg (0 : Int32)) (fun μ2 => (k 1 ([some (.inr (.inr (some (200, x0, 0)))), some (.inl (x1 + (1 : Int32)))], [], μ2))))) else False))) else False))) :
    gb_290_1 k R (L, [], μ) := by sorry
set_option maxRecDepth 10000 in
theorem fx_462 (sn : Nat) (μ : qz_M) (R : wz_R)
    (h : (wz_loop qb_462_1 65536 (wz_sk gc_462_2 wz_k0 R) R ([some (.inr (.inr (some (200, sn, 0)))), some (.inl (0 : Int32))], [], μ))) :
    wz_call qf_462 [.inr (.inr (some (200, sn, 0)))] μ R := by sorry
set_option maxRecDepth 10000 in
theorem fxc_462_2  (μ : qz_M) (k : wz_K) (R : wz_R) (L : qz_L) (hL : qz_fg [false, false] L = [none, none])
    (h : (R μ (.inl none))) :
    gc_462_2 k R (L, [], μ) := by sorry
set_option maxRecDepth 10000 in
theorem fxb_462_1 (x0 : Nat) (x1 : Int32) (μ : qz_M) (k : wz_K) (R : wz_R) (L : qz_L) (hL : qz_fg [true, true] L = [some (.inr (.inr (some (200, x0, 0)))), some (.inl x1)])
    (h : (bif decide ((28 : Int32) ≤ x1) then (k 0 ([some (.inr (.inr (some (200, x0, 0)))), some (.inl x1)], [], μ)) else (bif Nat.beq (qz_tag μ (200, x0, 0)) 5 && true then (wz_rk (qz_rm μ 200 x0 0 0) (fun r1 => (bif Nat.beq (qz_tag μ r1) 50 then (bif pz_out ((1300 : Int32) + x1) (qz_len μ r1) then False else (wz_wr (qz_wI μ r1 ((1300 : Int32) + x1).toNatClampNeg (18 : Int32)) (fun μ2 => (k 1 ([some (.inr (.inr (some (200, x0, 0)))), some (.inl (x1 + (1 : Int32)))], [], μ2))))) else False))) else False))) :
    gb_462_1 k R (L, [], μ) := by sorry
set_option maxRecDepth 10000 in
theorem fx_509 (sn : Nat) (μ : qz_M) (R : wz_R)
    (h : (wz_loop qb_509_1 65536 (wz_sk gc_509_2 wz_k0 R) R ([some (.inr (.inr (some (200, sn, 0)))), some (.inl (0 : Int32))], [], μ))) :
    wz_call qf_509 [.inr (.inr (some (200, sn, 0)))] μ R := by sorry
set_option maxRecDepth 10000 in
theorem fxc_509_2 (x0 : Nat) (μ : qz_M) (k : wz_K) (R : wz_R) (L : qz_L) (hL : qz_fg [true, false] L = [some (.inr (.inr (some (200, x0, 0)))), none])
    (h : (bif Nat.beq (qz_tag μ (200, x0, 0)) 5 && true then (wz_rk (qz_rm μ 200 x0 0 0) (fun r1 => (bif Nat.beq (qz_tag μ r1) 50 then (bif pz_out (3201 : Int32) (qz_len μ r1) then False else (wz_wr (qz_wI μ r1 3201 (2 : Int32)) (fun μ2 => (R μ2 (.inl none))))) else False))) else False)) :
    gc_509_2 k R (L, [], μ) := by sorry
set_option maxRecDepth 10000 in
theorem fxb_509_1 (x0 : Nat) (x1 : Int32) (μ : qz_M) (k : wz_K) (R : wz_R) (L : qz_L) (hL : qz_fg [true, true] L = [some (.inr (.inr (some (200, x0, 0)))), some (.inl x1)])
    (h : (bif decide ((36 : Int32) ≤ x1) then (k 0 ([some (.inr (.inr (some (200, x0, 0)))), some (.inl x1)], [], μ)) else (bif Nat.beq (qz_tag μ (200, x0, 0)) 5 && true then (wz_rk (qz_rm μ 200 x0 0 0) (fun r1 => (bif Nat.beq (qz_tag μ r1) 50 then (bif pz_out ((3210 : Int32) + x1) (qz_len μ r1) then False else (wz_wr (qz_wI μ r1 ((3210 : Int32) + x1).toNatClampNeg (3 : Int32)) (fun μ2 => (k 1 ([some (.inr (.inr (some (200, x0, 0)))), some (.inl (x1 + (1 : Int32)))], [], μ2))))) else False))) else False))) :
    gb_509_1 k R (L, [], μ) := by sorry
