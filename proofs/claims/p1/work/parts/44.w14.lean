/-! what the methods ask, 15 -/
/- X12 pAt -/
/- X12 pal -/
/- X12 isThere -/
/- X12 bFits -/
/- X12 bLayFilling -/
set_option maxRecDepth 10000 in
set_option maxHeartbeats 200000 in
theorem fw_274  (μ : qz_M) (R : wz_R)
    (h : (wz_loop qb_274_1 65536 (wz_sk gc_274_6 wz_k0 R) R ([some (.inr (.inr (some (1, 0, 0)))), some (.inl (0 : Int32)), none], [], μ))) :
    wz_call qf_274 [.inr (.inr (some (1, 0, 0)))] μ R := wz_mt9 (L := [some (.inr (.inr (some (1, 0, 0)))), none, none]) sw_274 rfl h
set_option maxRecDepth 10000 in
set_option maxHeartbeats 200000 in
theorem fc_274_6  (μ : qz_M) (k : wz_K) (R : wz_R) (L : qz_L) (hL : qz_fg [true, false, false] L = [some (.inr (.inr (some (1, 0, 0)))), none, none])
    (h : (wz_loop qb_274_4 65536 (wz_sk gc_274_5 k R) R ([some (.inr (.inr (some (1, 0, 0)))), some (.inl (0 : Int32)), none], [], μ))) :
    gc_274_6 k R (L, [], μ) := wz_fgd hL h
set_option maxRecDepth 10000 in
set_option maxHeartbeats 200000 in
theorem fb_274_1 (x1 : Int32) (μ : qz_M) (k : wz_K) (R : wz_R) (L : qz_L) (hL : qz_fg [true, true, false] L = [some (.inr (.inr (some (1, 0, 0)))), some (.inl x1), none])
    (h : (bif decide ((qz_im μ 2 0 0 102) ≤ x1) then (k 0 ([some (.inr (.inr (some (1, 0, 0)))), some (.inl x1), none], [], μ)) else (bif pz_out (((200 : Int32) + ((20 : Int32) * x1)) + (10 : Int32)) 4400 then False else (bif decide ((1 : Int32) < (qz_im μ 2 0 0 (((200 : Int32) + ((20 : Int32) * x1)) + (10 : Int32)).toNatClampNeg)) then (bif pz_out x1 48 then False else (wz_wr (qz_wI μ (84, 0, 0) x1.toNatClampNeg (0 : Int32)) (fun μ1 => (k 1 ([some (.inr (.inr (some (1, 0, 0)))), some (.inl (x1 + (1 : Int32))), none], [], μ1))))) else (bif pz_out (((200 : Int32) + ((20 : Int32) * x1)) + (4 : Int32)) 4400 then False else (bif pz_out x1 48 then False else (wz_wr (qz_wI μ (84, 0, 0) x1.toNatClampNeg (qz_im μ 2 0 0 (((200 : Int32) + ((20 : Int32) * x1)) + (4 : Int32)).toNatClampNeg)) (fun μ2 => (k 1 ([some (.inr (.inr (some (1, 0, 0)))), some (.inl (x1 + (1 : Int32))), none], [], μ2)))))))))) :
    gb_274_1 k R (L, [], μ) := wz_fgd hL h
set_option maxRecDepth 10000 in
set_option maxHeartbeats 200000 in
theorem fc_274_5  (μ : qz_M) (k : wz_K) (R : wz_R) (L : qz_L) (hL : qz_fg [false, false, false] L = [none, none, none])
    (h : (R μ (.inl none))) :
    gc_274_5 k R (L, [], μ) := wz_fgd hL h
set_option maxRecDepth 10000 in
set_option maxHeartbeats 200000 in
theorem fb_274_4 (x1 : Int32) (μ : qz_M) (k : wz_K) (R : wz_R) (L : qz_L) (hL : qz_fg [true, true, false] L = [some (.inr (.inr (some (1, 0, 0)))), some (.inl x1), none])
    (h : (bif decide ((qz_im μ 2 0 0 1401) ≤ x1) then (k 0 ([some (.inr (.inr (some (1, 0, 0)))), some (.inl x1), none], [], μ)) else (bif pz_out x1 24 then False else (wz_wr (qz_wI μ (89, 0, 0) x1.toNatClampNeg (0 : Int32)) (fun μ1 => (wz_cI qf_260 [.inr (.inr (some (1, 0, 0))), .inl x1] μ1 (fun μ2 v3 => (bif (!decide (v3 = 0)) then (bif pz_out x1 24 then False else (wz_wr (qz_wI μ2 (90, 0, 0) x1.toNatClampNeg (0 : Int32)) (fun μ4 => (wz_loop qb_274_2 65536 (wz_sk gc_274_3 (wz_kb k) R) R ([some (.inr (.inr (some (1, 0, 0)))), some (.inl x1), some (.inl (0 : Int32))], [], μ4))))) else (bif pz_out x1 24 then False else (wz_wr (qz_wI μ2 (90, 0, 0) x1.toNatClampNeg (1 : Int32)) (fun μ5 => (wz_loop qb_274_2 65536 (wz_sk gc_274_3 (wz_kb k) R) R ([some (.inr (.inr (some (1, 0, 0)))), some (.inl x1), some (.inl (0 : Int32))], [], μ5))))))) (fun μ2 e => (R μ2 (.inr e))))))))) :
    gb_274_4 k R (L, [], μ) := wz_fgd hL h
/- X12 bNextToServe -/
set_option maxRecDepth 10000 in
set_option maxHeartbeats 200000 in
theorem fw_277  (μ : qz_M) (R : wz_R)
    (h : (wz_loop qb_277_1 65536 (wz_sk gc_277_2 wz_k0 R) R ([some (.inr (.inr (some (1, 0, 0)))), some (.inl (-1 : Int32)), some (.inl (0 : Int32))], [], μ))) :
    wz_call qf_277 [.inr (.inr (some (1, 0, 0)))] μ R := wz_mt9 (L := [some (.inr (.inr (some (1, 0, 0)))), none, none]) sw_277 rfl h
set_option maxRecDepth 10000 in
set_option maxHeartbeats 200000 in
theorem fc_277_2 (x1 : Int32) (μ : qz_M) (k : wz_K) (R : wz_R) (L : qz_L) (hL : qz_fg [false, true, false] L = [none, some (.inl x1), none])
    (h : (R μ (.inl (some (.inl x1))))) :
    gc_277_2 k R (L, [], μ) := wz_fgd hL h
set_option maxRecDepth 10000 in
set_option maxHeartbeats 200000 in
theorem fb_277_1 (x1 : Int32) (x2 : Int32) (μ : qz_M) (k : wz_K) (R : wz_R) (L : qz_L) (hL : qz_fg [true, true, true] L = [some (.inr (.inr (some (1, 0, 0)))), some (.inl x1), some (.inl x2)])
    (h : (bif decide ((qz_im μ 2 0 0 1401) ≤ x2) then (k 0 ([some (.inr (.inr (some (1, 0, 0)))), some (.inl x1), some (.inl x2)], [], μ)) else (bif pz_out x2 24 then False else (bif (!decide ((qz_im μ 90 0 0 x2.toNatClampNeg) = 0)) then (k 1 ([some (.inr (.inr (some (1, 0, 0)))), some (.inl x1), some (.inl (x2 + (1 : Int32)))], [], μ)) else (bif decide (x1 = (-1 : Int32)) then (k 1 ([some (.inr (.inr (some (1, 0, 0)))), some (.inl x2), some (.inl (x2 + (1 : Int32)))], [], μ)) else (bif pz_out (((1510 : Int32) + ((12 : Int32) * x2)) + (4 : Int32)) 4400 then False else (bif pz_out (((1510 : Int32) + ((12 : Int32) * x1)) + (4 : Int32)) 4400 then False else (bif decide ((qz_im μ 2 0 0 (((1510 : Int32) + ((12 : Int32) * x2)) + (4 : Int32)).toNatClampNeg) ≤ (qz_im μ 2 0 0 (((1510 : Int32) + ((12 : Int32) * x1)) + (4 : Int32)).toNatClampNeg)) then (k 1 ([some (.inr (.inr (some (1, 0, 0)))), some (.inl x1), some (.inl (x2 + (1 : Int32)))], [], μ)) else (k 1 ([some (.inr (.inr (some (1, 0, 0)))), some (.inl x2), some (.inl (x2 + (1 : Int32)))], [], μ)))))))))) :
    gb_277_1 k R (L, [], μ) := wz_fgd hL h
/- X12 bShifts -/
/- X12 bGetsOne -/
/- X12 bFill -/
set_option maxRecDepth 10000 in
set_option maxHeartbeats 200000 in
theorem fw_268  (μ : qz_M) (R : wz_R)
    (h : (wz_cV qf_274 [.inr (.inr (some (1, 0, 0)))] μ (fun μ1 => (wz_cI qf_277 [.inr (.inr (some (1, 0, 0)))] μ1 (fun μ2 v3 => (wz_loop qb_268_3 65536 (wz_sk gc_268_4 wz_k0 R) R ([some (.inr (.inr (some (1, 0, 0)))), some (.inl v3)], [], μ2))) (fun μ2 e => (R μ2 (.inr e))))) (fun μ1 e => (R μ1 (.inr e))))) :
    wz_call qf_268 [.inr (.inr (some (1, 0, 0)))] μ R := wz_mt9 (L := [some (.inr (.inr (some (1, 0, 0)))), none]) sw_268 rfl h
set_option maxRecDepth 10000 in
set_option maxHeartbeats 200000 in
theorem fc_268_4  (μ : qz_M) (k : wz_K) (R : wz_R) (L : qz_L) (hL : qz_fg [false, false] L = [none, none])
    (h : (R μ (.inl none))) :
    gc_268_4 k R (L, [], μ) := wz_fgd hL h
set_option maxRecDepth 10000 in
set_option maxHeartbeats 200000 in
theorem fb_268_3 (x1 : Int32) (μ : qz_M) (k : wz_K) (R : wz_R) (L : qz_L) (hL : qz_fg [true, true] L = [some (.inr (.inr (some (1, 0, 0)))), some (.inl x1)])
    (h : (bif decide (x1 = (-1 : Int32)) then (k 0 ([some (.inr (.inr (some (1, 0, 0)))), some (.inl x1)], [], μ)) else (bif pz_out x1 24 then False else (wz_wr (qz_wI μ (90, 0, 0) x1.toNatClampNeg (1 : Int32)) (fun μ1 => (wz_loop qb_268_1 65536 (wz_sk gc_268_2 (wz_kb k) R) R ([some (.inr (.inr (some (1, 0, 0)))), some (.inl x1)], [], μ1))))))) :
    gb_268_3 k R (L, [], μ) := wz_fgd hL h
/- X12 bGiven -/
/- X12 bLost -/
-- fw_276 is taken out
/- X12 bOpenBills -/
/- X12 bOrders -/
/- X12 today -/
/- X12 bOverdue -/
/- X12 draw -/
/- X12 xKeep -/
set_option maxRecDepth 10000 in
set_option maxHeartbeats 200000 in
theorem fw_557 (a1 : Int32) (μ : qz_M) (R : wz_R)
    (h : (bif (!decide ((qz_im μ 1 0 0 34) = (8 : Int32))) then (gc_557_5 wz_k0 R ([some (.inr (.inr (some (1, 0, 0)))), some (.inl a1), none], [], μ)) else (wz_loop qb_557_1 65536 (wz_sk gc_557_2 (wz_kb (wz_sk gc_557_5 wz_k0 R)) R) R ([some (.inr (.inr (some (1, 0, 0)))), some (.inl a1), some (.inl (0 : Int32))], [], μ)))) :
    wz_call qf_557 [.inr (.inr (some (1, 0, 0))), .inl a1] μ R := wz_mt9 (L := [some (.inr (.inr (some (1, 0, 0)))), some (.inl a1), none]) sw_557 rfl h
set_option maxRecDepth 10000 in
set_option maxHeartbeats 200000 in
theorem fc_557_5 (x1 : Int32) (μ : qz_M) (k : wz_K) (R : wz_R) (L : qz_L) (hL : qz_fg [true, true, false] L = [some (.inr (.inr (some (1, 0, 0)))), some (.inl x1), none])
    (h : (wz_loop qb_557_3 65536 (wz_sk gc_557_4 k R) R ([some (.inr (.inr (some (1, 0, 0)))), some (.inl x1), some (.inl (0 : Int32))], [], μ))) :
    gc_557_5 k R (L, [], μ) := wz_fgd hL h
-- fb_557_1 is taken out
set_option maxRecDepth 10000 in
set_option maxHeartbeats 200000 in
theorem fc_557_4  (μ : qz_M) (k : wz_K) (R : wz_R) (L : qz_L) (hL : qz_fg [true, false, false] L = [some (.inr (.inr (some (1, 0, 0)))), none, none])
    (h : (wz_wr (qz_wI μ (1, 0, 0) 34 ((qz_im μ 1 0 0 34) + (1 : Int32))) (fun μ1 => (R μ1 (.inl none))))) :
    gc_557_4 k R (L, [], μ) := wz_fgd hL h
set_option maxRecDepth 10000 in
set_option maxHeartbeats 200000 in
theorem fb_557_3 (x1 : Int32) (x2 : Int32) (μ : qz_M) (k : wz_K) (R : wz_R) (L : qz_L) (hL : qz_fg [true, true, true] L = [some (.inr (.inr (some (1, 0, 0)))), some (.inl x1), some (.inl x2)])
    (h : (bif decide ((4400 : Int32) ≤ x2) then (k 0 ([some (.inr (.inr (some (1, 0, 0)))), some (.inl x1), some (.inl x2)], [], μ)) else (bif (!decide (x1 = (-1 : Int32))) then (bif pz_out (((4400 : Int32) * x1) + x2) 8800 then False else (bif pz_out (((qz_im μ 1 0 0 34) * (4400 : Int32)) + x2) 35200 then False else (wz_wr (qz_wI μ (101, 0, 0) (((qz_im μ 1 0 0 34) * (4400 : Int32)) + x2).toNatClampNeg (qz_im μ 81 0 0 (((4400 : Int32) * x1) + x2).toNatClampNeg)) (fun μ1 => (k 1 ([some (.inr (.inr (some (1, 0, 0)))), some (.inl x1), some (.inl (x2 + (1 : Int32)))], [], μ1)))))) else (bif pz_out x2 4400 then False else (bif pz_out (((qz_im μ 1 0 0 34) * (4400 : Int32)) + x2) 35200 then False else (wz_wr (qz_wI μ (101, 0, 0) (((qz_im μ 1 0 0 34) * (4400 : Int32)) + x2).toNatClampNeg (qz_im μ 2 0 0 x2.toNatClampNeg)) (fun μ2 => (k 1 ([some (.inr (.inr (some (1, 0, 0)))), some (.inl x1), some (.inl (x2 + (1 : Int32)))], [], μ2))))))))) :
    gb_557_3 k R (L, [], μ) := wz_fgd hL h
/- X12 xRecord -/
set_option maxRecDepth 10000 in
set_option maxHeartbeats 200000 in
theorem fw_563 (a1 : Int32) (a2 : Int32) (a3 : Int32) (a4 : Int32) (a5 : Int32) (a6 : Int32) (a7 : Int32) (μ : qz_M) (R : wz_R)
    (h : (wz_rk (qz_rm μ 1 0 0 36) (fun r1 => (bif pz_arr (qz_tag μ r1) then (bif decide ((((7 : Int32) * (qz_im μ 1 0 0 37)) + (7 : Int32)) ≤ (Int32.ofNat (qz_len μ r1))) then (wz_rk (qz_rm μ 1 0 0 36) (fun r2 => (bif Nat.beq (qz_tag μ r2) 50 then (bif pz_out ((7 : Int32) * (qz_im μ 1 0 0 37)) (qz_len μ r2) then False else (wz_wr (qz_wI μ r2 ((7 : Int32) * (qz_im μ 1 0 0 37)).toNatClampNeg a1) (fun μ3 => (wz_rk (qz_rm μ3 1 0 0 36) (fun r4 => (bif Nat.beq (qz_tag μ3 r4) 50 then (bif pz_out (((7 : Int32) * (qz_im μ 1 0 0 37)) + (1 : Int32)) (qz_len μ3 r4) then False else (wz_wr (qz_wI μ3 r4 (((7 : Int32) * (qz_im μ 1 0 0 37)) + (1 : Int32)).toNatClampNeg a2) (fun μ5 => (wz_rk (qz_rm μ5 1 0 0 36) (fun r6 => (bif Nat.beq (qz_tag μ5 r6) 50 then (bif pz_out (((7 : Int32) * (qz_im μ 1 0 0 37)) + (2 : Int32)) (qz_len μ5 r6) then False else (wz_wr (qz_wI μ5 r6 (((7 : Int32) * (qz_im μ 1 0 0 37)) + (2 : Int32)).toNatClampNeg a3) (fun μ7 => (wz_rk (qz_rm μ7 1 0 0 36) (fun r8 => (bif Nat.beq (qz_tag μ7 r8) 50 then (bif pz_out (((7 : Int32) * (qz_im μ 1 0 0 37)) + (3 : Int32)) (qz_len μ7 r8) then False else (wz_wr (qz_wI μ7 r8 (((7 : Int32) * (qz_im μ 1 0 0 37)) + (3 : Int32)).toNatClampNeg a4) (fun μ9 => (wz_rk (qz_rm μ9 1 0 0 36) (fun r10 => (bif Nat.beq (qz_tag μ9 r10) 50 then (bif pz_out (((7 : Int32) * (qz_im μ 1 0 0 37)) + (4 : Int32)) (qz_len μ9 r10) then False else (wz_wr (qz_wI μ9 r10 (((7 : Int32) * (qz_im μ 1 0 0 37)) + (4 : Int32)).toNatClampNeg a5) (fun μ11 => (wz_rk (qz_rm μ11 1 0 0 36) (fun r12 => (bif Nat.beq (qz_tag μ11 r12) 50 then (bif pz_out (((7 : Int32) * (qz_im μ 1 0 0 37)) + (5 : Int32)) (qz_len μ11 r12) then False else (wz_wr (qz_wI μ11 r12 (((7 : Int32) * (qz_im μ 1 0 0 37)) + (5 : Int32)).toNatClampNeg a6) (fun μ13 => (wz_rk (qz_rm μ13 1 0 0 36) (fun r14 => (bif Nat.beq (qz_tag μ13 r14) 50 then (bif pz_out (((7 : Int32) * (qz_im μ 1 0 0 37)) + (6 : Int32)) (qz_len μ13 r14) then False else (wz_wr (qz_wI μ13 r14 (((7 : Int32) * (qz_im μ 1 0 0 37)) + (6 : Int32)).toNatClampNeg a7) (fun μ15 => (wz_wr (qz_wI μ15 (1, 0, 0) 37 ((qz_im μ15 1 0 0 37) + (1 : Int32))) (fun μ16 => (R μ16 (.inl none))))))) else False)))))) else False)))))) else False)))))) else False)))))) else False)))))) else False)))))) else False))) else (wz_rk (qz_rm μ 1 0 0 36) (fun r17 => (wz_rk (qz_rm μ 1 0 0 36) (fun r18 => (bif pz_arr (qz_tag μ r18) then (wz_cR qf_565 [.inr (.inr (some r17)), .inl ((7 : Int32) * (qz_im μ 1 0 0 37)), .inl ((2 : Int32) * (Int32.ofNat (qz_len μ r18)))] μ (fun μ19 v20 => (wz_wr (qz_wR μ19 (1, 0, 0) 36 (some v20)) (fun μ21 => (wz_rk (qz_rm μ21 1 0 0 36) (fun r22 => (bif Nat.beq (qz_tag μ21 r22) 50 then (bif pz_out ((7 : Int32) * (qz_im μ 1 0 0 37)) (qz_len μ21 r22) then False else (wz_wr (qz_wI μ21 r22 ((7 : Int32) * (qz_im μ 1 0 0 37)).toNatClampNeg a1) (fun μ23 => (wz_rk (qz_rm μ23 1 0 0 36) (fun r24 => (bif Nat.beq (qz_tag μ23 r24) 50 then (bif pz_out (((7 : Int32) * (qz_im μ 1 0 0 37)) + (1 : Int32)) (qz_len μ23 r24) then False else (wz_wr (qz_wI μ23 r24 (((7 : Int32) * (qz_im μ 1 0 0 37)) + (1 : Int32)).toNatClampNeg a2) (fun μ25 => (wz_rk (qz_rm μ25 1 0 0 36) (fun r26 => (bif Nat.beq (qz_tag μ25 r26) 50 then (bif pz_out (((7 : Int32) * (qz_im μ 1 0 0 37)) + (2 : Int32)) (qz_len μ25 r26) then False else (wz_wr (qz_wI μ25 r26 (((7 : Int32) * (qz_im μ 1 0 0 37)) + (2 : Int32)).toNatClampNeg a3) (fun μ27 => (wz_rk (qz_rm μ27 1 0 0 36) (fun r28 => (bif Nat.beq (qz_tag μ27 r28) 50 then (bif pz_out (((7 : Int32) * (qz_im μ 1 0 0 37)) + (3 : Int32)) (qz_len μ27 r28) then False else (wz_wr (qz_wI μ27 r28 (((7 : Int32) * (qz_im μ 1 0 0 37)) + (3 : Int32)).toNatClampNeg a4) (fun μ29 => (wz_rk (qz_rm μ29 1 0 0 36) (fun r30 => (bif Nat.beq (qz_tag μ29 r30) 50 then (bif pz_out (((7 : Int32) * (qz_im μ 1 0 0 37)) + (4 : Int32)) (qz_len μ29 r30) then False else (wz_wr (qz_wI μ29 r30 (((7 : Int32) * (qz_im μ 1 0 0 37)) + (4 : Int32)).toNatClampNeg a5) (fun μ31 => (wz_rk (qz_rm μ31 1 0 0 36) (fun r32 => (bif Nat.beq (qz_tag μ31 r32) 50 then (bif pz_out (((7 : Int32) * (qz_im μ 1 0 0 37)) + (5 : Int32)) (qz_len μ31 r32) then False else (wz_wr (qz_wI μ31 r32 (((7 : Int32) * (qz_im μ 1 0 0 37)) + (5 : Int32)).toNatClampNeg a6) (fun μ33 => (wz_rk (qz_rm μ33 1 0 0 36) (fun r34 => (bif Nat.beq (qz_tag μ33 r34) 50 then (bif pz_out (((7 : Int32) * (qz_im μ 1 0 0 37)) + (6 : Int32)) (qz_len μ33 r34) then False else (wz_wr (qz_wI μ33 r34 (((7 : Int32) * (qz_im μ 1 0 0 37)) + (6 : Int32)).toNatClampNeg a7) (fun μ35 => (wz_wr (qz_wI μ35 (1, 0, 0) 37 ((qz_im μ35 1 0 0 37) + (1 : Int32))) (fun μ36 => (R μ36 (.inl none))))))) else False)))))) else False)))))) else False)))))) else False)))))) else False)))))) else False)))))) else False)))))) (fun μ19 e => (R μ19 (.inr e)))) else False)))))) else False)))) :
    wz_call qf_563 [.inr (.inr (some (1, 0, 0))), .inl a1, .inl a2, .inl a3, .inl a4, .inl a5, .inl a6, .inl a7] μ R := wz_mt9 (L := [some (.inr (.inr (some (1, 0, 0)))), some (.inl a1), some (.inl a2), some (.inl a3), some (.inl a4), some (.inl a5), some (.inl a6), some (.inl a7), none]) sw_563 rfl h
/- X12 deed -/
/- X12 buyer -/
set_option maxRecDepth 10000 in
set_option maxHeartbeats 200000 in
theorem fw_295 (a1 : Int32) (a2 : Int32) (a3 : Int32) (μ : qz_M) (R : wz_R)
    (h : (bif decide (a1 < (0 : Int32)) then (wz_wr (qz_wI μ (1, 0, 0) 2 (1 : Int32)) (fun μ1 => (R μ1 (.inl (some (.inl (0 : Int32))))))) else (bif decide ((4 : Int32) < a1) then (wz_wr (qz_wI μ (1, 0, 0) 2 (1 : Int32)) (fun μ2 => (R μ2 (.inl (some (.inl (0 : Int32))))))) else (wz_wr (qz_wI μ (1, 0, 0) 2 (0 : Int32)) (fun μ3 => (bif decide (a2 < (0 : Int32)) then (wz_wr (qz_wI μ3 (1, 0, 0) 2 (2 : Int32)) (fun μ4 => (R μ4 (.inl (some (.inl (0 : Int32))))))) else (bif decide ((9999999 : Int32) < a2) then (wz_wr (qz_wI μ3 (1, 0, 0) 2 (2 : Int32)) (fun μ5 => (R μ5 (.inl (some (.inl (0 : Int32))))))) else (bif decide (a3 < (0 : Int32)) then (wz_wr (qz_wI μ3 (1, 0, 0) 2 (2 : Int32)) (fun μ6 => (R μ6 (.inl (some (.inl (0 : Int32))))))) else (bif decide ((14 : Int32) < a3) then (wz_wr (qz_wI μ3 (1, 0, 0) 2 (2 : Int32)) (fun μ7 => (R μ7 (.inl (some (.inl (0 : Int32))))))) else (wz_wr (qz_wI μ3 (1, 0, 0) 2 (0 : Int32)) (fun μ8 => (bif decide ((8 : Int32) ≤ (qz_im μ8 2 0 0 1400)) then (wz_wr (qz_wI μ8 (1, 0, 0) 2 (3 : Int32)) (fun μ9 => (R μ9 (.inl (some (.inl (0 : Int32))))))) else (wz_wr (qz_wI μ8 (1, 0, 0) 2 (0 : Int32)) (fun μ10 => (bif (!decide ((qz_im μ10 1 0 0 35) = 0)) then (bif pz_out (((1410 : Int32) + ((12 : Int32) * (qz_im μ10 2 0 0 1400))) + (0 : Int32)) 4400 then False else (wz_wr (qz_wI μ10 (2, 0, 0) (((1410 : Int32) + ((12 : Int32) * (qz_im μ10 2 0 0 1400))) + (0 : Int32)).toNatClampNeg a1) (fun μ11 => (bif pz_out (((1410 : Int32) + ((12 : Int32) * (qz_im μ10 2 0 0 1400))) + (1 : Int32)) 4400 then False else (wz_wr (qz_wI μ11 (2, 0, 0) (((1410 : Int32) + ((12 : Int32) * (qz_im μ10 2 0 0 1400))) + (1 : Int32)).toNatClampNeg a2) (fun μ12 => (bif pz_out (((1410 : Int32) + ((12 : Int32) * (qz_im μ10 2 0 0 1400))) + (2 : Int32)) 4400 then False else (wz_wr (qz_wI μ12 (2, 0, 0) (((1410 : Int32) + ((12 : Int32) * (qz_im μ10 2 0 0 1400))) + (2 : Int32)).toNatClampNeg a3) (fun μ13 => (wz_wr (qz_wI μ13 (2, 0, 0) 1400 ((qz_im μ13 2 0 0 1400) + (1 : Int32))) (fun μ14 => (R μ14 (.inl (some (.inl (qz_im μ10 2 0 0 1400)))))))))))))))) else (wz_cV qf_557 [.inr (.inr (some (1, 0, 0))), .inl (-1 : Int32)] μ10 (fun μ15 => (wz_cV qf_563 [.inr (.inr (some (1, 0, 0))), .inl (11 : Int32), .inl a1, .inl a2, .inl a3, .inl (0 : Int32), .inl (0 : Int32), .inl (0 : Int32)] μ15 (fun μ16 => (bif pz_out (((1410 : Int32) + ((12 : Int32) * (qz_im μ16 2 0 0 1400))) + (0 : Int32)) 4400 then False else (wz_wr (qz_wI μ16 (2, 0, 0) (((1410 : Int32) + ((12 : Int32) * (qz_im μ16 2 0 0 1400))) + (0 : Int32)).toNatClampNeg a1) (fun μ17 => (bif pz_out (((1410 : Int32) + ((12 : Int32) * (qz_im μ16 2 0 0 1400))) + (1 : Int32)) 4400 then False else (wz_wr (qz_wI μ17 (2, 0, 0) (((1410 : Int32) + ((12 : Int32) * (qz_im μ16 2 0 0 1400))) + (1 : Int32)).toNatClampNeg a2) (fun μ18 => (bif pz_out (((1410 : Int32) + ((12 : Int32) * (qz_im μ16 2 0 0 1400))) + (2 : Int32)) 4400 then False else (wz_wr (qz_wI μ18 (2, 0, 0) (((1410 : Int32) + ((12 : Int32) * (qz_im μ16 2 0 0 1400))) + (2 : Int32)).toNatClampNeg a3) (fun μ19 => (wz_wr (qz_wI μ19 (2, 0, 0) 1400 ((qz_im μ19 2 0 0 1400) + (1 : Int32))) (fun μ20 => (R μ20 (.inl (some (.inl (qz_im μ16 2 0 0 1400))))))))))))))))) (fun μ16 e => (R μ16 (.inr e))))) (fun μ15 e => (R μ15 (.inr e))))))))))))))))))) :
    wz_call qf_295 [.inr (.inr (some (1, 0, 0))), .inl a1, .inl a2, .inl a3] μ R := wz_mt9 (L := [some (.inr (.inr (some (1, 0, 0)))), some (.inl a1), some (.inl a2), some (.inl a3), none]) sw_295 rfl h
/- X12 isBuyer -/
/- X12 order -/
-- fw_441 is taken out