/-! what the methods ask, 22 -/
/- X12 grower -/
set_option maxRecDepth 10000 in
set_option maxHeartbeats 200000 in
theorem fw_347 (a1 : Int32) (a2 : Int32) (μ : qz_M) (R : wz_R)
    (h : (bif decide (a1 < (0 : Int32)) then (wz_wr (qz_wI μ (1, 0, 0) 2 (1 : Int32)) (fun μ1 => (R μ1 (.inl (some (.inl (0 : Int32))))))) else (bif decide ((25 : Int32) < a1) then (wz_wr (qz_wI μ (1, 0, 0) 2 (1 : Int32)) (fun μ2 => (R μ2 (.inl (some (.inl (0 : Int32))))))) else (bif decide (a2 < (0 : Int32)) then (wz_wr (qz_wI μ (1, 0, 0) 2 (1 : Int32)) (fun μ3 => (R μ3 (.inl (some (.inl (0 : Int32))))))) else (bif decide ((9 : Int32) < a2) then (wz_wr (qz_wI μ (1, 0, 0) 2 (1 : Int32)) (fun μ4 => (R μ4 (.inl (some (.inl (0 : Int32))))))) else (wz_wr (qz_wI μ (1, 0, 0) 2 (0 : Int32)) (fun μ5 => (bif decide ((6 : Int32) ≤ (qz_im μ5 2 0 0 101)) then (wz_wr (qz_wI μ5 (1, 0, 0) 2 (2 : Int32)) (fun μ6 => (R μ6 (.inl (some (.inl (0 : Int32))))))) else (wz_wr (qz_wI μ5 (1, 0, 0) 2 (0 : Int32)) (fun μ7 => (bif (!decide ((qz_im μ7 1 0 0 35) = 0)) then (bif pz_out ((140 : Int32) + ((2 : Int32) * (qz_im μ7 2 0 0 101))) 4400 then False else (wz_wr (qz_wI μ7 (2, 0, 0) ((140 : Int32) + ((2 : Int32) * (qz_im μ7 2 0 0 101))).toNatClampNeg a1) (fun μ8 => (bif pz_out (((140 : Int32) + ((2 : Int32) * (qz_im μ7 2 0 0 101))) + (1 : Int32)) 4400 then False else (wz_wr (qz_wI μ8 (2, 0, 0) (((140 : Int32) + ((2 : Int32) * (qz_im μ7 2 0 0 101))) + (1 : Int32)).toNatClampNeg a2) (fun μ9 => (wz_wr (qz_wI μ9 (2, 0, 0) 101 ((qz_im μ9 2 0 0 101) + (1 : Int32))) (fun μ10 => (R μ10 (.inl (some (.inl (qz_im μ7 2 0 0 101))))))))))))) else (wz_cV qf_557 [.inr (.inr (some (1, 0, 0))), .inl (-1 : Int32)] μ7 (fun μ11 => (wz_cV qf_563 [.inr (.inr (some (1, 0, 0))), .inl (2 : Int32), .inl a1, .inl a2, .inl (0 : Int32), .inl (0 : Int32), .inl (0 : Int32), .inl (0 : Int32)] μ11 (fun μ12 => (bif pz_out ((140 : Int32) + ((2 : Int32) * (qz_im μ12 2 0 0 101))) 4400 then False else (wz_wr (qz_wI μ12 (2, 0, 0) ((140 : Int32) + ((2 : Int32) * (qz_im μ12 2 0 0 101))).toNatClampNeg a1) (fun μ13 => (bif pz_out (((140 : Int32) + ((2 : Int32) * (qz_im μ12 2 0 0 101))) + (1 : Int32)) 4400 then False else (wz_wr (qz_wI μ13 (2, 0, 0) (((140 : Int32) + ((2 : Int32) * (qz_im μ12 2 0 0 101))) + (1 : Int32)).toNatClampNeg a2) (fun μ14 => (wz_wr (qz_wI μ14 (2, 0, 0) 101 ((qz_im μ14 2 0 0 101) + (1 : Int32))) (fun μ15 => (R μ15 (.inl (some (.inl (qz_im μ12 2 0 0 101)))))))))))))) (fun μ12 e => (R μ12 (.inr e))))) (fun μ11 e => (R μ11 (.inr e))))))))))))))) :
    wz_call qf_347 [.inr (.inr (some (1, 0, 0))), .inl a1, .inl a2] μ R := wz_mt9 (L := [some (.inr (.inr (some (1, 0, 0)))), some (.inl a1), some (.inl a2)]) sw_347 rfl h
/- X12 grown -/
set_option maxRecDepth 10000 in
set_option maxHeartbeats 200000 in
theorem fw_348 (a1 : Int32) (a2 : Int32) (μ : qz_M) (R : wz_R)
    (h : (bif decide (a1 < (0 : Int32)) then (wz_wr (qz_wI μ (1, 0, 0) 2 (1 : Int32)) (fun μ1 => (R μ1 (.inl (some (.inl (0 : Int32))))))) else (bif decide (((qz_im μ 2 0 0 101) - (1 : Int32)) < a1) then (wz_wr (qz_wI μ (1, 0, 0) 2 (1 : Int32)) (fun μ2 => (R μ2 (.inl (some (.inl (0 : Int32))))))) else (wz_wr (qz_wI μ (1, 0, 0) 2 (0 : Int32)) (fun μ3 => (bif decide (a2 < (0 : Int32)) then (wz_wr (qz_wI μ3 (1, 0, 0) 2 (2 : Int32)) (fun μ4 => (R μ4 (.inl (some (.inl (0 : Int32))))))) else (bif decide ((8 : Int32) < a2) then (wz_wr (qz_wI μ3 (1, 0, 0) 2 (2 : Int32)) (fun μ5 => (R μ5 (.inl (some (.inl (0 : Int32))))))) else (wz_wr (qz_wI μ3 (1, 0, 0) 2 (0 : Int32)) (fun μ6 => (wz_cI qf_324 [.inr (.inr (some (1, 0, 0))), .inl a1, .inl a2] μ6 (fun μ7 v8 => (R μ7 (.inl (some (.inl v8))))) (fun μ7 e => (R μ7 (.inr e))))))))))))) :
    wz_call qf_348 [.inr (.inr (some (1, 0, 0))), .inl a1, .inl a2] μ R := wz_mt9 (L := [some (.inr (.inr (some (1, 0, 0)))), some (.inl a1), some (.inl a2)]) sw_348 rfl h
/- X12 hand -/
set_option maxRecDepth 10000 in
set_option maxHeartbeats 200000 in
theorem fw_349 (a1 : Int32) (a2 : Int32) (μ : qz_M) (R : wz_R)
    (h : (bif decide (a1 < (0 : Int32)) then (wz_wr (qz_wI μ (1, 0, 0) 2 (1 : Int32)) (fun μ1 => (R μ1 (.inl (some (.inl (0 : Int32))))))) else (bif decide (((qz_im μ 2 0 0 3000) - (1 : Int32)) < a1) then (wz_wr (qz_wI μ (1, 0, 0) 2 (1 : Int32)) (fun μ2 => (R μ2 (.inl (some (.inl (0 : Int32))))))) else (wz_wr (qz_wI μ (1, 0, 0) 2 (0 : Int32)) (fun μ3 => (bif decide (a2 < (0 : Int32)) then (wz_wr (qz_wI μ3 (1, 0, 0) 2 (2 : Int32)) (fun μ4 => (R μ4 (.inl (some (.inl (0 : Int32))))))) else (bif decide ((12 : Int32) < a2) then (wz_wr (qz_wI μ3 (1, 0, 0) 2 (2 : Int32)) (fun μ5 => (R μ5 (.inl (some (.inl (0 : Int32))))))) else (wz_wr (qz_wI μ3 (1, 0, 0) 2 (0 : Int32)) (fun μ6 => (bif (!decide (a2 = (12 : Int32))) then (bif pz_out (((3010 : Int32) + ((60 : Int32) * a1)) + a2) 4400 then False else (R μ6 (.inl (some (.inl (qz_im μ6 2 0 0 (((3010 : Int32) + ((60 : Int32) * a1)) + a2).toNatClampNeg)))))) else (bif pz_out (((3010 : Int32) + ((60 : Int32) * a1)) + (0 : Int32)) 4400 then False else (bif pz_out (((3010 : Int32) + ((60 : Int32) * a1)) + (0 : Int32)) 4400 then False else (bif pz_out (((3010 : Int32) + ((60 : Int32) * a1)) + (1 : Int32)) 4400 then False else (bif decide (((qz_im μ6 2 0 0 0) - (qz_im μ6 2 0 0 0) / (24 : Int32) * (24 : Int32)) < (qz_im μ6 2 0 0 (((3010 : Int32) + ((60 : Int32) * a1)) + (0 : Int32)).toNatClampNeg)) then (R μ6 (.inl (some (.inl (0 : Int32))))) else (bif decide ((((qz_im μ6 2 0 0 (((3010 : Int32) + ((60 : Int32) * a1)) + (0 : Int32)).toNatClampNeg) + (qz_im μ6 2 0 0 (((3010 : Int32) + ((60 : Int32) * a1)) + (1 : Int32)).toNatClampNeg)) - (1 : Int32)) < ((qz_im μ6 2 0 0 0) - (qz_im μ6 2 0 0 0) / (24 : Int32) * (24 : Int32))) then (R μ6 (.inl (some (.inl (0 : Int32))))) else (R μ6 (.inl (some (.inl (1 : Int32)))))))))))))))))))) :
    wz_call qf_349 [.inr (.inr (some (1, 0, 0))), .inl a1, .inl a2] μ R := wz_mt9 (L := [some (.inr (.inr (some (1, 0, 0)))), some (.inl a1), some (.inl a2)]) sw_349 rfl h
/- X12 isTruck -/
set_option maxRecDepth 10000 in
set_option maxHeartbeats 200000 in
theorem fw_394 (a1 : Int32) (μ : qz_M) (R : wz_R)
    (h : (bif decide (a1 < (0 : Int32)) then (R μ (.inl (some (.inl (0 : Int32))))) else (bif decide (((qz_im μ 2 0 0 3200) - (1 : Int32)) < a1) then (R μ (.inl (some (.inl (0 : Int32))))) else (R μ (.inl (some (.inl (1 : Int32)))))))) :
    wz_call qf_394 [.inr (.inr (some (1, 0, 0))), .inl a1] μ R := wz_mt9 (L := [some (.inr (.inr (some (1, 0, 0)))), some (.inl a1)]) sw_394 rfl h
/- X12 tTowns -/
set_option maxRecDepth 10000 in
set_option maxHeartbeats 200000 in
theorem fw_527 (a1 : Int32) (μ : qz_M) (R : wz_R)
    (h : (wz_loop qb_527_1 65536 (wz_sk gc_527_2 wz_k0 R) R ([some (.inr (.inr (some (1, 0, 0)))), some (.inl a1), some (.inl (0 : Int32)), some (.inl (0 : Int32))], [], μ))) :
    wz_call qf_527 [.inr (.inr (some (1, 0, 0))), .inl a1] μ R := wz_mt9 (L := [some (.inr (.inr (some (1, 0, 0)))), some (.inl a1), none, none]) sw_527 rfl h
set_option maxRecDepth 10000 in
set_option maxHeartbeats 200000 in
theorem fc_527_2 (x2 : Int32) (μ : qz_M) (k : wz_K) (R : wz_R) (L : qz_L) (hL : qz_fg [false, false, true, false] L = [none, none, some (.inl x2), none])
    (h : (R μ (.inl (some (.inl x2))))) :
    gc_527_2 k R (L, [], μ) := wz_fgd hL h
set_option maxRecDepth 10000 in
set_option maxHeartbeats 200000 in
theorem fb_527_1 (x1 : Int32) (x2 : Int32) (x3 : Int32) (μ : qz_M) (k : wz_K) (R : wz_R) (L : qz_L) (hL : qz_fg [true, true, true, true] L = [some (.inr (.inr (some (1, 0, 0)))), some (.inl x1), some (.inl x2), some (.inl x3)])
    (h : (bif decide ((qz_im μ 2 0 0 2000) ≤ x3) then (k 0 ([some (.inr (.inr (some (1, 0, 0)))), some (.inl x1), some (.inl x2), some (.inl x3)], [], μ)) else (bif pz_out (((2010 : Int32) + ((16 : Int32) * x3)) + (9 : Int32)) 4400 then False else (bif (!decide ((qz_im μ 2 0 0 (((2010 : Int32) + ((16 : Int32) * x3)) + (9 : Int32)).toNatClampNeg) = (1 : Int32))) then (k 1 ([some (.inr (.inr (some (1, 0, 0)))), some (.inl x1), some (.inl (x2 ||| (0 : Int32))), some (.inl (x3 + (1 : Int32)))], [], μ)) else (bif pz_out (((2010 : Int32) + ((16 : Int32) * x3)) + (10 : Int32)) 4400 then False else (bif (!decide ((qz_im μ 2 0 0 (((2010 : Int32) + ((16 : Int32) * x3)) + (10 : Int32)).toNatClampNeg) = x1)) then (k 1 ([some (.inr (.inr (some (1, 0, 0)))), some (.inl x1), some (.inl (x2 ||| (0 : Int32))), some (.inl (x3 + (1 : Int32)))], [], μ)) else (bif pz_out (((2010 : Int32) + ((16 : Int32) * x3)) + (1 : Int32)) 4400 then False else (bif pz_out (((1410 : Int32) + ((12 : Int32) * (qz_im μ 2 0 0 (((2010 : Int32) + ((16 : Int32) * x3)) + (1 : Int32)).toNatClampNeg))) + (0 : Int32)) 4400 then False else (k 1 ([some (.inr (.inr (some (1, 0, 0)))), some (.inl x1), some (.inl (x2 ||| ((1 : Int32) <<< ((qz_im μ 2 0 0 (((1410 : Int32) + ((12 : Int32) * (qz_im μ 2 0 0 (((2010 : Int32) + ((16 : Int32) * x3)) + (1 : Int32)).toNatClampNeg))) + (0 : Int32)).toNatClampNeg) &&& 31)))), some (.inl (x3 + (1 : Int32)))], [], μ)))))))))) :
    gb_527_1 k R (L, [], μ) := wz_fgd hL h
/- X12 wAt -/
set_option maxRecDepth 10000 in
set_option maxHeartbeats 200000 in
theorem fw_542 (a0 : Int32) (a1 : Int32) (μ : qz_M) (R : wz_R)
    (h : (R μ (.inl (some (.inl (((3210 : Int32) + ((6 : Int32) * a0)) + a1)))))) :
    wz_call qf_542 [.inl a0, .inl a1] μ R := wz_mt9 (L := [some (.inl a0), some (.inl a1)]) sw_542 rfl h
/- X12 tHoursOfRow -/
set_option maxRecDepth 10000 in
set_option maxHeartbeats 200000 in
theorem fw_514  (μ : qz_M) (R : wz_R)
    (h : (wz_loop qb_514_1 65536 (wz_sk gc_514_2 wz_k0 R) R ([some (.inr (.inr (some (1, 0, 0)))), some (.inl (0 : Int32)), some (.inl (5 : Int32)), some (.inl (0 : Int32))], [], μ))) :
    wz_call qf_514 [.inr (.inr (some (1, 0, 0)))] μ R := wz_mt9 (L := [some (.inr (.inr (some (1, 0, 0)))), none, none, none]) sw_514 rfl h
set_option maxRecDepth 10000 in
set_option maxHeartbeats 200000 in
theorem fc_514_2 (x1 : Int32) (x2 : Int32) (μ : qz_M) (k : wz_K) (R : wz_R) (L : qz_L) (hL : qz_fg [true, true, true, false] L = [some (.inr (.inr (some (1, 0, 0)))), some (.inl x1), some (.inl x2), none])
    (h : (bif (!decide ((qz_im μ 1 0 0 24) = 0)) then (bif pz_out (((3210 : Int32) + ((6 : Int32) * x2)) + (5 : Int32)) 4400 then False else (R μ (.inl (some (.inl (x1 + (qz_im μ 2 0 0 (((3210 : Int32) + ((6 : Int32) * x2)) + (5 : Int32)).toNatClampNeg))))))) else (R μ (.inl (some (.inl (0 : Int32))))))) :
    gc_514_2 k R (L, [], μ) := wz_fgd hL h
set_option maxRecDepth 10000 in
set_option maxHeartbeats 200000 in
theorem fb_514_1 (x1 : Int32) (x2 : Int32) (x3 : Int32) (μ : qz_M) (k : wz_K) (R : wz_R) (L : qz_L) (hL : qz_fg [true, true, true, true] L = [some (.inr (.inr (some (1, 0, 0)))), some (.inl x1), some (.inl x2), some (.inl x3)])
    (h : (bif decide ((qz_im μ 1 0 0 24) ≤ x3) then (k 0 ([some (.inr (.inr (some (1, 0, 0)))), some (.inl x1), some (.inl x2), some (.inl x3)], [], μ)) else (bif pz_out x3 5 then False else (bif pz_out (((3210 : Int32) + ((6 : Int32) * x2)) + (qz_im μ 95 0 0 x3.toNatClampNeg)) 4400 then False else (bif pz_out x3 5 then False else (k 1 ([some (.inr (.inr (some (1, 0, 0)))), some (.inl (x1 + (qz_im μ 2 0 0 (((3210 : Int32) + ((6 : Int32) * x2)) + (qz_im μ 95 0 0 x3.toNatClampNeg)).toNatClampNeg))), some (.inl (qz_im μ 95 0 0 x3.toNatClampNeg)), some (.inl (x3 + (1 : Int32)))], [], μ))))))) :
    gb_514_1 k R (L, [], μ) := wz_fgd hL h
/- X12 tNextRow -/
set_option maxRecDepth 10000 in
set_option maxHeartbeats 200000 in
theorem fw_522  (μ : qz_M) (R : wz_R)
    (h : (wz_loop qb_522_1 65536 (wz_sk gc_522_6 wz_k0 R) R ([some (.inr (.inr (some (1, 0, 0)))), some (.inl ((qz_im μ 1 0 0 24) - (2 : Int32))), none, none, none, none], [], μ))) :
    wz_call qf_522 [.inr (.inr (some (1, 0, 0)))] μ R := wz_mt9 (L := [some (.inr (.inr (some (1, 0, 0)))), none, none, none, none, none]) sw_522 rfl h
set_option maxRecDepth 10000 in
set_option maxHeartbeats 200000 in
theorem fc_522_6 (x1 : Int32) (μ : qz_M) (k : wz_K) (R : wz_R) (L : qz_L) (hL : qz_fg [true, true, false, false, false, false] L = [some (.inr (.inr (some (1, 0, 0)))), some (.inl x1), none, none, none, none])
    (h : (bif decide (0 ≤ x1) then (wz_loop qb_522_2 65536 (wz_sk gc_522_5 k R) R ([some (.inr (.inr (some (1, 0, 0)))), some (.inl x1), some (.inl ((qz_im μ 1 0 0 24) - (1 : Int32))), none, none, none], [], μ)) else (R μ (.inl (some (.inl (0 : Int32))))))) :
    gc_522_6 k R (L, [], μ) := wz_fgd hL h
set_option maxRecDepth 10000 in
set_option maxHeartbeats 200000 in
theorem fb_522_1 (x1 : Int32) (μ : qz_M) (k : wz_K) (R : wz_R) (L : qz_L) (hL : qz_fg [true, true, false, false, false, false] L = [some (.inr (.inr (some (1, 0, 0)))), some (.inl x1), none, none, none, none])
    (h : (bif decide (x1 < 0) then (k 0 ([some (.inr (.inr (some (1, 0, 0)))), some (.inl x1), none, none, none, none], [], μ)) else (bif pz_out x1 5 then False else (bif pz_out (x1 + (1 : Int32)) 5 then False else (bif decide ((qz_im μ 95 0 0 x1.toNatClampNeg) ≤ (qz_im μ 95 0 0 (x1 + (1 : Int32)).toNatClampNeg)) then (k 0 ([some (.inr (.inr (some (1, 0, 0)))), some (.inl x1), none, none, none, none], [], μ)) else (k 1 ([some (.inr (.inr (some (1, 0, 0)))), some (.inl (x1 + (-1 : Int32))), none, none, none, none], [], μ))))))) :
    gb_522_1 k R (L, [], μ) := wz_fgd hL h
set_option maxRecDepth 10000 in
set_option maxHeartbeats 200000 in
theorem fc_522_5 (x1 : Int32) (x2 : Int32) (μ : qz_M) (k : wz_K) (R : wz_R) (L : qz_L) (hL : qz_fg [true, true, true, false, false, false] L = [some (.inr (.inr (some (1, 0, 0)))), some (.inl x1), some (.inl x2), none, none, none])
    (h : (bif pz_out x1 5 then False else (bif pz_out x2 5 then False else (bif pz_out x1 5 then False else (wz_wr (qz_wI μ (95, 0, 0) x1.toNatClampNeg (qz_im μ 95 0 0 x2.toNatClampNeg)) (fun μ1 => (bif pz_out x2 5 then False else (wz_wr (qz_wI μ1 (95, 0, 0) x2.toNatClampNeg (qz_im μ 95 0 0 x1.toNatClampNeg)) (fun μ2 => (wz_loop qb_522_3 65536 (wz_sk gc_522_4 k R) R ([some (.inr (.inr (some (1, 0, 0)))), some (.inl x1), some (.inl x2), some (.inl (qz_im μ 95 0 0 x1.toNatClampNeg)), some (.inl ((qz_im μ2 1 0 0 24) - (1 : Int32))), some (.inl (x1 + (1 : Int32)))], [], μ2))))))))))) :
    gc_522_5 k R (L, [], μ) := wz_fgd hL h
set_option maxRecDepth 10000 in
set_option maxHeartbeats 200000 in
theorem fb_522_2 (x1 : Int32) (x2 : Int32) (μ : qz_M) (k : wz_K) (R : wz_R) (L : qz_L) (hL : qz_fg [true, true, true, false, false, false] L = [some (.inr (.inr (some (1, 0, 0)))), some (.inl x1), some (.inl x2), none, none, none])
    (h : (bif pz_out x2 5 then False else (bif pz_out x1 5 then False else (bif decide ((qz_im μ 95 0 0 x1.toNatClampNeg) ≤ (qz_im μ 95 0 0 x2.toNatClampNeg)) then (k 0 ([some (.inr (.inr (some (1, 0, 0)))), some (.inl x1), some (.inl x2), none, none, none], [], μ)) else (k 1 ([some (.inr (.inr (some (1, 0, 0)))), some (.inl x1), some (.inl (x2 + (-1 : Int32))), none, none, none], [], μ)))))) :
    gb_522_2 k R (L, [], μ) := wz_fgd hL h
set_option maxRecDepth 10000 in
set_option maxHeartbeats 200000 in
theorem fc_522_4  (μ : qz_M) (k : wz_K) (R : wz_R) (L : qz_L) (hL : qz_fg [false, false, false, false, false, false] L = [none, none, none, none, none, none])
    (h : (R μ (.inl (some (.inl (1 : Int32)))))) :
    gc_522_4 k R (L, [], μ) := wz_fgd hL h
set_option maxRecDepth 10000 in
set_option maxHeartbeats 200000 in
theorem fb_522_3 (x4 : Int32) (x5 : Int32) (μ : qz_M) (k : wz_K) (R : wz_R) (L : qz_L) (hL : qz_fg [true, false, false, false, true, true] L = [some (.inr (.inr (some (1, 0, 0)))), none, none, none, some (.inl x4), some (.inl x5)])
    (h : (bif decide (x4 ≤ x5) then (k 0 ([some (.inr (.inr (some (1, 0, 0)))), none, none, none, some (.inl x4), some (.inl x5)], [], μ)) else (bif pz_out x5 5 then False else (bif pz_out x4 5 then False else (bif pz_out x5 5 then False else (wz_wr (qz_wI μ (95, 0, 0) x5.toNatClampNeg (qz_im μ 95 0 0 x4.toNatClampNeg)) (fun μ1 => (bif pz_out x4 5 then False else (wz_wr (qz_wI μ1 (95, 0, 0) x4.toNatClampNeg (qz_im μ 95 0 0 x5.toNatClampNeg)) (fun μ2 => (k 1 ([some (.inr (.inr (some (1, 0, 0)))), none, none, some (.inl (qz_im μ 95 0 0 x5.toNatClampNeg)), some (.inl (x4 + (-1 : Int32))), some (.inl (x5 + (1 : Int32)))], [], μ2)))))))))))) :
    gb_522_3 k R (L, [], μ) := wz_fgd hL h
/- X12 tFindTrip -/
set_option maxRecDepth 10000 in
set_option maxHeartbeats 200000 in
theorem fw_511 (a1 : Int32) (μ : qz_M) (R : wz_R)
    (h : (wz_wr (qz_wI μ (1, 0, 0) 24 (0 : Int32)) (fun μ1 => (wz_loop qb_511_1 65536 (wz_sk gc_511_6 wz_k0 R) R ([some (.inr (.inr (some (1, 0, 0)))), some (.inl a1), some (.inl (0 : Int32)), none, none], [], μ1))))) :
    wz_call qf_511 [.inr (.inr (some (1, 0, 0))), .inl a1] μ R := wz_mt9 (L := [some (.inr (.inr (some (1, 0, 0)))), some (.inl a1), none, none, none]) sw_511 rfl h
set_option maxRecDepth 10000 in
set_option maxHeartbeats 200000 in
theorem fc_511_6  (μ : qz_M) (k : wz_K) (R : wz_R) (L : qz_L) (hL : qz_fg [true, false, false, false, false] L = [some (.inr (.inr (some (1, 0, 0)))), none, none, none, none])
    (h : (wz_wr (qz_wI μ (1, 0, 0) 25 (-1 : Int32)) (fun μ1 => (wz_loop qb_511_4 65536 (wz_sk gc_511_5 k R) R ([some (.inr (.inr (some (1, 0, 0)))), none, some (.inl (1 : Int32)), none, none], [], μ1))))) :
    gc_511_6 k R (L, [], μ) := wz_fgd hL h
set_option maxRecDepth 10000 in
set_option maxHeartbeats 200000 in
theorem fb_511_1 (x1 : Int32) (x2 : Int32) (μ : qz_M) (k : wz_K) (R : wz_R) (L : qz_L) (hL : qz_fg [true, true, true, false, false] L = [some (.inr (.inr (some (1, 0, 0)))), some (.inl x1), some (.inl x2), none, none])
    (h : (bif decide ((5 : Int32) ≤ x2) then (k 0 ([some (.inr (.inr (some (1, 0, 0)))), some (.inl x1), some (.inl x2), none, none], [], μ)) else (bif (!decide (((x1 >>> (x2 &&& 31)) &&& (1 : Int32)) = (1 : Int32))) then (k 1 ([some (.inr (.inr (some (1, 0, 0)))), some (.inl x1), some (.inl (x2 + (1 : Int32))), none, none], [], μ)) else (bif pz_out (qz_im μ 1 0 0 24) 5 then False else (wz_wr (qz_wI μ (95, 0, 0) (qz_im μ 1 0 0 24).toNatClampNeg x2) (fun μ1 => (wz_wr (qz_wI μ1 (1, 0, 0) 24 ((qz_im μ1 1 0 0 24) + (1 : Int32))) (fun μ2 => (k 1 ([some (.inr (.inr (some (1, 0, 0)))), some (.inl x1), some (.inl (x2 + (1 : Int32))), none, none], [], μ2)))))))))) :
    gb_511_1 k R (L, [], μ) := wz_fgd hL h
set_option maxRecDepth 10000 in
set_option maxHeartbeats 200000 in
theorem fc_511_5  (μ : qz_M) (k : wz_K) (R : wz_R) (L : qz_L) (hL : qz_fg [false, false, false, false, false] L = [none, none, none, none, none])
    (h : (R μ (.inl none))) :
    gc_511_5 k R (L, [], μ) := wz_fgd hL h
set_option maxRecDepth 10000 in
set_option maxHeartbeats 200000 in
theorem fb_511_4 (x2 : Int32) (μ : qz_M) (k : wz_K) (R : wz_R) (L : qz_L) (hL : qz_fg [true, false, true, false, false] L = [some (.inr (.inr (some (1, 0, 0)))), none, some (.inl x2), none, none])
    (h : (bif decide (x2 = 0) then (k 0 ([some (.inr (.inr (some (1, 0, 0)))), none, some (.inl x2), none, none], [], μ)) else (wz_cI qf_514 [.inr (.inr (some (1, 0, 0)))] μ (fun μ1 v2 => (bif decide ((qz_im μ1 1 0 0 25) = (-1 : Int32)) then (wz_wr (qz_wI μ1 (1, 0, 0) 25 v2) (fun μ3 => (wz_loop qb_511_2 65536 (wz_kb (wz_sk gc_511_3 (wz_kb k) R)) R ([some (.inr (.inr (some (1, 0, 0)))), none, some (.inl x2), some (.inl v2), some (.inl (0 : Int32))], [], μ3)))) else (bif decide ((qz_im μ1 1 0 0 25) ≤ v2) then (gc_511_3 (wz_kb k) R ([some (.inr (.inr (some (1, 0, 0)))), none, some (.inl x2), some (.inl v2), none], [], μ1)) else (wz_wr (qz_wI μ1 (1, 0, 0) 25 v2) (fun μ4 => (wz_loop qb_511_2 65536 (wz_kb (wz_sk gc_511_3 (wz_kb k) R)) R ([some (.inr (.inr (some (1, 0, 0)))), none, some (.inl x2), some (.inl v2), some (.inl (0 : Int32))], [], μ4))))))) (fun μ1 e => (R μ1 (.inr e)))))) :
    gb_511_4 k R (L, [], μ) := wz_fgd hL h
set_option maxRecDepth 10000 in
set_option maxHeartbeats 200000 in
theorem fc_511_3  (μ : qz_M) (k : wz_K) (R : wz_R) (L : qz_L) (hL : qz_fg [true, false, false, false, false] L = [some (.inr (.inr (some (1, 0, 0)))), none, none, none, none])
    (h : (wz_cI qf_522 [.inr (.inr (some (1, 0, 0)))] μ (fun μ1 v2 => (k 2 ([some (.inr (.inr (some (1, 0, 0)))), none, some (.inl v2), none, none], [], μ1))) (fun μ1 e => (R μ1 (.inr e))))) :
    gc_511_3 k R (L, [], μ) := wz_fgd hL h
set_option maxRecDepth 10000 in
set_option maxHeartbeats 200000 in
theorem fb_511_2 (x4 : Int32) (μ : qz_M) (k : wz_K) (R : wz_R) (L : qz_L) (hL : qz_fg [true, false, false, false, true] L = [some (.inr (.inr (some (1, 0, 0)))), none, none, none, some (.inl x4)])
    (h : (bif decide ((qz_im μ 1 0 0 24) ≤ x4) then (k 2 ([some (.inr (.inr (some (1, 0, 0)))), none, none, none, some (.inl x4)], [], μ)) else (bif pz_out x4 5 then False else (bif pz_out x4 5 then False else (wz_wr (qz_wI μ (96, 0, 0) x4.toNatClampNeg (qz_im μ 95 0 0 x4.toNatClampNeg)) (fun μ1 => (k 1 ([some (.inr (.inr (some (1, 0, 0)))), none, none, none, some (.inl (x4 + (1 : Int32)))], [], μ1)))))))) :
    gb_511_2 k R (L, [], μ) := wz_fgd hL h
/- X12 tLongNow -/
set_option maxRecDepth 10000 in
set_option maxHeartbeats 200000 in
theorem fw_520 (a1 : Int32) (μ : qz_M) (R : wz_R)
    (h : (bif pz_out (((3250 : Int32) + ((24 : Int32) * a1)) + (2 : Int32)) 4400 then False else (bif (!decide ((qz_im μ 2 0 0 (((3250 : Int32) + ((24 : Int32) * a1)) + (2 : Int32)).toNatClampNeg) = (1 : Int32))) then (wz_cI qf_527 [.inr (.inr (some (1, 0, 0))), .inl a1] μ (fun μ1 v2 => (wz_cV qf_511 [.inr (.inr (some (1, 0, 0))), .inl v2] μ1 (fun μ3 => (R μ3 (.inl (some (.inl (qz_im μ3 1 0 0 25)))))) (fun μ3 e => (R μ3 (.inr e))))) (fun μ1 e => (R μ1 (.inr e)))) else (bif pz_out (((3250 : Int32) + ((24 : Int32) * a1)) + (5 : Int32)) 4400 then False else (R μ (.inl (some (.inl (qz_im μ 2 0 0 (((3250 : Int32) + ((24 : Int32) * a1)) + (5 : Int32)).toNatClampNeg))))))))) :
    wz_call qf_520 [.inr (.inr (some (1, 0, 0))), .inl a1] μ R := wz_mt9 (L := [some (.inr (.inr (some (1, 0, 0)))), some (.inl a1)]) sw_520 rfl h
/- X12 tNext -/
set_option maxRecDepth 10000 in
set_option maxHeartbeats 200000 in
theorem fw_521 (a1 : Int32) (μ : qz_M) (R : wz_R)
    (h : (wz_loop qb_521_1 65536 (wz_sk gc_521_2 wz_k0 R) R ([some (.inr (.inr (some (1, 0, 0)))), some (.inl a1), some (.inl (0 : Int32))], [], μ))) :
    wz_call qf_521 [.inr (.inr (some (1, 0, 0))), .inl a1] μ R := wz_mt9 (L := [some (.inr (.inr (some (1, 0, 0)))), some (.inl a1), none]) sw_521 rfl h
set_option maxRecDepth 10000 in
set_option maxHeartbeats 200000 in
theorem fc_521_2  (μ : qz_M) (k : wz_K) (R : wz_R) (L : qz_L) (hL : qz_fg [false, false, false] L = [none, none, none])
    (h : (R μ (.inl (some (.inl (5 : Int32)))))) :
    gc_521_2 k R (L, [], μ) := wz_fgd hL h
set_option maxRecDepth 10000 in
set_option maxHeartbeats 200000 in
theorem fb_521_1 (x1 : Int32) (x2 : Int32) (μ : qz_M) (k : wz_K) (R : wz_R) (L : qz_L) (hL : qz_fg [true, true, true] L = [some (.inr (.inr (some (1, 0, 0)))), some (.inl x1), some (.inl x2)])
    (h : (bif pz_out (((3250 : Int32) + ((24 : Int32) * x1)) + (8 : Int32)) 4400 then False else (bif decide ((qz_im μ 2 0 0 (((3250 : Int32) + ((24 : Int32) * x1)) + (8 : Int32)).toNatClampNeg) ≤ x2) then (k 0 ([some (.inr (.inr (some (1, 0, 0)))), some (.inl x1), some (.inl x2)], [], μ)) else (bif pz_out (((3250 : Int32) + ((24 : Int32) * x1)) + ((14 : Int32) + x2)) 4400 then False else (bif decide ((qz_im μ 2 0 0 (((3250 : Int32) + ((24 : Int32) * x1)) + ((14 : Int32) + x2)).toNatClampNeg) ≤ (qz_im μ 2 0 0 0)) then (k 1 ([some (.inr (.inr (some (1, 0, 0)))), some (.inl x1), some (.inl (x2 + (1 : Int32)))], [], μ)) else (bif pz_out (((3250 : Int32) + ((24 : Int32) * x1)) + ((9 : Int32) + x2)) 4400 then False else (R μ (.inl (some (.inl (qz_im μ 2 0 0 (((3250 : Int32) + ((24 : Int32) * x1)) + ((9 : Int32) + x2)).toNatClampNeg))))))))))) :
    gb_521_1 k R (L, [], μ) := wz_fgd hL h
/- X12 haul -/
set_option maxRecDepth 10000 in
set_option maxHeartbeats 200000 in
theorem fw_350 (a1 : Int32) (a2 : Int32) (μ : qz_M) (R : wz_R)
    (h : (bif decide (a1 < (0 : Int32)) then (wz_wr (qz_wI μ (1, 0, 0) 2 (1 : Int32)) (fun μ1 => (R μ1 (.inl (some (.inl (0 : Int32))))))) else (bif decide (((qz_im μ 2 0 0 3200) - (1 : Int32)) < a1) then (wz_wr (qz_wI μ (1, 0, 0) 2 (1 : Int32)) (fun μ2 => (R μ2 (.inl (some (.inl (0 : Int32))))))) else (wz_wr (qz_wI μ (1, 0, 0) 2 (0 : Int32)) (fun μ3 => (bif decide (a2 < (0 : Int32)) then (wz_wr (qz_wI μ3 (1, 0, 0) 2 (2 : Int32)) (fun μ4 => (R μ4 (.inl (some (.inl (0 : Int32))))))) else (bif decide ((11 : Int32) < a2) then (wz_wr (qz_wI μ3 (1, 0, 0) 2 (2 : Int32)) (fun μ5 => (R μ5 (.inl (some (.inl (0 : Int32))))))) else (wz_wr (qz_wI μ3 (1, 0, 0) 2 (0 : Int32)) (fun μ6 => (bif decide (a2.toInt < (4 : Int)) || decide ((11 : Int) < a2.toInt) then (bif pz_out (((3250 : Int32) + ((24 : Int32) * a1)) + a2) 4400 then False else (R μ6 (.inl (some (.inl (qz_im μ6 2 0 0 (((3250 : Int32) + ((24 : Int32) * a1)) + a2).toNatClampNeg)))))) else (bif decide (a2.toInt = (4 : Int)) then (wz_cI qf_518 [.inr (.inr (some (1, 0, 0))), .inl a1, .inl (1 : Int32)] μ6 (fun μ14 v15 => (R μ14 (.inl (some (.inl v15))))) (fun μ14 e => (R μ14 (.inr e)))) else (bif decide (a2.toInt = (5 : Int)) then (wz_cI qf_518 [.inr (.inr (some (1, 0, 0))), .inl a1, .inl (0 : Int32)] μ6 (fun μ12 v13 => (R μ12 (.inl (some (.inl v13))))) (fun μ12 e => (R μ12 (.inr e)))) else (bif decide (a2.toInt = (6 : Int)) then (bif pz_out (((3250 : Int32) + ((24 : Int32) * a1)) + (2 : Int32)) 4400 then False else (bif (!decide ((qz_im μ6 2 0 0 (((3250 : Int32) + ((24 : Int32) * a1)) + (2 : Int32)).toNatClampNeg) = (1 : Int32))) then (wz_cI qf_527 [.inr (.inr (some (1, 0, 0))), .inl a1] μ6 (fun μ9 v10 => (wz_cV qf_511 [.inr (.inr (some (1, 0, 0))), .inl v10] μ9 (fun μ11 => (R μ11 (.inl (some (.inl (qz_im μ11 1 0 0 25)))))) (fun μ11 e => (R μ11 (.inr e))))) (fun μ9 e => (R μ9 (.inr e)))) else (bif pz_out (((3250 : Int32) + ((24 : Int32) * a1)) + (5 : Int32)) 4400 then False else (R μ6 (.inl (some (.inl (qz_im μ6 2 0 0 (((3250 : Int32) + ((24 : Int32) * a1)) + (5 : Int32)).toNatClampNeg)))))))) else (bif decide (a2.toInt = (7 : Int)) then (bif pz_out (((3250 : Int32) + ((24 : Int32) * a1)) + (4 : Int32)) 4400 then False else (R μ6 (.inl (some (.inl (qz_im μ6 2 0 0 (((3250 : Int32) + ((24 : Int32) * a1)) + (4 : Int32)).toNatClampNeg)))))) else (bif decide (a2.toInt = (8 : Int)) then (bif pz_out (((3250 : Int32) + ((24 : Int32) * a1)) + (2 : Int32)) 4400 then False else (bif (!decide ((qz_im μ6 2 0 0 (((3250 : Int32) + ((24 : Int32) * a1)) + (2 : Int32)).toNatClampNeg) = (1 : Int32))) then (R μ6 (.inl (some (.inl (-1 : Int32))))) else (bif pz_out (((3250 : Int32) + ((24 : Int32) * a1)) + (19 : Int32)) 4400 then False else (R μ6 (.inl (some (.inl (qz_im μ6 2 0 0 (((3250 : Int32) + ((24 : Int32) * a1)) + (19 : Int32)).toNatClampNeg)))))))) else (bif decide (a2.toInt = (9 : Int)) then (bif pz_out (((3250 : Int32) + ((24 : Int32) * a1)) + (2 : Int32)) 4400 then False else (bif (!decide ((qz_im μ6 2 0 0 (((3250 : Int32) + ((24 : Int32) * a1)) + (2 : Int32)).toNatClampNeg) = (1 : Int32))) then (R μ6 (.inl (some (.inl (-1 : Int32))))) else (wz_cI qf_521 [.inr (.inr (some (1, 0, 0))), .inl a1] μ6 (fun μ7 v8 => (R μ7 (.inl (some (.inl v8))))) (fun μ7 e => (R μ7 (.inr e)))))) else (bif decide (a2.toInt = (10 : Int)) then (bif pz_out (((3250 : Int32) + ((24 : Int32) * a1)) + (6 : Int32)) 4400 then False else (R μ6 (.inl (some (.inl (qz_im μ6 2 0 0 (((3250 : Int32) + ((24 : Int32) * a1)) + (6 : Int32)).toNatClampNeg)))))) else (bif decide (a2.toInt = (11 : Int)) then (bif pz_out (((3250 : Int32) + ((24 : Int32) * a1)) + (7 : Int32)) 4400 then False else (R μ6 (.inl (some (.inl (qz_im μ6 2 0 0 (((3250 : Int32) + ((24 : Int32) * a1)) + (7 : Int32)).toNatClampNeg)))))) else (bif pz_out (((3250 : Int32) + ((24 : Int32) * a1)) + a2) 4400 then False else (R μ6 (.inl (some (.inl (qz_im μ6 2 0 0 (((3250 : Int32) + ((24 : Int32) * a1)) + a2).toNatClampNeg)))))))))))))))))))))))) :
    wz_call qf_350 [.inr (.inr (some (1, 0, 0))), .inl a1, .inl a2] μ R := wz_mt9 (L := [some (.inr (.inr (some (1, 0, 0)))), some (.inl a1), some (.inl a2)]) sw_350 rfl h
/- X12 iAt -/
set_option maxRecDepth 10000 in
set_option maxHeartbeats 200000 in
theorem fw_353 (a0 : Int32) (a1 : Int32) (μ : qz_M) (R : wz_R)
    (h : (R μ (.inl (some (.inl (((3520 : Int32) + ((10 : Int32) * a0)) + a1)))))) :
    wz_call qf_353 [.inl a0, .inl a1] μ R := wz_mt9 (L := [some (.inl a0), some (.inl a1)]) sw_353 rfl h
/- X12 iStops -/
set_option maxRecDepth 10000 in
set_option maxHeartbeats 200000 in
theorem fw_374 (a0 : Int32) (μ : qz_M) (R : wz_R)
    (h : (wz_loop qb_374_1 65536 (wz_sk gc_374_2 wz_k0 R) R ([some (.inl a0), some (.inl (0 : Int32)), some (.inl a0)], [], μ))) :
    wz_call qf_374 [.inl a0] μ R := wz_mt9 (L := [some (.inl a0), none, none]) sw_374 rfl h
set_option maxRecDepth 10000 in
set_option maxHeartbeats 200000 in
theorem fc_374_2 (x1 : Int32) (μ : qz_M) (k : wz_K) (R : wz_R) (L : qz_L) (hL : qz_fg [false, true, false] L = [none, some (.inl x1), none])
    (h : (R μ (.inl (some (.inl x1))))) :
    gc_374_2 k R (L, [], μ) := wz_fgd hL h
set_option maxRecDepth 10000 in
set_option maxHeartbeats 200000 in
theorem fb_374_1 (x1 : Int32) (x2 : Int32) (μ : qz_M) (k : wz_K) (R : wz_R) (L : qz_L) (hL : qz_fg [false, true, true] L = [none, some (.inl x1), some (.inl x2)])
    (h : (bif decide (x2 ≤ 0) then (k 0 ([none, some (.inl x1), some (.inl x2)], [], μ)) else (k 1 ([none, some (.inl (x1 + (1 : Int32))), some (.inl (x2 / (10 : Int32)))], [], μ)))) :
    gb_374_1 k R (L, [], μ) := wz_fgd hL h
/- X12 iStop -/
set_option maxRecDepth 10000 in
set_option maxHeartbeats 200000 in
theorem fw_373 (a0 : Int32) (a1 : Int32) (μ : qz_M) (R : wz_R)
    (h : (wz_cI qf_374 [.inl a0] μ (fun μ1 v2 => (wz_loop qb_373_1 65536 (wz_sk gc_373_2 wz_k0 R) R ([some (.inl a0), some (.inl a1), some (.inl a0), some (.inl (v2 - (1 : Int32)))], [], μ1))) (fun μ1 e => (R μ1 (.inr e))))) :
    wz_call qf_373 [.inl a0, .inl a1] μ R := wz_mt9 (L := [some (.inl a0), some (.inl a1), none, none]) sw_373 rfl h
set_option maxRecDepth 10000 in
set_option maxHeartbeats 200000 in
theorem fc_373_2 (x2 : Int32) (μ : qz_M) (k : wz_K) (R : wz_R) (L : qz_L) (hL : qz_fg [false, false, true, false] L = [none, none, some (.inl x2), none])
    (h : (R μ (.inl (some (.inl (x2 - x2 / (10 : Int32) * (10 : Int32))))))) :
    gc_373_2 k R (L, [], μ) := wz_fgd hL h
set_option maxRecDepth 10000 in
set_option maxHeartbeats 200000 in
theorem fb_373_1 (x1 : Int32) (x2 : Int32) (x3 : Int32) (μ : qz_M) (k : wz_K) (R : wz_R) (L : qz_L) (hL : qz_fg [false, true, true, true] L = [none, some (.inl x1), some (.inl x2), some (.inl x3)])
    (h : (bif decide (x3 ≤ x1) then (k 0 ([none, some (.inl x1), some (.inl x2), some (.inl x3)], [], μ)) else (k 1 ([none, some (.inl x1), some (.inl (x2 / (10 : Int32))), some (.inl (x3 + (-1 : Int32)))], [], μ)))) :
    gb_373_1 k R (L, [], μ) := wz_fgd hL h
/- X12 iFigureAt -/
set_option maxRecDepth 10000 in
set_option maxHeartbeats 200000 in
theorem fw_355 (a1 : Int32) (a2 : Int32) (μ : qz_M) (R : wz_R)
    (h : (bif pz_out (((3520 : Int32) + ((10 : Int32) * a1)) + (0 : Int32)) 4400 then False else (bif pz_out (((3520 : Int32) + ((10 : Int32) * a1)) + (2 : Int32)) 4400 then False else (bif (!decide ((((qz_im μ 2 0 0 (((3520 : Int32) + ((10 : Int32) * a1)) + (2 : Int32)).toNatClampNeg) >>> (((a2 / (24 : Int32)) - (a2 / (24 : Int32)) / (7 : Int32) * (7 : Int32)) &&& 31)) &&& (1 : Int32)) = (1 : Int32))) then (R μ (.inl (some (.inl (0 : Int32))))) else (bif pz_out (((3520 : Int32) + ((10 : Int32) * a1)) + (3 : Int32)) 4400 then False else (wz_cI qf_374 [.inl (qz_im μ 2 0 0 (((3520 : Int32) + ((10 : Int32) * a1)) + (3 : Int32)).toNatClampNeg)] μ (fun μ1 v2 => (bif decide (((a2 - a2 / (24 : Int32) * (24 : Int32)) - (qz_im μ 2 0 0 (((3520 : Int32) + ((10 : Int32) * a1)) + (0 : Int32)).toNatClampNeg)) < (0 : Int32)) then (R μ1 (.inl (some (.inl (0 : Int32))))) else (bif decide ((v2 - (1 : Int32)) < ((a2 - a2 / (24 : Int32) * (24 : Int32)) - (qz_im μ 2 0 0 (((3520 : Int32) + ((10 : Int32) * a1)) + (0 : Int32)).toNatClampNeg))) then (R μ1 (.inl (some (.inl (0 : Int32))))) else (bif pz_out (((3520 : Int32) + ((10 : Int32) * a1)) + (3 : Int32)) 4400 then False else (wz_cI qf_373 [.inl (qz_im μ1 2 0 0 (((3520 : Int32) + ((10 : Int32) * a1)) + (3 : Int32)).toNatClampNeg), .inl ((a2 - a2 / (24 : Int32) * (24 : Int32)) - (qz_im μ 2 0 0 (((3520 : Int32) + ((10 : Int32) * a1)) + (0 : Int32)).toNatClampNeg))] μ1 (fun μ3 v4 => (R μ3 (.inl (some (.inl v4))))) (fun μ3 e => (R μ3 (.inr e)))))))) (fun μ1 e => (R μ1 (.inr e))))))))) :
    wz_call qf_355 [.inr (.inr (some (1, 0, 0))), .inl a1, .inl a2] μ R := wz_mt9 (L := [some (.inr (.inr (some (1, 0, 0)))), some (.inl a1), some (.inl a2), none, none]) sw_355 rfl h
/- X12 iPlace -/
set_option maxRecDepth 10000 in
set_option maxHeartbeats 200000 in
theorem fw_368 (a1 : Int32) (μ : qz_M) (R : wz_R)
    (h : (bif decide ((qz_im μ 2 0 0 1200) ≤ a1) then (R μ (.inl (some (.inl (7 : Int32))))) else (R μ (.inl (some (.inl (a1 + (1 : Int32)))))))) :
    wz_call qf_368 [.inr (.inr (some (1, 0, 0))), .inl a1] μ R := wz_mt9 (L := [some (.inr (.inr (some (1, 0, 0)))), some (.inl a1)]) sw_368 rfl h
/- X12 iKind -/
-- fw_364 is taken out
/- X12 iKeep -/
set_option maxRecDepth 10000 in
set_option maxHeartbeats 200000 in
theorem fw_363 (a1 : Int32) (a2 : Int32) (a3 : Int32) (a4 : Int32) (a5 : Int32) (μ : qz_M) (R : wz_R)
    (h : (bif (!decide ((qz_im μ 2 0 0 3501) = (24 : Int32))) then (gc_363_3 wz_k0 R ([some (.inr (.inr (some (1, 0, 0)))), some (.inl a1), some (.inl a2), some (.inl a3), some (.inl a4), some (.inl a5), none], [], μ)) else (wz_loop qb_363_1 65536 (wz_sk gc_363_2 (wz_kb (wz_sk gc_363_3 wz_k0 R)) R) R ([some (.inr (.inr (some (1, 0, 0)))), some (.inl a1), some (.inl a2), some (.inl a3), some (.inl a4), some (.inl a5), some (.inl (0 : Int32))], [], μ)))) :
    wz_call qf_363 [.inr (.inr (some (1, 0, 0))), .inl a1, .inl a2, .inl a3, .inl a4, .inl a5] μ R := wz_mt9 (L := [some (.inr (.inr (some (1, 0, 0)))), some (.inl a1), some (.inl a2), some (.inl a3), some (.inl a4), some (.inl a5), none]) sw_363 rfl h
set_option maxRecDepth 10000 in
set_option maxHeartbeats 200000 in
theorem fc_363_3 (x1 : Int32) (x2 : Int32) (x3 : Int32) (x4 : Int32) (x5 : Int32) (μ : qz_M) (k : wz_K) (R : wz_R) (L : qz_L) (hL : qz_fg [true, true, true, true, true, true, false] L = [some (.inr (.inr (some (1, 0, 0)))), some (.inl x1), some (.inl x2), some (.inl x3), some (.inl x4), some (.inl x5), none])
    (h : (bif pz_out ((3560 : Int32) + ((6 : Int32) * (qz_im μ 2 0 0 3501))) 4400 then False else (wz_wr (qz_wI μ (2, 0, 0) ((3560 : Int32) + ((6 : Int32) * (qz_im μ 2 0 0 3501))).toNatClampNeg x1) (fun μ1 => (bif pz_out (((3560 : Int32) + ((6 : Int32) * (qz_im μ 2 0 0 3501))) + (1 : Int32)) 4400 then False else (wz_wr (qz_wI μ1 (2, 0, 0) (((3560 : Int32) + ((6 : Int32) * (qz_im μ 2 0 0 3501))) + (1 : Int32)).toNatClampNeg (qz_im μ1 2 0 0 0)) (fun μ2 => (bif pz_out (((3560 : Int32) + ((6 : Int32) * (qz_im μ 2 0 0 3501))) + (2 : Int32)) 4400 then False else (wz_wr (qz_wI μ2 (2, 0, 0) (((3560 : Int32) + ((6 : Int32) * (qz_im μ 2 0 0 3501))) + (2 : Int32)).toNatClampNeg x2) (fun μ3 => (bif pz_out (((3560 : Int32) + ((6 : Int32) * (qz_im μ 2 0 0 3501))) + (3 : Int32)) 4400 then False else (wz_wr (qz_wI μ3 (2, 0, 0) (((3560 : Int32) + ((6 : Int32) * (qz_im μ 2 0 0 3501))) + (3 : Int32)).toNatClampNeg x3) (fun μ4 => (bif pz_out (((3560 : Int32) + ((6 : Int32) * (qz_im μ 2 0 0 3501))) + (4 : Int32)) 4400 then False else (wz_wr (qz_wI μ4 (2, 0, 0) (((3560 : Int32) + ((6 : Int32) * (qz_im μ 2 0 0 3501))) + (4 : Int32)).toNatClampNeg x4) (fun μ5 => (bif pz_out (((3560 : Int32) + ((6 : Int32) * (qz_im μ 2 0 0 3501))) + (5 : Int32)) 4400 then False else (wz_wr (qz_wI μ5 (2, 0, 0) (((3560 : Int32) + ((6 : Int32) * (qz_im μ 2 0 0 3501))) + (5 : Int32)).toNatClampNeg x5) (fun μ6 => (wz_wr (qz_wI μ6 (2, 0, 0) 3501 ((qz_im μ6 2 0 0 3501) + (1 : Int32))) (fun μ7 => (R μ7 (.inl none))))))))))))))))))))))) :
    gc_363_3 k R (L, [], μ) := wz_fgd hL h
set_option maxRecDepth 10000 in
set_option maxHeartbeats 200000 in
theorem fc_363_2 (x1 : Int32) (x2 : Int32) (x3 : Int32) (x4 : Int32) (x5 : Int32) (μ : qz_M) (k : wz_K) (R : wz_R) (L : qz_L) (hL : qz_fg [true, true, true, true, true, true, false] L = [some (.inr (.inr (some (1, 0, 0)))), some (.inl x1), some (.inl x2), some (.inl x3), some (.inl x4), some (.inl x5), none])
    (h : (wz_wr (qz_wI μ (2, 0, 0) 3501 ((qz_im μ 2 0 0 3501) - (1 : Int32))) (fun μ1 => (k 0 ([some (.inr (.inr (some (1, 0, 0)))), some (.inl x1), some (.inl x2), some (.inl x3), some (.inl x4), some (.inl x5), none], [], μ1))))) :
    gc_363_2 k R (L, [], μ) := wz_fgd hL h
set_option maxRecDepth 10000 in
set_option maxHeartbeats 200000 in
theorem fb_363_1 (x1 : Int32) (x2 : Int32) (x3 : Int32) (x4 : Int32) (x5 : Int32) (x6 : Int32) (μ : qz_M) (k : wz_K) (R : wz_R) (L : qz_L) (hL : qz_fg [true, true, true, true, true, true, true] L = [some (.inr (.inr (some (1, 0, 0)))), some (.inl x1), some (.inl x2), some (.inl x3), some (.inl x4), some (.inl x5), some (.inl x6)])
    (h : (bif decide ((138 : Int32) ≤ x6) then (k 0 ([some (.inr (.inr (some (1, 0, 0)))), some (.inl x1), some (.inl x2), some (.inl x3), some (.inl x4), some (.inl x5), some (.inl x6)], [], μ)) else (bif pz_out (((3560 : Int32) + x6) + (6 : Int32)) 4400 then False else (bif pz_out ((3560 : Int32) + x6) 4400 then False else (wz_wr (qz_wI μ (2, 0, 0) ((3560 : Int32) + x6).toNatClampNeg (qz_im μ 2 0 0 (((3560 : Int32) + x6) + (6 : Int32)).toNatClampNeg)) (fun μ1 => (k 1 ([some (.inr (.inr (some (1, 0, 0)))), some (.inl x1), some (.inl x2), some (.inl x3), some (.inl x4), some (.inl x5), some (.inl (x6 + (1 : Int32)))], [], μ1)))))))) :
    gb_363_1 k R (L, [], μ) := wz_fgd hL h
/- X12 kFinding -/
set_option maxRecDepth 10000 in
set_option maxHeartbeats 200000 in
theorem fw_405 (a1 : Int32) (μ : qz_M) (R : wz_R)
    (h : (wz_cV qf_403 [.inr (.inr (some (1, 0, 0))), .inl (0 : Int32), .inl (7 : Int32), .inl (qz_im μ 2 0 0 3813), .inl a1] μ (fun μ1 => (R μ1 (.inl none))) (fun μ1 e => (R μ1 (.inr e))))) :
    wz_call qf_405 [.inr (.inr (some (1, 0, 0))), .inl a1] μ R := wz_mt9 (L := [some (.inr (.inr (some (1, 0, 0)))), some (.inl a1)]) sw_405 rfl h
/- X12 iFinds -/
set_option maxRecDepth 10000 in
set_option maxHeartbeats 200000 in
theorem fw_357 (a1 : Int32) (a2 : Int32) (a3 : Int32) (a4 : Int32) (μ : qz_M) (R : wz_R)
    (h : (bif pz_out (((200 : Int32) + ((20 : Int32) * a2)) + (9 : Int32)) 4400 then False else (bif (!decide (a3 = 0)) then (bif (!decide (a3 = (1 : Int32))) then (wz_cI qf_326 [.inr (.inr (some (1, 0, 0))), .inl a2] μ (fun μ1 v2 => (bif pz_out (((200 : Int32) + ((20 : Int32) * a2)) + (9 : Int32)) 4400 then False else (wz_wr (qz_wI μ1 (2, 0, 0) (((200 : Int32) + ((20 : Int32) * a2)) + (9 : Int32)).toNatClampNeg v2) (fun μ3 => (bif pz_out (((3520 : Int32) + ((10 : Int32) * a1)) + (5 : Int32)) 4400 then False else (bif pz_out (((3520 : Int32) + ((10 : Int32) * a1)) + (5 : Int32)) 4400 then False else (wz_wr (qz_wI μ3 (2, 0, 0) (((3520 : Int32) + ((10 : Int32) * a1)) + (5 : Int32)).toNatClampNeg ((qz_im μ3 2 0 0 (((3520 : Int32) + ((10 : Int32) * a1)) + (5 : Int32)).toNatClampNeg) + (1 : Int32))) (fun μ4 => (wz_cV qf_363 [.inr (.inr (some (1, 0, 0))), .inl a1, .inl a2, .inl a3, .inl a4, .inl (qz_im μ 2 0 0 (((200 : Int32) + ((20 : Int32) * a2)) + (9 : Int32)).toNatClampNeg)] μ4 (fun μ5 => (wz_cV qf_403 [.inr (.inr (some (1, 0, 0))), .inl (0 : Int32), .inl (7 : Int32), .inl (qz_im μ5 2 0 0 3813), .inl a2] μ5 (fun μ6 => (R μ6 (.inl none))) (fun μ6 e => (R μ6 (.inr e))))) (fun μ5 e => (R μ5 (.inr e)))))))))))) (fun μ1 e => (R μ1 (.inr e)))) else (bif pz_out (((200 : Int32) + ((20 : Int32) * a2)) + (9 : Int32)) 4400 then False else (wz_wr (qz_wI μ (2, 0, 0) (((200 : Int32) + ((20 : Int32) * a2)) + (9 : Int32)).toNatClampNeg (3 : Int32)) (fun μ7 => (bif pz_out (((3520 : Int32) + ((10 : Int32) * a1)) + (5 : Int32)) 4400 then False else (bif pz_out (((3520 : Int32) + ((10 : Int32) * a1)) + (5 : Int32)) 4400 then False else (wz_wr (qz_wI μ7 (2, 0, 0) (((3520 : Int32) + ((10 : Int32) * a1)) + (5 : Int32)).toNatClampNeg ((qz_im μ7 2 0 0 (((3520 : Int32) + ((10 : Int32) * a1)) + (5 : Int32)).toNatClampNeg) + (1 : Int32))) (fun μ8 => (wz_cV qf_363 [.inr (.inr (some (1, 0, 0))), .inl a1, .inl a2, .inl a3, .inl a4, .inl (qz_im μ 2 0 0 (((200 : Int32) + ((20 : Int32) * a2)) + (9 : Int32)).toNatClampNeg)] μ8 (fun μ9 => (wz_cV qf_403 [.inr (.inr (some (1, 0, 0))), .inl (0 : Int32), .inl (7 : Int32), .inl (qz_im μ9 2 0 0 3813), .inl a2] μ9 (fun μ10 => (R μ10 (.inl none))) (fun μ10 e => (R μ10 (.inr e))))) (fun μ9 e => (R μ9 (.inr e)))))))))))) else (wz_cV qf_431 [.inr (.inr (some (1, 0, 0))), .inl a2, .inl (3 : Int32)] μ (fun μ11 => (bif pz_out (((3520 : Int32) + ((10 : Int32) * a1)) + (6 : Int32)) 4400 then False else (bif pz_out (((3520 : Int32) + ((10 : Int32) * a1)) + (6 : Int32)) 4400 then False else (wz_wr (qz_wI μ11 (2, 0, 0) (((3520 : Int32) + ((10 : Int32) * a1)) + (6 : Int32)).toNatClampNeg ((qz_im μ11 2 0 0 (((3520 : Int32) + ((10 : Int32) * a1)) + (6 : Int32)).toNatClampNeg) + (1 : Int32))) (fun μ12 => (bif pz_out (((3520 : Int32) + ((10 : Int32) * a1)) + (5 : Int32)) 4400 then False else (bif pz_out (((3520 : Int32) + ((10 : Int32) * a1)) + (5 : Int32)) 4400 then False else (wz_wr (qz_wI μ12 (2, 0, 0) (((3520 : Int32) + ((10 : Int32) * a1)) + (5 : Int32)).toNatClampNeg ((qz_im μ12 2 0 0 (((3520 : Int32) + ((10 : Int32) * a1)) + (5 : Int32)).toNatClampNeg) + (1 : Int32))) (fun μ13 => (wz_cV qf_363 [.inr (.inr (some (1, 0, 0))), .inl a1, .inl a2, .inl a3, .inl a4, .inl (qz_im μ 2 0 0 (((200 : Int32) + ((20 : Int32) * a2)) + (9 : Int32)).toNatClampNeg)] μ13 (fun μ14 => (wz_cV qf_403 [.inr (.inr (some (1, 0, 0))), .inl (0 : Int32), .inl (7 : Int32), .inl (qz_im μ14 2 0 0 3813), .inl a2] μ14 (fun μ15 => (R μ15 (.inl none))) (fun μ15 e => (R μ15 (.inr e))))) (fun μ14 e => (R μ14 (.inr e))))))))))))) (fun μ11 e => (R μ11 (.inr e))))))) :
    wz_call qf_357 [.inr (.inr (some (1, 0, 0))), .inl a1, .inl a2, .inl a3, .inl a4] μ R := wz_mt9 (L := [some (.inr (.inr (some (1, 0, 0)))), some (.inl a1), some (.inl a2), some (.inl a3), some (.inl a4), none]) sw_357 rfl h
/- X12 iLook -/
set_option maxRecDepth 10000 in
set_option maxHeartbeats 200000 in
theorem fw_365 (a1 : Int32) (a2 : Int32) (μ : qz_M) (R : wz_R)
    (h : (bif (!decide (a2 = (7 : Int32))) then (wz_loop qb_365_1 65536 (wz_sk gc_365_2 wz_k0 R) R ([some (.inr (.inr (some (1, 0, 0)))), some (.inl a1), some (.inl a2), some (.inl (a2 - (1 : Int32))), some (.inl (0 : Int32)), some (.inl (0 : Int32)), none, none], [], μ)) else (wz_loop qb_365_1 65536 (wz_sk gc_365_2 wz_k0 R) R ([some (.inr (.inr (some (1, 0, 0)))), some (.inl a1), some (.inl a2), some (.inl (6 : Int32)), some (.inl (0 : Int32)), some (.inl (0 : Int32)), none, none], [], μ)))) :
    wz_call qf_365 [.inr (.inr (some (1, 0, 0))), .inl a1, .inl a2] μ R := wz_mt9 (L := [some (.inr (.inr (some (1, 0, 0)))), some (.inl a1), some (.inl a2), none, none, none, none, none]) sw_365 rfl h
set_option maxRecDepth 10000 in
set_option maxHeartbeats 200000 in
theorem fc_365_2 (x1 : Int32) (x3 : Int32) (x4 : Int32) (μ : qz_M) (k : wz_K) (R : wz_R) (L : qz_L) (hL : qz_fg [true, true, false, true, true, false, false, false] L = [some (.inr (.inr (some (1, 0, 0)))), some (.inl x1), none, some (.inl x3), some (.inl x4), none, none, none])
    (h : (bif pz_out (((3520 : Int32) + ((10 : Int32) * x1)) + (4 : Int32)) 4400 then False else (bif pz_out (((3520 : Int32) + ((10 : Int32) * x1)) + (4 : Int32)) 4400 then False else (wz_wr (qz_wI μ (2, 0, 0) (((3520 : Int32) + ((10 : Int32) * x1)) + (4 : Int32)).toNatClampNeg ((qz_im μ 2 0 0 (((3520 : Int32) + ((10 : Int32) * x1)) + (4 : Int32)).toNatClampNeg) + (1 : Int32))) (fun μ1 => (bif pz_out (((3520 : Int32) + ((10 : Int32) * x1)) + (7 : Int32)) 4400 then False else (wz_wr (qz_wI μ1 (2, 0, 0) (((3520 : Int32) + ((10 : Int32) * x1)) + (7 : Int32)).toNatClampNeg (qz_im μ1 2 0 0 0)) (fun μ2 => (bif decide (x3 = (6 : Int32)) then (R μ2 (.inl (some (.inl x4)))) else (bif pz_out (((3520 : Int32) + ((10 : Int32) * x1)) + (1 : Int32)) 4400 then False else (bif decide (x4 < ((4 : Int32) - (qz_im μ2 2 0 0 (((3520 : Int32) + ((10 : Int32) * x1)) + (1 : Int32)).toNatClampNeg))) then (R μ2 (.inl (some (.inl x4)))) else (bif pz_out ((3510 : Int32) + x3) 4400 then False else (wz_wr (qz_wI μ2 (2, 0, 0) ((3510 : Int32) + x3).toNatClampNeg ((qz_im μ2 2 0 0 0) + (24 : Int32))) (fun μ3 => (R μ3 (.inl (some (.inl x4)))))))))))))))))) :
    gc_365_2 k R (L, [], μ) := wz_fgd hL h
set_option maxRecDepth 10000 in
set_option maxHeartbeats 200000 in
theorem fb_365_1 (x1 : Int32) (x2 : Int32) (x3 : Int32) (x4 : Int32) (x5 : Int32) (μ : qz_M) (k : wz_K) (R : wz_R) (L : qz_L) (hL : qz_fg [true, true, true, true, true, true, false, false] L = [some (.inr (.inr (some (1, 0, 0)))), some (.inl x1), some (.inl x2), some (.inl x3), some (.inl x4), some (.inl x5), none, none])
    (h : (bif decide ((qz_im μ 2 0 0 102) ≤ x5) then (k 0 ([some (.inr (.inr (some (1, 0, 0)))), some (.inl x1), some (.inl x2), some (.inl x3), some (.inl x4), some (.inl x5), none, none], [], μ)) else (bif pz_out (((200 : Int32) + ((20 : Int32) * x5)) + (10 : Int32)) 4400 then False else (bif decide ((1 : Int32) < (qz_im μ 2 0 0 (((200 : Int32) + ((20 : Int32) * x5)) + (10 : Int32)).toNatClampNeg)) then (k 1 ([some (.inr (.inr (some (1, 0, 0)))), some (.inl x1), some (.inl x2), some (.inl x3), some (.inl x4), some (.inl (x5 + (1 : Int32))), some (.inl (0 : Int32)), some (.inl (-1 : Int32))], [], μ)) else (bif pz_out (((200 : Int32) + ((20 : Int32) * x5)) + (11 : Int32)) 4400 then False else (bif (!decide ((qz_im μ 2 0 0 (((200 : Int32) + ((20 : Int32) * x5)) + (11 : Int32)).toNatClampNeg) = x3)) then (k 1 ([some (.inr (.inr (some (1, 0, 0)))), some (.inl x1), some (.inl x2), some (.inl x3), some (.inl x4), some (.inl (x5 + (1 : Int32))), some (.inl (0 : Int32)), some (.inl (-1 : Int32))], [], μ)) else (wz_cI qf_364 [.inr (.inr (some (1, 0, 0))), .inl x1, .inl x5] μ (fun μ1 v2 => (bif decide (v2 = (-1 : Int32)) then (k 1 ([some (.inr (.inr (some (1, 0, 0)))), some (.inl x1), some (.inl x2), some (.inl x3), some (.inl x4), some (.inl (x5 + (1 : Int32))), some (.inl (1 : Int32)), some (.inl v2)], [], μ1)) else (wz_cV qf_357 [.inr (.inr (some (1, 0, 0))), .inl x1, .inl x5, .inl v2, .inl x2] μ1 (fun μ3 => (k 1 ([some (.inr (.inr (some (1, 0, 0)))), some (.inl x1), some (.inl x2), some (.inl x3), some (.inl (x4 + (1 : Int32))), some (.inl (x5 + (1 : Int32))), some (.inl (1 : Int32)), some (.inl v2)], [], μ3))) (fun μ3 e => (R μ3 (.inr e)))))) (fun μ1 e => (R μ1 (.inr e)))))))))) :
    gb_365_1 k R (L, [], μ) := wz_fgd hL h
/- X12 iSearch -/
set_option maxRecDepth 10000 in
set_option maxHeartbeats 200000 in
theorem fw_369 (a1 : Int32) (a2 : Int32) (μ : qz_M) (R : wz_R)
    (h : (wz_loop qb_369_1 65536 (wz_sk gc_369_4 wz_k0 R) R ([some (.inr (.inr (some (1, 0, 0)))), some (.inl a1), some (.inl a2), some (.inl (0 : Int32)), none], [], μ))) :
    wz_call qf_369 [.inr (.inr (some (1, 0, 0))), .inl a1, .inl a2] μ R := wz_mt9 (L := [some (.inr (.inr (some (1, 0, 0)))), some (.inl a1), some (.inl a2), none, none]) sw_369 rfl h
set_option maxRecDepth 10000 in
set_option maxHeartbeats 200000 in
theorem fc_369_4 (x1 : Int32) (x2 : Int32) (μ : qz_M) (k : wz_K) (R : wz_R) (L : qz_L) (hL : qz_fg [true, true, true, false, false] L = [some (.inr (.inr (some (1, 0, 0)))), some (.inl x1), some (.inl x2), none, none])
    (h : (wz_loop qb_369_2 65536 (wz_sk gc_369_3 k R) R ([some (.inr (.inr (some (1, 0, 0)))), some (.inl x1), some (.inl x2), some (.inl (0 : Int32)), some (.inl (0 : Int32))], [], μ))) :
    gc_369_4 k R (L, [], μ) := wz_fgd hL h
set_option maxRecDepth 10000 in
set_option maxHeartbeats 200000 in
theorem fb_369_1 (x1 : Int32) (x2 : Int32) (x3 : Int32) (μ : qz_M) (k : wz_K) (R : wz_R) (L : qz_L) (hL : qz_fg [true, true, true, true, false] L = [some (.inr (.inr (some (1, 0, 0)))), some (.inl x1), some (.inl x2), some (.inl x3), none])
    (h : (bif decide ((4400 : Int32) ≤ x3) then (k 0 ([some (.inr (.inr (some (1, 0, 0)))), some (.inl x1), some (.inl x2), some (.inl x3), none], [], μ)) else (bif pz_out x3 4400 then False else (bif pz_out x3 4400 then False else (wz_wr (qz_wI μ (2, 0, 0) x3.toNatClampNeg (qz_im μ 100 0 0 x3.toNatClampNeg)) (fun μ1 => (k 1 ([some (.inr (.inr (some (1, 0, 0)))), some (.inl x1), some (.inl x2), some (.inl (x3 + (1 : Int32))), none], [], μ1)))))))) :
    gb_369_1 k R (L, [], μ) := wz_fgd hL h
set_option maxRecDepth 10000 in
set_option maxHeartbeats 200000 in
theorem fc_369_3 (x3 : Int32) (μ : qz_M) (k : wz_K) (R : wz_R) (L : qz_L) (hL : qz_fg [false, false, false, true, false] L = [none, none, none, some (.inl x3), none])
    (h : (R μ (.inl (some (.inl x3))))) :
    gc_369_3 k R (L, [], μ) := wz_fgd hL h
set_option maxRecDepth 10000 in
set_option maxHeartbeats 200000 in
theorem fb_369_2 (x1 : Int32) (x2 : Int32) (x3 : Int32) (x4 : Int32) (μ : qz_M) (k : wz_K) (R : wz_R) (L : qz_L) (hL : qz_fg [true, true, true, true, true] L = [some (.inr (.inr (some (1, 0, 0)))), some (.inl x1), some (.inl x2), some (.inl x3), some (.inl x4)])
    (h : (bif decide ((3 : Int32) ≤ x4) then (k 0 ([some (.inr (.inr (some (1, 0, 0)))), some (.inl x1), some (.inl x2), some (.inl x3), some (.inl x4)], [], μ)) else (wz_wr (qz_wI μ (2, 0, 0) 0 ((qz_im μ 2 0 0 0) + (1 : Int32))) (fun μ1 => (wz_cV qf_471 [.inr (.inr (some (1, 0, 0)))] μ1 (fun μ2 => (wz_cI qf_373 [.inl x2, .inl x4] μ2 (fun μ3 v4 => (wz_cI qf_365 [.inr (.inr (some (1, 0, 0))), .inl x1, .inl v4] μ3 (fun μ5 v6 => (k 1 ([some (.inr (.inr (some (1, 0, 0)))), some (.inl x1), some (.inl x2), some (.inl (x3 + v6)), some (.inl (x4 + (1 : Int32)))], [], μ5))) (fun μ5 e => (R μ5 (.inr e))))) (fun μ3 e => (R μ3 (.inr e))))) (fun μ2 e => (R μ2 (.inr e)))))))) :
    gb_369_2 k R (L, [], μ) := wz_fgd hL h
/- X12 iFindMost -/
set_option maxRecDepth 10000 in
set_option maxHeartbeats 200000 in
theorem fw_356 (a1 : Int32) (a2 : Int32) (μ : qz_M) (R : wz_R)
    (h : (wz_cV qf_351 [.inr (.inr (some (1, 0, 0))), .inl (0 : Int32)] μ (fun μ1 => (bif pz_out (((3520 : Int32) + ((10 : Int32) * a1)) + (0 : Int32)) 4400 then False else (wz_cV qf_460 [.inr (.inr (some (1, 0, 0))), .inl ((((24 : Int32) * a2) + (qz_im μ1 2 0 0 (((3520 : Int32) + ((10 : Int32) * a1)) + (0 : Int32)).toNatClampNeg)) - (1 : Int32))] μ1 (fun μ2 => (wz_loop qb_356_1 65536 (wz_sk gc_356_4 wz_k0 R) R ([some (.inr (.inr (some (1, 0, 0)))), some (.inl a1), some (.inl a2), some (.inl (0 : Int32)), none, none, none], [], μ2))) (fun μ2 e => (R μ2 (.inr e)))))) (fun μ1 e => (R μ1 (.inr e))))) :
    wz_call qf_356 [.inr (.inr (some (1, 0, 0))), .inl a1, .inl a2] μ R := wz_mt9 (L := [some (.inr (.inr (some (1, 0, 0)))), some (.inl a1), some (.inl a2), none, none, none, none]) sw_356 rfl h
set_option maxRecDepth 10000 in
set_option maxHeartbeats 200000 in
theorem fc_356_4 (x1 : Int32) (μ : qz_M) (k : wz_K) (R : wz_R) (L : qz_L) (hL : qz_fg [true, true, false, false, false, false, false] L = [some (.inr (.inr (some (1, 0, 0)))), some (.inl x1), none, none, none, none, none])
    (h : (wz_wr (qz_wI μ (1, 0, 0) 31 (-1 : Int32)) (fun μ1 => (wz_loop qb_356_2 65536 (wz_sk gc_356_3 k R) R ([some (.inr (.inr (some (1, 0, 0)))), some (.inl x1), none, some (.inl ((qz_im μ 2 0 0 1200) + (1 : Int32))), some (.inl (0 : Int32)), none, none], [], μ1))))) :
    gc_356_4 k R (L, [], μ) := wz_fgd hL h
set_option maxRecDepth 10000 in
set_option maxHeartbeats 200000 in
theorem fb_356_1 (x1 : Int32) (x3 : Int32) (μ : qz_M) (k : wz_K) (R : wz_R) (L : qz_L) (hL : qz_fg [true, true, false, true, false, false, false] L = [some (.inr (.inr (some (1, 0, 0)))), some (.inl x1), none, some (.inl x3), none, none, none])
    (h : (bif decide ((4400 : Int32) ≤ x3) then (k 0 ([some (.inr (.inr (some (1, 0, 0)))), some (.inl x1), none, some (.inl x3), none, none, none], [], μ)) else (bif pz_out x3 4400 then False else (bif pz_out x3 4400 then False else (wz_wr (qz_wI μ (100, 0, 0) x3.toNatClampNeg (qz_im μ 2 0 0 x3.toNatClampNeg)) (fun μ1 => (k 1 ([some (.inr (.inr (some (1, 0, 0)))), some (.inl x1), none, some (.inl (x3 + (1 : Int32))), none, none, none], [], μ1)))))))) :
    gb_356_1 k R (L, [], μ) := wz_fgd hL h
set_option maxRecDepth 10000 in
set_option maxHeartbeats 200000 in
theorem fc_356_3  (μ : qz_M) (k : wz_K) (R : wz_R) (L : qz_L) (hL : qz_fg [true, false, false, false, false, false, false] L = [some (.inr (.inr (some (1, 0, 0)))), none, none, none, none, none, none])
    (h : (wz_cV qf_493 [.inr (.inr (some (1, 0, 0))), .inl (0 : Int32)] μ (fun μ1 => (R μ1 (.inl none))) (fun μ1 e => (R μ1 (.inr e))))) :
    gc_356_3 k R (L, [], μ) := wz_fgd hL h
set_option maxRecDepth 10000 in
set_option maxHeartbeats 200000 in
theorem fb_356_2 (x1 : Int32) (x3 : Int32) (x4 : Int32) (μ : qz_M) (k : wz_K) (R : wz_R) (L : qz_L) (hL : qz_fg [true, true, false, true, true, false, false] L = [some (.inr (.inr (some (1, 0, 0)))), some (.inl x1), none, some (.inl x3), some (.inl x4), none, none])
    (h : (bif decide (((x3 * x3) * x3) ≤ x4) then (k 0 ([some (.inr (.inr (some (1, 0, 0)))), some (.inl x1), none, some (.inl x3), some (.inl x4), none, none], [], μ)) else (bif decide (x3 = 0) then False else (bif decide (x3 = 0) then False else (bif decide ((qz_im μ 2 0 0 1200) ≤ ((x4 / x3) / x3)) then (bif decide (x3 = 0) then False else (bif decide (x3 = 0) then False else (bif decide ((qz_im μ 2 0 0 1200) ≤ ((x4 / x3) - (x4 / x3) / x3 * x3)) then (bif decide (x3 = 0) then False else (bif decide ((qz_im μ 2 0 0 1200) ≤ (x4 - x4 / x3 * x3)) then (wz_cI qf_369 [.inr (.inr (some (1, 0, 0))), .inl x1, .inl (777 : Int32)] μ (fun μ1 v2 => (bif decide (v2 ≤ (qz_im μ1 1 0 0 31)) then (k 1 ([some (.inr (.inr (some (1, 0, 0)))), some (.inl x1), none, some (.inl x3), some (.inl (x4 + (1 : Int32))), some (.inl (777 : Int32)), some (.inl v2)], [], μ1)) else (wz_wr (qz_wI μ1 (1, 0, 0) 31 v2) (fun μ3 => (wz_wr (qz_wI μ3 (1, 0, 0) 32 (777 : Int32)) (fun μ4 => (k 1 ([some (.inr (.inr (some (1, 0, 0)))), some (.inl x1), none, some (.inl x3), some (.inl (x4 + (1 : Int32))), some (.inl (777 : Int32)), some (.inl v2)], [], μ4)))))))) (fun μ1 e => (R μ1 (.inr e)))) else (wz_cI qf_369 [.inr (.inr (some (1, 0, 0))), .inl x1, .inl ((770 : Int32) + ((x4 - x4 / x3 * x3) + (1 : Int32)))] μ (fun μ5 v6 => (bif decide (v6 ≤ (qz_im μ5 1 0 0 31)) then (k 1 ([some (.inr (.inr (some (1, 0, 0)))), some (.inl x1), none, some (.inl x3), some (.inl (x4 + (1 : Int32))), some (.inl ((770 : Int32) + ((x4 - x4 / x3 * x3) + (1 : Int32)))), some (.inl v6)], [], μ5)) else (wz_wr (qz_wI μ5 (1, 0, 0) 31 v6) (fun μ7 => (wz_wr (qz_wI μ7 (1, 0, 0) 32 ((770 : Int32) + ((x4 - x4 / x3 * x3) + (1 : Int32)))) (fun μ8 => (k 1 ([some (.inr (.inr (some (1, 0, 0)))), some (.inl x1), none, some (.inl x3), some (.inl (x4 + (1 : Int32))), some (.inl ((770 : Int32) + ((x4 - x4 / x3 * x3) + (1 : Int32)))), some (.inl v6)], [], μ8)))))))) (fun μ5 e => (R μ5 (.inr e)))))) else (bif decide (x3 = 0) then False else (bif decide ((qz_im μ 2 0 0 1200) ≤ (x4 - x4 / x3 * x3)) then (wz_cI qf_369 [.inr (.inr (some (1, 0, 0))), .inl x1, .inl (((700 : Int32) + ((10 : Int32) * (((x4 / x3) - (x4 / x3) / x3 * x3) + (1 : Int32)))) + (7 : Int32))] μ (fun μ9 v10 => (bif decide (v10 ≤ (qz_im μ9 1 0 0 31)) then (k 1 ([some (.inr (.inr (some (1, 0, 0)))), some (.inl x1), none, some (.inl x3), some (.inl (x4 + (1 : Int32))), some (.inl (((700 : Int32) + ((10 : Int32) * (((x4 / x3) - (x4 / x3) / x3 * x3) + (1 : Int32)))) + (7 : Int32))), some (.inl v10)], [], μ9)) else (wz_wr (qz_wI μ9 (1, 0, 0) 31 v10) (fun μ11 => (wz_wr (qz_wI μ11 (1, 0, 0) 32 (((700 : Int32) + ((10 : Int32) * (((x4 / x3) - (x4 / x3) / x3 * x3) + (1 : Int32)))) + (7 : Int32))) (fun μ12 => (k 1 ([some (.inr (.inr (some (1, 0, 0)))), some (.inl x1), none, some (.inl x3), some (.inl (x4 + (1 : Int32))), some (.inl (((700 : Int32) + ((10 : Int32) * (((x4 / x3) - (x4 / x3) / x3 * x3) + (1 : Int32)))) + (7 : Int32))), some (.inl v10)], [], μ12)))))))) (fun μ9 e => (R μ9 (.inr e)))) else (wz_cI qf_369 [.inr (.inr (some (1, 0, 0))), .inl x1, .inl (((700 : Int32) + ((10 : Int32) * (((x4 / x3) - (x4 / x3) / x3 * x3) + (1 : Int32)))) + ((x4 - x4 / x3 * x3) + (1 : Int32)))] μ (fun μ13 v14 => (bif decide (v14 ≤ (qz_im μ13 1 0 0 31)) then (k 1 ([some (.inr (.inr (some (1, 0, 0)))), some (.inl x1), none, some (.inl x3), some (.inl (x4 + (1 : Int32))), some (.inl (((700 : Int32) + ((10 : Int32) * (((x4 / x3) - (x4 / x3) / x3 * x3) + (1 : Int32)))) + ((x4 - x4 / x3 * x3) + (1 : Int32)))), some (.inl v14)], [], μ13)) else (wz_wr (qz_wI μ13 (1, 0, 0) 31 v14) (fun μ15 => (wz_wr (qz_wI μ15 (1, 0, 0) 32 (((700 : Int32) + ((10 : Int32) * (((x4 / x3) - (x4 / x3) / x3 * x3) + (1 : Int32)))) + ((x4 - x4 / x3 * x3) + (1 : Int32)))) (fun μ16 => (k 1 ([some (.inr (.inr (some (1, 0, 0)))), some (.inl x1), none, some (.inl x3), some (.inl (x4 + (1 : Int32))), some (.inl (((700 : Int32) + ((10 : Int32) * (((x4 / x3) - (x4 / x3) / x3 * x3) + (1 : Int32)))) + ((x4 - x4 / x3 * x3) + (1 : Int32)))), some (.inl v14)], [], μ16)))))))) (fun μ13 e => (R μ13 (.inr e))))))))) else (bif decide (x3 = 0) then False else (bif decide (x3 = 0) then False else (bif decide ((qz_im μ 2 0 0 1200) ≤ ((x4 / x3) - (x4 / x3) / x3 * x3)) then (bif decide (x3 = 0) then False else (bif decide ((qz_im μ 2 0 0 1200) ≤ (x4 - x4 / x3 * x3)) then (wz_cI qf_369 [.inr (.inr (some (1, 0, 0))), .inl x1, .inl ((((100 : Int32) * (((x4 / x3) / x3) + (1 : Int32))) + (70 : Int32)) + (7 : Int32))] μ (fun μ17 v18 => (bif decide (v18 ≤ (qz_im μ17 1 0 0 31)) then (k 1 ([some (.inr (.inr (some (1, 0, 0)))), some (.inl x1), none, some (.inl x3), some (.inl (x4 + (1 : Int32))), some (.inl ((((100 : Int32) * (((x4 / x3) / x3) + (1 : Int32))) + (70 : Int32)) + (7 : Int32))), some (.inl v18)], [], μ17)) else (wz_wr (qz_wI μ17 (1, 0, 0) 31 v18) (fun μ19 => (wz_wr (qz_wI μ19 (1, 0, 0) 32 ((((100 : Int32) * (((x4 / x3) / x3) + (1 : Int32))) + (70 : Int32)) + (7 : Int32))) (fun μ20 => (k 1 ([some (.inr (.inr (some (1, 0, 0)))), some (.inl x1), none, some (.inl x3), some (.inl (x4 + (1 : Int32))), some (.inl ((((100 : Int32) * (((x4 / x3) / x3) + (1 : Int32))) + (70 : Int32)) + (7 : Int32))), some (.inl v18)], [], μ20)))))))) (fun μ17 e => (R μ17 (.inr e)))) else (wz_cI qf_369 [.inr (.inr (some (1, 0, 0))), .inl x1, .inl ((((100 : Int32) * (((x4 / x3) / x3) + (1 : Int32))) + (70 : Int32)) + ((x4 - x4 / x3 * x3) + (1 : Int32)))] μ (fun μ21 v22 => (bif decide (v22 ≤ (qz_im μ21 1 0 0 31)) then (k 1 ([some (.inr (.inr (some (1, 0, 0)))), some (.inl x1), none, some (.inl x3), some (.inl (x4 + (1 : Int32))), some (.inl ((((100 : Int32) * (((x4 / x3) / x3) + (1 : Int32))) + (70 : Int32)) + ((x4 - x4 / x3 * x3) + (1 : Int32)))), some (.inl v22)], [], μ21)) else (wz_wr (qz_wI μ21 (1, 0, 0) 31 v22) (fun μ23 => (wz_wr (qz_wI μ23 (1, 0, 0) 32 ((((100 : Int32) * (((x4 / x3) / x3) + (1 : Int32))) + (70 : Int32)) + ((x4 - x4 / x3 * x3) + (1 : Int32)))) (fun μ24 => (k 1 ([some (.inr (.inr (some (1, 0, 0)))), some (.inl x1), none, some (.inl x3), some (.inl (x4 + (1 : Int32))), some (.inl ((((100 : Int32) * (((x4 / x3) / x3) + (1 : Int32))) + (70 : Int32)) + ((x4 - x4 / x3 * x3) + (1 : Int32)))), some (.inl v22)], [], μ24)))))))) (fun μ21 e => (R μ21 (.inr e)))))) else (bif decide (x3 = 0) then False else (bif decide ((qz_im μ 2 0 0 1200) ≤ (x4 - x4 / x3 * x3)) then (wz_cI qf_369 [.inr (.inr (some (1, 0, 0))), .inl x1, .inl ((((100 : Int32) * (((x4 / x3) / x3) + (1 : Int32))) + ((10 : Int32) * (((x4 / x3) - (x4 / x3) / x3 * x3) + (1 : Int32)))) + (7 : Int32))] μ (fun μ25 v26 => (bif decide (v26 ≤ (qz_im μ25 1 0 0 31)) then (k 1 ([some (.inr (.inr (some (1, 0, 0)))), some (.inl x1), none, some (.inl x3), some (.inl (x4 + (1 : Int32))), some (.inl ((((100 : Int32) * (((x4 / x3) / x3) + (1 : Int32))) + ((10 : Int32) * (((x4 / x3) - (x4 / x3) / x3 * x3) + (1 : Int32)))) + (7 : Int32))), some (.inl v26)], [], μ25)) else (wz_wr (qz_wI μ25 (1, 0, 0) 31 v26) (fun μ27 => (wz_wr (qz_wI μ27 (1, 0, 0) 32 ((((100 : Int32) * (((x4 / x3) / x3) + (1 : Int32))) + ((10 : Int32) * (((x4 / x3) - (x4 / x3) / x3 * x3) + (1 : Int32)))) + (7 : Int32))) (fun μ28 => (k 1 ([some (.inr (.inr (some (1, 0, 0)))), some (.inl x1), none, some (.inl x3), some (.inl (x4 + (1 : Int32))), some (.inl ((((100 : Int32) * (((x4 / x3) / x3) + (1 : Int32))) + ((10 : Int32) * (((x4 / x3) - (x4 / x3) / x3 * x3) + (1 : Int32)))) + (7 : Int32))), some (.inl v26)], [], μ28)))))))) (fun μ25 e => (R μ25 (.inr e)))) else (wz_cI qf_369 [.inr (.inr (some (1, 0, 0))), .inl x1, .inl ((((100 : Int32) * (((x4 / x3) / x3) + (1 : Int32))) + ((10 : Int32) * (((x4 / x3) - (x4 / x3) / x3 * x3) + (1 : Int32)))) + ((x4 - x4 / x3 * x3) + (1 : Int32)))] μ (fun μ29 v30 => (bif decide (v30 ≤ (qz_im μ29 1 0 0 31)) then (k 1 ([some (.inr (.inr (some (1, 0, 0)))), some (.inl x1), none, some (.inl x3), some (.inl (x4 + (1 : Int32))), some (.inl ((((100 : Int32) * (((x4 / x3) / x3) + (1 : Int32))) + ((10 : Int32) * (((x4 / x3) - (x4 / x3) / x3 * x3) + (1 : Int32)))) + ((x4 - x4 / x3 * x3) + (1 : Int32)))), some (.inl v30)], [], μ29)) else (wz_wr (qz_wI μ29 (1, 0, 0) 31 v30) (fun μ31 => (wz_wr (qz_wI μ31 (1, 0, 0) 32 ((((100 : Int32) * (((x4 / x3) / x3) + (1 : Int32))) + ((10 : Int32) * (((x4 / x3) - (x4 / x3) / x3 * x3) + (1 : Int32)))) + ((x4 - x4 / x3 * x3) + (1 : Int32)))) (fun μ32 => (k 1 ([some (.inr (.inr (some (1, 0, 0)))), some (.inl x1), none, some (.inl x3), some (.inl (x4 + (1 : Int32))), some (.inl ((((100 : Int32) * (((x4 / x3) / x3) + (1 : Int32))) + ((10 : Int32) * (((x4 / x3) - (x4 / x3) / x3 * x3) + (1 : Int32)))) + ((x4 - x4 / x3 * x3) + (1 : Int32)))), some (.inl v30)], [], μ32)))))))) (fun μ29 e => (R μ29 (.inr e)))))))))))))) :
    gb_356_2 k R (L, [], μ) := wz_fgd hL h
