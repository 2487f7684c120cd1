/-! what the methods ask, 26 -/
/- X12 kPaysGrowers -/
set_option maxRecDepth 10000 in
set_option maxHeartbeats 200000 in
theorem fw_413  (μ : qz_M) (R : wz_R)
    (h : (wz_loop qb_413_1 65536 (wz_sk gc_413_2 wz_k0 R) R ([some (.inr (.inr (some (1, 0, 0)))), some (.inl (0 : Int32)), none], [], μ))) :
    wz_call qf_413 [.inr (.inr (some (1, 0, 0)))] μ R := wz_mt9 (L := [some (.inr (.inr (some (1, 0, 0)))), none, none]) sw_413 rfl h
set_option maxRecDepth 10000 in
set_option maxHeartbeats 200000 in
theorem fc_413_2  (μ : qz_M) (k : wz_K) (R : wz_R) (L : qz_L) (hL : qz_fg [false, false, false] L = [none, none, none])
    (h : (R μ (.inl none))) :
    gc_413_2 k R (L, [], μ) := wz_fgd hL h
set_option maxRecDepth 10000 in
set_option maxHeartbeats 200000 in
theorem fb_413_1 (x1 : Int32) (μ : qz_M) (k : wz_K) (R : wz_R) (L : qz_L) (hL : qz_fg [true, true, false] L = [some (.inr (.inr (some (1, 0, 0)))), some (.inl x1), none])
    (h : (bif decide ((qz_im μ 2 0 0 101) ≤ x1) then (k 0 ([some (.inr (.inr (some (1, 0, 0)))), some (.inl x1), none], [], μ)) else (bif pz_out (((3820 : Int32) + ((5 : Int32) * x1)) + (0 : Int32)) 4400 then False else (bif decide ((qz_im μ 2 0 0 (((3820 : Int32) + ((5 : Int32) * x1)) + (0 : Int32)).toNatClampNeg) ≤ 0) then (k 1 ([some (.inr (.inr (some (1, 0, 0)))), some (.inl (x1 + (1 : Int32))), some (.inl (qz_im μ 2 0 0 (((3820 : Int32) + ((5 : Int32) * x1)) + (0 : Int32)).toNatClampNeg))], [], μ)) else (wz_cV qf_403 [.inr (.inr (some (1, 0, 0))), .inl (0 : Int32), .inl (2 : Int32), .inl (qz_im μ 2 0 0 (((3820 : Int32) + ((5 : Int32) * x1)) + (0 : Int32)).toNatClampNeg), .inl (-1 : Int32)] μ (fun μ1 => (bif pz_out (((3820 : Int32) + ((5 : Int32) * x1)) + (0 : Int32)) 4400 then False else (wz_wr (qz_wI μ1 (2, 0, 0) (((3820 : Int32) + ((5 : Int32) * x1)) + (0 : Int32)).toNatClampNeg (0 : Int32)) (fun μ2 => (bif pz_out (((3820 : Int32) + ((5 : Int32) * x1)) + (4 : Int32)) 4400 then False else (bif pz_out (((3820 : Int32) + ((5 : Int32) * x1)) + (4 : Int32)) 4400 then False else (wz_wr (qz_wI μ2 (2, 0, 0) (((3820 : Int32) + ((5 : Int32) * x1)) + (4 : Int32)).toNatClampNeg ((qz_im μ2 2 0 0 (((3820 : Int32) + ((5 : Int32) * x1)) + (4 : Int32)).toNatClampNeg) + (qz_im μ 2 0 0 (((3820 : Int32) + ((5 : Int32) * x1)) + (0 : Int32)).toNatClampNeg))) (fun μ3 => (k 1 ([some (.inr (.inr (some (1, 0, 0)))), some (.inl (x1 + (1 : Int32))), some (.inl (qz_im μ 2 0 0 (((3820 : Int32) + ((5 : Int32) * x1)) + (0 : Int32)).toNatClampNeg))], [], μ3)))))))))) (fun μ1 e => (R μ1 (.inr e)))))))) :
    gb_413_1 k R (L, [], μ) := wz_fgd hL h
/- X12 kToResult -/
/- X12 kClose -/
set_option maxRecDepth 10000 in
set_option maxHeartbeats 200000 in
theorem fw_402 (a1 : Int32) (μ : qz_M) (R : wz_R)
    (h : (wz_cI qf_492 [.inr (.inr (some (1, 0, 0)))] μ (fun μ1 v2 => (wz_cV qf_403 [.inr (.inr (some (1, 0, 0))), .inl (0 : Int32), .inl (4 : Int32), .inl ((qz_im μ 2 0 0 3811) * v2), .inl (-1 : Int32)] μ1 (fun μ3 => (wz_cV qf_463 [.inr (.inr (some (1, 0, 0)))] μ3 (fun μ4 => (wz_loop qb_402_1 65536 (wz_sk gc_402_2 wz_k0 R) R ([some (.inr (.inr (some (1, 0, 0)))), some (.inl a1), some (.inl (0 : Int32))], [], μ4))) (fun μ4 e => (R μ4 (.inr e))))) (fun μ3 e => (R μ3 (.inr e))))) (fun μ1 e => (R μ1 (.inr e))))) :
    wz_call qf_402 [.inr (.inr (some (1, 0, 0))), .inl a1] μ R := wz_mt9 (L := [some (.inr (.inr (some (1, 0, 0)))), some (.inl a1), none]) sw_402 rfl h
set_option maxRecDepth 10000 in
set_option maxHeartbeats 200000 in
theorem fb_402_1 (x1 : Int32) (x2 : Int32) (μ : qz_M) (k : wz_K) (R : wz_R) (L : qz_L) (hL : qz_fg [true, true, true] L = [some (.inr (.inr (some (1, 0, 0)))), some (.inl x1), some (.inl x2)])
    (h : (bif decide ((qz_im μ 2 0 0 3815) ≤ x2) then (k 0 ([some (.inr (.inr (some (1, 0, 0)))), some (.inl x1), some (.inl x2)], [], μ)) else (bif pz_out (((3850 : Int32) + ((8 : Int32) * x2)) + (2 : Int32)) 4400 then False else (bif (!decide ((qz_im μ 2 0 0 (((3850 : Int32) + ((8 : Int32) * x2)) + (2 : Int32)).toNatClampNeg) = 0)) then (k 1 ([some (.inr (.inr (some (1, 0, 0)))), some (.inl x1), some (.inl (x2 + (1 : Int32)))], [], μ)) else (wz_cV qf_408 [.inr (.inr (some (1, 0, 0))), .inl x2] μ (fun μ1 => (k 1 ([some (.inr (.inr (some (1, 0, 0)))), some (.inl x1), some (.inl (x2 + (1 : Int32)))], [], μ1))) (fun μ1 e => (R μ1 (.inr e)))))))) :
    gb_402_1 k R (L, [], μ) := wz_fgd hL h
/- X12 xHour -/
set_option maxRecDepth 10000 in
set_option maxHeartbeats 200000 in
theorem fw_553  (μ : qz_M) (R : wz_R)
    (h : (wz_wr (qz_wI μ (2, 0, 0) 0 ((qz_im μ 2 0 0 0) + (1 : Int32))) (fun μ1 => (wz_cV qf_505 [.inr (.inr (some (1, 0, 0)))] μ1 (fun μ2 => (wz_cV qf_471 [.inr (.inr (some (1, 0, 0)))] μ2 (fun μ3 => (wz_cV qf_358 [.inr (.inr (some (1, 0, 0)))] μ3 (fun μ4 => (wz_cV qf_301 [.inr (.inr (some (1, 0, 0)))] μ4 (fun μ5 => (wz_cV qf_512 [.inr (.inr (some (1, 0, 0)))] μ5 (fun μ6 => (bif (!decide (((qz_im μ6 2 0 0 0) - (qz_im μ6 2 0 0 0) / (24 : Int32) * (24 : Int32)) = 0)) then (R μ6 (.inl none)) else (wz_cV qf_265 [.inr (.inr (some (1, 0, 0))), .inl (((qz_im μ6 2 0 0 0) / (24 : Int32)) - (1 : Int32))] μ6 (fun μ7 => (wz_cV qf_402 [.inr (.inr (some (1, 0, 0))), .inl (((qz_im μ7 2 0 0 0) / (24 : Int32)) - (1 : Int32))] μ7 (fun μ8 => (R μ8 (.inl none))) (fun μ8 e => (R μ8 (.inr e))))) (fun μ7 e => (R μ7 (.inr e)))))) (fun μ6 e => (R μ6 (.inr e))))) (fun μ5 e => (R μ5 (.inr e))))) (fun μ4 e => (R μ4 (.inr e))))) (fun μ3 e => (R μ3 (.inr e))))) (fun μ2 e => (R μ2 (.inr e))))))) :
    wz_call qf_553 [.inr (.inr (some (1, 0, 0)))] μ R := wz_mt9 (L := [some (.inr (.inr (some (1, 0, 0))))]) sw_553 rfl h
/- X12 pass -/
set_option maxRecDepth 10000 in
set_option maxHeartbeats 200000 in
theorem fw_450 (a1 : Int32) (μ : qz_M) (R : wz_R)
    (h : (bif decide (a1 < (1 : Int32)) then (wz_wr (qz_wI μ (1, 0, 0) 2 (1 : Int32)) (fun μ1 => (R μ1 (.inl (some (.inl (0 : Int32))))))) else (bif decide ((72 : Int32) < a1) then (wz_wr (qz_wI μ (1, 0, 0) 2 (1 : Int32)) (fun μ2 => (R μ2 (.inl (some (.inl (0 : Int32))))))) else (wz_wr (qz_wI μ (1, 0, 0) 2 (0 : Int32)) (fun μ3 => (bif decide ((671 : Int32) < ((qz_im μ3 2 0 0 0) + a1)) then (wz_wr (qz_wI μ3 (1, 0, 0) 2 (2 : Int32)) (fun μ4 => (R μ4 (.inl (some (.inl (0 : Int32))))))) else (wz_wr (qz_wI μ3 (1, 0, 0) 2 (0 : Int32)) (fun μ5 => (bif (!decide ((qz_im μ5 1 0 0 35) = 0)) then (wz_loop qb_450_1 65536 (wz_sk gc_450_2 wz_k0 R) R ([some (.inr (.inr (some (1, 0, 0)))), some (.inl a1), some (.inl (0 : Int32))], [], μ5)) else (wz_cV qf_557 [.inr (.inr (some (1, 0, 0))), .inl (-1 : Int32)] μ5 (fun μ6 => (wz_cV qf_563 [.inr (.inr (some (1, 0, 0))), .inl (27 : Int32), .inl a1, .inl (0 : Int32), .inl (0 : Int32), .inl (0 : Int32), .inl (0 : Int32), .inl (0 : Int32)] μ6 (fun μ7 => (wz_loop qb_450_1 65536 (wz_sk gc_450_2 wz_k0 R) R ([some (.inr (.inr (some (1, 0, 0)))), some (.inl a1), some (.inl (0 : Int32))], [], μ7))) (fun μ7 e => (R μ7 (.inr e))))) (fun μ6 e => (R μ6 (.inr e))))))))))))) :
    wz_call qf_450 [.inr (.inr (some (1, 0, 0))), .inl a1] μ R := wz_mt9 (L := [some (.inr (.inr (some (1, 0, 0)))), some (.inl a1), none]) sw_450 rfl h
set_option maxRecDepth 10000 in
set_option maxHeartbeats 200000 in
theorem fc_450_2  (μ : qz_M) (k : wz_K) (R : wz_R) (L : qz_L) (hL : qz_fg [true, false, false] L = [some (.inr (.inr (some (1, 0, 0)))), none, none])
    (h : (wz_wr (qz_wI μ (1, 0, 0) 2 (0 : Int32)) (fun μ1 => (R μ1 (.inl (some (.inl (qz_im μ1 2 0 0 0)))))))) :
    gc_450_2 k R (L, [], μ) := wz_fgd hL h
set_option maxRecDepth 10000 in
set_option maxHeartbeats 200000 in
theorem fb_450_1 (x1 : Int32) (x2 : Int32) (μ : qz_M) (k : wz_K) (R : wz_R) (L : qz_L) (hL : qz_fg [true, true, true] L = [some (.inr (.inr (some (1, 0, 0)))), some (.inl x1), some (.inl x2)])
    (h : (bif decide (x1 ≤ x2) then (k 0 ([some (.inr (.inr (some (1, 0, 0)))), some (.inl x1), some (.inl x2)], [], μ)) else (wz_cV qf_553 [.inr (.inr (some (1, 0, 0)))] μ (fun μ1 => (k 1 ([some (.inr (.inr (some (1, 0, 0)))), some (.inl x1), some (.inl (x2 + (1 : Int32)))], [], μ1))) (fun μ1 e => (R μ1 (.inr e)))))) :
    gb_450_1 k R (L, [], μ) := wz_fgd hL h
/- X12 rSeason -/
set_option maxRecDepth 10000 in
set_option maxHeartbeats 200000 in
theorem fw_486  (μ : qz_M) (R : wz_R)
    (h : (wz_wr (qz_wI μ (1, 0, 0) 3 ((((25173 : Int32) * (qz_im μ 1 0 0 3)) + (13849 : Int32)) - (((25173 : Int32) * (qz_im μ 1 0 0 3)) + (13849 : Int32)) / (65536 : Int32) * (65536 : Int32))) (fun μ1 => (wz_loop qb_486_1 65536 (wz_sk gc_486_6 wz_k0 R) R ([some (.inr (.inr (some (1, 0, 0)))), some (.inl (((qz_im μ1 1 0 0 3) / (16 : Int32)) - ((qz_im μ1 1 0 0 3) / (16 : Int32)) / (5 : Int32) * (5 : Int32))), some (.inl (0 : Int32)), none, none, none], [], μ1))))) :
    wz_call qf_486 [.inr (.inr (some (1, 0, 0)))] μ R := wz_mt9 (L := [some (.inr (.inr (some (1, 0, 0)))), none, none, none, none, none]) sw_486 rfl h
set_option maxRecDepth 10000 in
set_option maxHeartbeats 200000 in
theorem fc_486_6 (x1 : Int32) (μ : qz_M) (k : wz_K) (R : wz_R) (L : qz_L) (hL : qz_fg [true, true, false, false, false, false] L = [some (.inr (.inr (some (1, 0, 0)))), some (.inl x1), none, none, none, none])
    (h : (wz_loop qb_486_2 65536 (wz_sk gc_486_5 k R) R ([some (.inr (.inr (some (1, 0, 0)))), some (.inl x1), some (.inl (0 : Int32)), none, none, none], [], μ))) :
    gc_486_6 k R (L, [], μ) := wz_fgd hL h
set_option maxRecDepth 10000 in
set_option maxHeartbeats 200000 in
theorem fb_486_1 (x1 : Int32) (x2 : Int32) (μ : qz_M) (k : wz_K) (R : wz_R) (L : qz_L) (hL : qz_fg [true, true, true, false, false, false] L = [some (.inr (.inr (some (1, 0, 0)))), some (.inl x1), some (.inl x2), none, none, none])
    (h : (bif decide (x1 ≤ x2) then (k 0 ([some (.inr (.inr (some (1, 0, 0)))), some (.inl x1), some (.inl x2), none, none, none], [], μ)) else (wz_wr (qz_wI μ (1, 0, 0) 3 ((((25173 : Int32) * (qz_im μ 1 0 0 3)) + (13849 : Int32)) - (((25173 : Int32) * (qz_im μ 1 0 0 3)) + (13849 : Int32)) / (65536 : Int32) * (65536 : Int32))) (fun μ1 => (wz_wr (qz_wI μ1 (1, 0, 0) 3 ((((25173 : Int32) * (qz_im μ1 1 0 0 3)) + (13849 : Int32)) - (((25173 : Int32) * (qz_im μ1 1 0 0 3)) + (13849 : Int32)) / (65536 : Int32) * (65536 : Int32))) (fun μ2 => (wz_wr (qz_wI μ2 (1, 0, 0) 3 ((((25173 : Int32) * (qz_im μ2 1 0 0 3)) + (13849 : Int32)) - (((25173 : Int32) * (qz_im μ2 1 0 0 3)) + (13849 : Int32)) / (65536 : Int32) * (65536 : Int32))) (fun μ3 => (wz_cI qf_485 [.inr (.inr (some (1, 0, 0))), .inl ((1 : Int32) + (((qz_im μ1 1 0 0 3) / (16 : Int32)) - ((qz_im μ1 1 0 0 3) / (16 : Int32)) / (12 : Int32) * (12 : Int32))), .inl (((qz_im μ2 1 0 0 3) / (16 : Int32)) - ((qz_im μ2 1 0 0 3) / (16 : Int32)) / (10 : Int32) * (10 : Int32)), .inl (((qz_im μ3 1 0 0 3) / (16 : Int32)) - ((qz_im μ3 1 0 0 3) / (16 : Int32)) / (10 : Int32) * (10 : Int32)), .inl (18 : Int32)] μ3 (fun μ4 v5 => (wz_wr (qz_wI μ4 (1, 0, 0) 3 ((((25173 : Int32) * (qz_im μ4 1 0 0 3)) + (13849 : Int32)) - (((25173 : Int32) * (qz_im μ4 1 0 0 3)) + (13849 : Int32)) / (65536 : Int32) * (65536 : Int32))) (fun μ6 => (bif pz_out (((1210 : Int32) + ((12 : Int32) * v5)) + (3 : Int32)) 4400 then False else (wz_wr (qz_wI μ6 (2, 0, 0) (((1210 : Int32) + ((12 : Int32) * v5)) + (3 : Int32)).toNatClampNeg (((qz_im μ6 1 0 0 3) / (16 : Int32)) - ((qz_im μ6 1 0 0 3) / (16 : Int32)) / (41 : Int32) * (41 : Int32))) (fun μ7 => (wz_wr (qz_wI μ7 (1, 0, 0) 3 ((((25173 : Int32) * (qz_im μ7 1 0 0 3)) + (13849 : Int32)) - (((25173 : Int32) * (qz_im μ7 1 0 0 3)) + (13849 : Int32)) / (65536 : Int32) * (65536 : Int32))) (fun μ8 => (bif pz_out (((1210 : Int32) + ((12 : Int32) * v5)) + (4 : Int32)) 4400 then False else (wz_wr (qz_wI μ8 (2, 0, 0) (((1210 : Int32) + ((12 : Int32) * v5)) + (4 : Int32)).toNatClampNeg (((qz_im μ8 1 0 0 3) / (16 : Int32)) - ((qz_im μ8 1 0 0 3) / (16 : Int32)) / (2 : Int32) * (2 : Int32))) (fun μ9 => (k 1 ([some (.inr (.inr (some (1, 0, 0)))), some (.inl x1), some (.inl (x2 + (1 : Int32))), some (.inl ((1 : Int32) + (((qz_im μ1 1 0 0 3) / (16 : Int32)) - ((qz_im μ1 1 0 0 3) / (16 : Int32)) / (12 : Int32) * (12 : Int32)))), some (.inl (((qz_im μ2 1 0 0 3) / (16 : Int32)) - ((qz_im μ2 1 0 0 3) / (16 : Int32)) / (10 : Int32) * (10 : Int32))), some (.inl v5)], [], μ9))))))))))))) (fun μ4 e => (R μ4 (.inr e)))))))))))) :
    gb_486_1 k R (L, [], μ) := wz_fgd hL h
set_option maxRecDepth 10000 in
set_option maxHeartbeats 200000 in
theorem fc_486_5 (x1 : Int32) (μ : qz_M) (k : wz_K) (R : wz_R) (L : qz_L) (hL : qz_fg [true, true, false, false, false, false] L = [some (.inr (.inr (some (1, 0, 0)))), some (.inl x1), none, none, none, none])
    (h : (wz_loop qb_486_3 65536 (wz_sk gc_486_4 k R) R ([some (.inr (.inr (some (1, 0, 0)))), some (.inl x1), some (.inl (0 : Int32)), none, none, none], [], μ))) :
    gc_486_5 k R (L, [], μ) := wz_fgd hL h
set_option maxRecDepth 10000 in
set_option maxHeartbeats 200000 in
theorem fb_486_2 (x1 : Int32) (x2 : Int32) (μ : qz_M) (k : wz_K) (R : wz_R) (L : qz_L) (hL : qz_fg [true, true, true, false, false, false] L = [some (.inr (.inr (some (1, 0, 0)))), some (.inl x1), some (.inl x2), none, none, none])
    (h : (bif decide ((28 : Int32) ≤ x2) then (k 0 ([some (.inr (.inr (some (1, 0, 0)))), some (.inl x1), some (.inl x2), none, none, none], [], μ)) else (wz_wr (qz_wI μ (1, 0, 0) 3 ((((25173 : Int32) * (qz_im μ 1 0 0 3)) + (13849 : Int32)) - (((25173 : Int32) * (qz_im μ 1 0 0 3)) + (13849 : Int32)) / (65536 : Int32) * (65536 : Int32))) (fun μ1 => (bif pz_out ((1300 : Int32) + x2) 4400 then False else (wz_wr (qz_wI μ1 (2, 0, 0) ((1300 : Int32) + x2).toNatClampNeg (((qz_im μ1 1 0 0 3) / (16 : Int32)) - ((qz_im μ1 1 0 0 3) / (16 : Int32)) / (41 : Int32) * (41 : Int32))) (fun μ2 => (k 1 ([some (.inr (.inr (some (1, 0, 0)))), some (.inl x1), some (.inl (x2 + (1 : Int32))), none, none, none], [], μ2))))))))) :
    gb_486_2 k R (L, [], μ) := wz_fgd hL h
set_option maxRecDepth 10000 in
set_option maxHeartbeats 200000 in
theorem fc_486_4  (μ : qz_M) (k : wz_K) (R : wz_R) (L : qz_L) (hL : qz_fg [false, false, false, false, false, false] L = [none, none, none, none, none, none])
    (h : (R μ (.inl none))) :
    gc_486_4 k R (L, [], μ) := wz_fgd hL h
set_option maxRecDepth 10000 in
set_option maxHeartbeats 200000 in
theorem fb_486_3 (x1 : Int32) (x2 : Int32) (μ : qz_M) (k : wz_K) (R : wz_R) (L : qz_L) (hL : qz_fg [true, true, true, false, false, false] L = [some (.inr (.inr (some (1, 0, 0)))), some (.inl x1), some (.inl x2), none, none, none])
    (h : (bif decide ((qz_im μ 2 0 0 102) ≤ x2) then (k 0 ([some (.inr (.inr (some (1, 0, 0)))), some (.inl x1), some (.inl x2), none, none, none], [], μ)) else (wz_wr (qz_wI μ (1, 0, 0) 3 ((((25173 : Int32) * (qz_im μ 1 0 0 3)) + (13849 : Int32)) - (((25173 : Int32) * (qz_im μ 1 0 0 3)) + (13849 : Int32)) / (65536 : Int32) * (65536 : Int32))) (fun μ1 => (bif decide ((x1 + (1 : Int32)) = 0) then False else (bif decide (x1 ≤ (((qz_im μ1 1 0 0 3) / (16 : Int32)) - ((qz_im μ1 1 0 0 3) / (16 : Int32)) / (x1 + (1 : Int32)) * (x1 + (1 : Int32)))) then (k 1 ([some (.inr (.inr (some (1, 0, 0)))), some (.inl x1), some (.inl (x2 + (1 : Int32))), some (.inl (((qz_im μ1 1 0 0 3) / (16 : Int32)) - ((qz_im μ1 1 0 0 3) / (16 : Int32)) / (x1 + (1 : Int32)) * (x1 + (1 : Int32)))), none, none], [], μ1)) else (bif (!decide ((((qz_im μ1 1 0 0 3) / (16 : Int32)) - ((qz_im μ1 1 0 0 3) / (16 : Int32)) / (x1 + (1 : Int32)) * (x1 + (1 : Int32))) = (6 : Int32))) then (bif pz_out (((1210 : Int32) + ((12 : Int32) * (((qz_im μ1 1 0 0 3) / (16 : Int32)) - ((qz_im μ1 1 0 0 3) / (16 : Int32)) / (x1 + (1 : Int32)) * (x1 + (1 : Int32))))) + (0 : Int32)) 4400 then False else (wz_cI qf_488 [.inr (.inr (some (1, 0, 0))), .inl (((qz_im μ1 1 0 0 3) / (16 : Int32)) - ((qz_im μ1 1 0 0 3) / (16 : Int32)) / (x1 + (1 : Int32)) * (x1 + (1 : Int32)))] μ1 (fun μ2 v3 => (bif decide (((qz_im μ1 2 0 0 (((1210 : Int32) + ((12 : Int32) * (((qz_im μ1 1 0 0 3) / (16 : Int32)) - ((qz_im μ1 1 0 0 3) / (16 : Int32)) / (x1 + (1 : Int32)) * (x1 + (1 : Int32))))) + (0 : Int32)).toNatClampNeg) - v3) ≤ 0) then (k 1 ([some (.inr (.inr (some (1, 0, 0)))), some (.inl x1), some (.inl (x2 + (1 : Int32))), some (.inl (((qz_im μ1 1 0 0 3) / (16 : Int32)) - ((qz_im μ1 1 0 0 3) / (16 : Int32)) / (x1 + (1 : Int32)) * (x1 + (1 : Int32)))), none, none], [], μ2)) else (wz_cV qf_472 [.inr (.inr (some (1, 0, 0))), .inl x2, .inl (((qz_im μ1 1 0 0 3) / (16 : Int32)) - ((qz_im μ1 1 0 0 3) / (16 : Int32)) / (x1 + (1 : Int32)) * (x1 + (1 : Int32)))] μ2 (fun μ4 => (k 1 ([some (.inr (.inr (some (1, 0, 0)))), some (.inl x1), some (.inl (x2 + (1 : Int32))), some (.inl (((qz_im μ1 1 0 0 3) / (16 : Int32)) - ((qz_im μ1 1 0 0 3) / (16 : Int32)) / (x1 + (1 : Int32)) * (x1 + (1 : Int32)))), none, none], [], μ4))) (fun μ4 e => (R μ4 (.inr e)))))) (fun μ2 e => (R μ2 (.inr e))))) else (wz_cI qf_488 [.inr (.inr (some (1, 0, 0))), .inl (((qz_im μ1 1 0 0 3) / (16 : Int32)) - ((qz_im μ1 1 0 0 3) / (16 : Int32)) / (x1 + (1 : Int32)) * (x1 + (1 : Int32)))] μ1 (fun μ5 v6 => (bif decide (((12 : Int32) - v6) ≤ 0) then (k 1 ([some (.inr (.inr (some (1, 0, 0)))), some (.inl x1), some (.inl (x2 + (1 : Int32))), some (.inl (((qz_im μ1 1 0 0 3) / (16 : Int32)) - ((qz_im μ1 1 0 0 3) / (16 : Int32)) / (x1 + (1 : Int32)) * (x1 + (1 : Int32)))), none, none], [], μ5)) else (wz_cV qf_472 [.inr (.inr (some (1, 0, 0))), .inl x2, .inl (((qz_im μ1 1 0 0 3) / (16 : Int32)) - ((qz_im μ1 1 0 0 3) / (16 : Int32)) / (x1 + (1 : Int32)) * (x1 + (1 : Int32)))] μ5 (fun μ7 => (k 1 ([some (.inr (.inr (some (1, 0, 0)))), some (.inl x1), some (.inl (x2 + (1 : Int32))), some (.inl (((qz_im μ1 1 0 0 3) / (16 : Int32)) - ((qz_im μ1 1 0 0 3) / (16 : Int32)) / (x1 + (1 : Int32)) * (x1 + (1 : Int32)))), none, none], [], μ7))) (fun μ7 e => (R μ7 (.inr e)))))) (fun μ5 e => (R μ5 (.inr e))))))))))) :
    gb_486_3 k R (L, [], μ) := wz_fgd hL h
/- X12 tSeason -/
set_option maxRecDepth 10000 in
set_option maxHeartbeats 200000 in
theorem fw_523 (a1 : Int32) (μ : qz_M) (R : wz_R)
    (h : (wz_loop qb_523_3 65536 (wz_sk gc_523_6 wz_k0 R) R ([some (.inr (.inr (some (1, 0, 0)))), some (.inl a1), some (.inl (0 : Int32)), none, none], [], μ))) :
    wz_call qf_523 [.inr (.inr (some (1, 0, 0))), .inl a1] μ R := wz_mt9 (L := [some (.inr (.inr (some (1, 0, 0)))), some (.inl a1), none, none, none]) sw_523 rfl h
set_option maxRecDepth 10000 in
set_option maxHeartbeats 200000 in
theorem fc_523_6 (x1 : Int32) (μ : qz_M) (k : wz_K) (R : wz_R) (L : qz_L) (hL : qz_fg [true, true, false, false, false] L = [some (.inr (.inr (some (1, 0, 0)))), some (.inl x1), none, none, none])
    (h : (wz_wr (qz_wI μ (1, 0, 0) 3 ((((25173 : Int32) * (qz_im μ 1 0 0 3)) + (13849 : Int32)) - (((25173 : Int32) * (qz_im μ 1 0 0 3)) + (13849 : Int32)) / (65536 : Int32) * (65536 : Int32))) (fun μ1 => (wz_cI qf_336 [.inr (.inr (some (1, 0, 0))), .inl ((1 : Int32) + (((qz_im μ1 1 0 0 3) / (16 : Int32)) - ((qz_im μ1 1 0 0 3) / (16 : Int32)) / (4 : Int32) * (4 : Int32)))] μ1 (fun μ2 v3 => (bif decide (x1 ≤ (4 : Int32)) then (wz_loop qb_523_4 65536 (wz_sk gc_523_5 k R) R ([some (.inr (.inr (some (1, 0, 0)))), some (.inl x1), some (.inl x1), some (.inl (0 : Int32)), none], [], μ2)) else (wz_loop qb_523_4 65536 (wz_sk gc_523_5 k R) R ([some (.inr (.inr (some (1, 0, 0)))), some (.inl x1), some (.inl (4 : Int32)), some (.inl (0 : Int32)), none], [], μ2)))) (fun μ2 e => (R μ2 (.inr e))))))) :
    gc_523_6 k R (L, [], μ) := wz_fgd hL h
set_option maxRecDepth 10000 in
set_option maxHeartbeats 200000 in
theorem fb_523_3 (x1 : Int32) (x2 : Int32) (μ : qz_M) (k : wz_K) (R : wz_R) (L : qz_L) (hL : qz_fg [true, true, true, false, false] L = [some (.inr (.inr (some (1, 0, 0)))), some (.inl x1), some (.inl x2), none, none])
    (h : (bif decide ((5 : Int32) ≤ x2) then (k 0 ([some (.inr (.inr (some (1, 0, 0)))), some (.inl x1), some (.inl x2), none, none], [], μ)) else (wz_loop qb_523_1 65536 (wz_sk gc_523_2 (wz_kb k) R) R ([some (.inr (.inr (some (1, 0, 0)))), some (.inl x1), some (.inl x2), some (.inl (x2 + (1 : Int32))), none], [], μ)))) :
    gb_523_3 k R (L, [], μ) := wz_fgd hL h
set_option maxRecDepth 10000 in
set_option maxHeartbeats 200000 in
theorem fc_523_5  (μ : qz_M) (k : wz_K) (R : wz_R) (L : qz_L) (hL : qz_fg [false, false, false, false, false] L = [none, none, none, none, none])
    (h : (R μ (.inl none))) :
    gc_523_5 k R (L, [], μ) := wz_fgd hL h
set_option maxRecDepth 10000 in
set_option maxHeartbeats 200000 in
theorem fb_523_4 (x2 : Int32) (x3 : Int32) (μ : qz_M) (k : wz_K) (R : wz_R) (L : qz_L) (hL : qz_fg [true, false, true, true, false] L = [some (.inr (.inr (some (1, 0, 0)))), none, some (.inl x2), some (.inl x3), none])
    (h : (bif decide (x2 ≤ x3) then (k 0 ([some (.inr (.inr (some (1, 0, 0)))), none, some (.inl x2), some (.inl x3), none], [], μ)) else (wz_wr (qz_wI μ (1, 0, 0) 3 ((((25173 : Int32) * (qz_im μ 1 0 0 3)) + (13849 : Int32)) - (((25173 : Int32) * (qz_im μ 1 0 0 3)) + (13849 : Int32)) / (65536 : Int32) * (65536 : Int32))) (fun μ1 => (wz_wr (qz_wI μ1 (1, 0, 0) 3 ((((25173 : Int32) * (qz_im μ1 1 0 0 3)) + (13849 : Int32)) - (((25173 : Int32) * (qz_im μ1 1 0 0 3)) + (13849 : Int32)) / (65536 : Int32) * (65536 : Int32))) (fun μ2 => (wz_cI qf_539 [.inr (.inr (some (1, 0, 0))), .inl ((20 : Int32) + (((qz_im μ1 1 0 0 3) / (16 : Int32)) - ((qz_im μ1 1 0 0 3) / (16 : Int32)) / (60 : Int32) * (60 : Int32))), .inl ((2 : Int32) + (((qz_im μ2 1 0 0 3) / (16 : Int32)) - ((qz_im μ2 1 0 0 3) / (16 : Int32)) / (13 : Int32) * (13 : Int32)))] μ2 (fun μ3 v4 => (k 1 ([some (.inr (.inr (some (1, 0, 0)))), none, some (.inl x2), some (.inl (x3 + (1 : Int32))), some (.inl ((20 : Int32) + (((qz_im μ1 1 0 0 3) / (16 : Int32)) - ((qz_im μ1 1 0 0 3) / (16 : Int32)) / (60 : Int32) * (60 : Int32))))], [], μ3))) (fun μ3 e => (R μ3 (.inr e)))))))))) :
    gb_523_4 k R (L, [], μ) := wz_fgd hL h
set_option maxRecDepth 10000 in
set_option maxHeartbeats 200000 in
theorem fc_523_2 (x1 : Int32) (x2 : Int32) (μ : qz_M) (k : wz_K) (R : wz_R) (L : qz_L) (hL : qz_fg [true, true, true, false, false] L = [some (.inr (.inr (some (1, 0, 0)))), some (.inl x1), some (.inl x2), none, none])
    (h : (k 2 ([some (.inr (.inr (some (1, 0, 0)))), some (.inl x1), some (.inl (x2 + (1 : Int32))), none, none], [], μ))) :
    gc_523_2 k R (L, [], μ) := wz_fgd hL h
set_option maxRecDepth 10000 in
set_option maxHeartbeats 200000 in
theorem fb_523_1 (x1 : Int32) (x2 : Int32) (x3 : Int32) (μ : qz_M) (k : wz_K) (R : wz_R) (L : qz_L) (hL : qz_fg [true, true, true, true, false] L = [some (.inr (.inr (some (1, 0, 0)))), some (.inl x1), some (.inl x2), some (.inl x3), none])
    (h : (bif decide ((5 : Int32) < x3) then (k 0 ([some (.inr (.inr (some (1, 0, 0)))), some (.inl x1), some (.inl x2), some (.inl x3), none], [], μ)) else (wz_wr (qz_wI μ (1, 0, 0) 3 ((((25173 : Int32) * (qz_im μ 1 0 0 3)) + (13849 : Int32)) - (((25173 : Int32) * (qz_im μ 1 0 0 3)) + (13849 : Int32)) / (65536 : Int32) * (65536 : Int32))) (fun μ1 => (wz_cI qf_543 [.inr (.inr (some (1, 0, 0))), .inl x2, .inl x3, .inl ((1 : Int32) + (((qz_im μ1 1 0 0 3) / (16 : Int32)) - ((qz_im μ1 1 0 0 3) / (16 : Int32)) / (12 : Int32) * (12 : Int32)))] μ1 (fun μ2 v3 => (k 1 ([some (.inr (.inr (some (1, 0, 0)))), some (.inl x1), some (.inl x2), some (.inl (x3 + (1 : Int32))), none], [], μ2))) (fun μ2 e => (R μ2 (.inr e)))))))) :
    gb_523_1 k R (L, [], μ) := wz_fgd hL h
/- X12 xSeason -/
set_option maxRecDepth 10000 in
set_option maxHeartbeats 200000 in
theorem fw_566 (a1 : Int32) (a2 : Int32) (μ : qz_M) (R : wz_R)
    (h : (wz_wr (qz_wI μ (1, 0, 0) 35 (1 : Int32)) (fun μ1 => (wz_wr (qz_wI μ1 (1, 0, 0) 3 a1) (fun μ2 => (wz_cV qf_328 [.inr (.inr (some (1, 0, 0))), .inl a2] μ2 (fun μ3 => (wz_cV qf_486 [.inr (.inr (some (1, 0, 0)))] μ3 (fun μ4 => (wz_cV qf_282 [.inr (.inr (some (1, 0, 0))), .inl a2] μ4 (fun μ5 => (wz_cV qf_308 [.inr (.inr (some (1, 0, 0))), .inl a2] μ5 (fun μ6 => (wz_cV qf_523 [.inr (.inr (some (1, 0, 0))), .inl a2] μ6 (fun μ7 => (wz_cV qf_370 [.inr (.inr (some (1, 0, 0)))] μ7 (fun μ8 => (bif decide ((qz_im μ 1 0 0 35) = 0) || decide ((qz_im μ 1 0 0 35) = 1) then (wz_wr (qz_wI μ8 (1, 0, 0) 35 (qz_im μ 1 0 0 35)) (fun μ9 => (wz_wr (qz_wI μ9 (1, 0, 0) 2 (0 : Int32)) (fun μ10 => (R μ10 (.inl none)))))) else False)) (fun μ8 e => (R μ8 (.inr e))))) (fun μ7 e => (R μ7 (.inr e))))) (fun μ6 e => (R μ6 (.inr e))))) (fun μ5 e => (R μ5 (.inr e))))) (fun μ4 e => (R μ4 (.inr e))))) (fun μ3 e => (R μ3 (.inr e))))))))) :
    wz_call qf_566 [.inr (.inr (some (1, 0, 0))), .inl a1, .inl a2] μ R := wz_mt9 (L := [some (.inr (.inr (some (1, 0, 0)))), some (.inl a1), some (.inl a2), none]) sw_566 rfl h
/- X12 xNumbers -/
/- X12 xMayBeNone -/
/- X12 xIsFigure -/
/- X12 xNumber -/
/- X12 xTask -/
/- X12 xDoes -/
/- X12 xDoAll -/
/- X12 xAgainMore -/
/- X12 xIsAsWorked -/
set_option maxRecDepth 10000 in
set_option maxHeartbeats 200000 in
theorem fw_554  (μ : qz_M) (R : wz_R)
    (h : (wz_cV qf_351 [.inr (.inr (some (1, 0, 0))), .inl (1 : Int32)] μ (fun μ1 => (wz_wr (qz_wI μ1 (1, 0, 0) 35 (1 : Int32)) (fun μ2 => (wz_cV qf_290 [.inr (.inr (some (1, 0, 0)))] μ2 (fun μ3 => (wz_loop qb_554_1 65536 (wz_sk gc_554_4 wz_k0 R) R ([some (.inr (.inr (some (1, 0, 0)))), some (.inl (0 : Int32)), none], [], μ3))) (fun μ3 e => (R μ3 (.inr e))))))) (fun μ1 e => (R μ1 (.inr e))))) :
    wz_call qf_554 [.inr (.inr (some (1, 0, 0)))] μ R := wz_mt9 (L := [some (.inr (.inr (some (1, 0, 0)))), none, none]) sw_554 rfl h
set_option maxRecDepth 10000 in
set_option maxHeartbeats 200000 in
theorem fc_554_4  (μ : qz_M) (k : wz_K) (R : wz_R) (L : qz_L) (hL : qz_fg [true, false, false] L = [some (.inr (.inr (some (1, 0, 0)))), none, none])
    (h : (wz_wr (qz_wI μ (1, 0, 0) 35 (0 : Int32)) (fun μ1 => (wz_loop qb_554_2 65536 (wz_sk gc_554_3 k R) R ([some (.inr (.inr (some (1, 0, 0)))), some (.inl (1 : Int32)), some (.inl (0 : Int32))], [], μ1))))) :
    gc_554_4 k R (L, [], μ) := wz_fgd hL h
set_option maxRecDepth 10000 in
set_option maxHeartbeats 200000 in
theorem fb_554_1 (x1 : Int32) (μ : qz_M) (k : wz_K) (R : wz_R) (L : qz_L) (hL : qz_fg [true, true, false] L = [some (.inr (.inr (some (1, 0, 0)))), some (.inl x1), none])
    (h : (bif decide ((qz_im μ 1 0 0 37) ≤ x1) then (k 0 ([some (.inr (.inr (some (1, 0, 0)))), some (.inl x1), none], [], μ)) else (wz_rk (qz_rm μ 1 0 0 36) (fun r1 => (bif Nat.beq (qz_tag μ r1) 50 && true then (bif pz_out ((7 : Int32) * x1) (qz_len μ r1) then False else (bif decide ((14 : Int32) < (qz_im μ r1.1 r1.2.1 r1.2.2 ((7 : Int32) * x1).toNatClampNeg)) then (wz_cV qf_549 [.inr (.inr (some (1, 0, 0))), .inl ((7 : Int32) * x1)] μ (fun μ2 => (k 1 ([some (.inr (.inr (some (1, 0, 0)))), some (.inl (x1 + (1 : Int32))), none], [], μ2))) (fun μ2 e => (R μ2 (.inr e)))) else (wz_cV qf_548 [.inr (.inr (some (1, 0, 0))), .inl ((7 : Int32) * x1)] μ (fun μ3 => (k 1 ([some (.inr (.inr (some (1, 0, 0)))), some (.inl (x1 + (1 : Int32))), none], [], μ3))) (fun μ3 e => (R μ3 (.inr e)))))) else False))))) :
    gb_554_1 k R (L, [], μ) := wz_fgd hL h
set_option maxRecDepth 10000 in
set_option maxHeartbeats 200000 in
theorem fc_554_3 (x1 : Int32) (μ : qz_M) (k : wz_K) (R : wz_R) (L : qz_L) (hL : qz_fg [true, true, false] L = [some (.inr (.inr (some (1, 0, 0)))), some (.inl x1), none])
    (h : (wz_cV qf_493 [.inr (.inr (some (1, 0, 0))), .inl (1 : Int32)] μ (fun μ1 => (bif decide (x1 = 0) || decide (x1 = 1) then (R μ1 (.inl (some (.inl x1)))) else False)) (fun μ1 e => (R μ1 (.inr e))))) :
    gc_554_3 k R (L, [], μ) := wz_fgd hL h
set_option maxRecDepth 10000 in
set_option maxHeartbeats 200000 in
theorem fb_554_2 (x1 : Int32) (x2 : Int32) (μ : qz_M) (k : wz_K) (R : wz_R) (L : qz_L) (hL : qz_fg [true, true, true] L = [some (.inr (.inr (some (1, 0, 0)))), some (.inl x1), some (.inl x2)])
    (h : (bif decide ((4400 : Int32) ≤ x2) then (k 0 ([some (.inr (.inr (some (1, 0, 0)))), some (.inl x1), some (.inl x2)], [], μ)) else (bif decide (x1 = 0) then (k 1 ([some (.inr (.inr (some (1, 0, 0)))), some (.inl (0 : Int32)), some (.inl (x2 + (1 : Int32)))], [], μ)) else (bif pz_out x2 4400 then False else (bif pz_out ((4400 : Int32) + x2) 8800 then False else (bif (!decide ((qz_im μ 2 0 0 x2.toNatClampNeg) = (qz_im μ 81 0 0 ((4400 : Int32) + x2).toNatClampNeg))) then (k 1 ([some (.inr (.inr (some (1, 0, 0)))), some (.inl (0 : Int32)), some (.inl (x2 + (1 : Int32)))], [], μ)) else (k 1 ([some (.inr (.inr (some (1, 0, 0)))), some (.inl (1 : Int32)), some (.inl (x2 + (1 : Int32)))], [], μ)))))))) :
    gb_554_2 k R (L, [], μ) := wz_fgd hL h
/- X12 xSound -/
set_option maxRecDepth 10000 in
set_option maxHeartbeats 200000 in
theorem fw_567  (μ : qz_M) (R : wz_R)
    (h : (wz_loop qb_567_1 65536 (wz_sk gc_567_4 wz_k0 R) R ([some (.inr (.inr (some (1, 0, 0)))), some (.inl (1 : Int32)), some (.inl (0 : Int32))], [], μ))) :
    wz_call qf_567 [.inr (.inr (some (1, 0, 0)))] μ R := wz_mt9 (L := [some (.inr (.inr (some (1, 0, 0)))), none, none]) sw_567 rfl h
set_option maxRecDepth 10000 in
set_option maxHeartbeats 200000 in
theorem fc_567_4 (x1 : Int32) (μ : qz_M) (k : wz_K) (R : wz_R) (L : qz_L) (hL : qz_fg [true, true, false] L = [some (.inr (.inr (some (1, 0, 0)))), some (.inl x1), none])
    (h : (wz_loop qb_567_2 65536 (wz_sk gc_567_3 k R) R ([some (.inr (.inr (some (1, 0, 0)))), some (.inl x1), some (.inl (0 : Int32))], [], μ))) :
    gc_567_4 k R (L, [], μ) := wz_fgd hL h
set_option maxRecDepth 10000 in
set_option maxHeartbeats 200000 in
theorem fb_567_1 (x1 : Int32) (x2 : Int32) (μ : qz_M) (k : wz_K) (R : wz_R) (L : qz_L) (hL : qz_fg [true, true, true] L = [some (.inr (.inr (some (1, 0, 0)))), some (.inl x1), some (.inl x2)])
    (h : (bif decide ((qz_im μ 2 0 0 2000) ≤ x2) then (k 0 ([some (.inr (.inr (some (1, 0, 0)))), some (.inl x1), some (.inl x2)], [], μ)) else (bif decide (x1 = 0) then (k 1 ([some (.inr (.inr (some (1, 0, 0)))), some (.inl (0 : Int32)), some (.inl (x2 + (1 : Int32)))], [], μ)) else (bif pz_out (((2010 : Int32) + ((16 : Int32) * x2)) + (9 : Int32)) 4400 then False else (bif (!decide ((qz_im μ 2 0 0 (((2010 : Int32) + ((16 : Int32) * x2)) + (9 : Int32)).toNatClampNeg) = 0)) then (k 1 ([some (.inr (.inr (some (1, 0, 0)))), some (.inl (1 : Int32)), some (.inl (x2 + (1 : Int32)))], [], μ)) else (bif pz_out (((2010 : Int32) + ((16 : Int32) * x2)) + (0 : Int32)) 4400 then False else (bif pz_out (((200 : Int32) + ((20 : Int32) * (qz_im μ 2 0 0 (((2010 : Int32) + ((16 : Int32) * x2)) + (0 : Int32)).toNatClampNeg))) + (10 : Int32)) 4400 then False else (bif decide ((1 : Int32) < (qz_im μ 2 0 0 (((200 : Int32) + ((20 : Int32) * (qz_im μ 2 0 0 (((2010 : Int32) + ((16 : Int32) * x2)) + (0 : Int32)).toNatClampNeg))) + (10 : Int32)).toNatClampNeg)) then (k 1 ([some (.inr (.inr (some (1, 0, 0)))), some (.inl (0 : Int32)), some (.inl (x2 + (1 : Int32)))], [], μ)) else (k 1 ([some (.inr (.inr (some (1, 0, 0)))), some (.inl (1 : Int32)), some (.inl (x2 + (1 : Int32)))], [], μ)))))))))) :
    gb_567_1 k R (L, [], μ) := wz_fgd hL h
set_option maxRecDepth 10000 in
set_option maxHeartbeats 200000 in
theorem fc_567_3 (x1 : Int32) (μ : qz_M) (k : wz_K) (R : wz_R) (L : qz_L) (hL : qz_fg [true, true, false] L = [some (.inr (.inr (some (1, 0, 0)))), some (.inl x1), none])
    (h : (bif decide (x1 = 0) then (R μ (.inl (some (.inl (0 : Int32))))) else (wz_cI qf_554 [.inr (.inr (some (1, 0, 0)))] μ (fun μ1 v2 => (bif decide (v2 = 0) then (R μ1 (.inl (some (.inl (0 : Int32))))) else (R μ1 (.inl (some (.inl (1 : Int32))))))) (fun μ1 e => (R μ1 (.inr e)))))) :
    gc_567_3 k R (L, [], μ) := wz_fgd hL h
set_option maxRecDepth 10000 in
set_option maxHeartbeats 200000 in
theorem fb_567_2 (x1 : Int32) (x2 : Int32) (μ : qz_M) (k : wz_K) (R : wz_R) (L : qz_L) (hL : qz_fg [true, true, true] L = [some (.inr (.inr (some (1, 0, 0)))), some (.inl x1), some (.inl x2)])
    (h : (bif decide ((qz_im μ 2 0 0 102) ≤ x2) then (k 0 ([some (.inr (.inr (some (1, 0, 0)))), some (.inl x1), some (.inl x2)], [], μ)) else (bif decide (x1 = 0) then (k 1 ([some (.inr (.inr (some (1, 0, 0)))), some (.inl (0 : Int32)), some (.inl (x2 + (1 : Int32)))], [], μ)) else (bif pz_out (((200 : Int32) + ((20 : Int32) * x2)) + (10 : Int32)) 4400 then False else (bif (!decide ((qz_im μ 2 0 0 (((200 : Int32) + ((20 : Int32) * x2)) + (10 : Int32)).toNatClampNeg) = 0)) then (k 1 ([some (.inr (.inr (some (1, 0, 0)))), some (.inl (1 : Int32)), some (.inl (x2 + (1 : Int32)))], [], μ)) else (bif pz_out (((200 : Int32) + ((20 : Int32) * x2)) + (4 : Int32)) 4400 then False else (bif decide (0 < (qz_im μ 2 0 0 (((200 : Int32) + ((20 : Int32) * x2)) + (4 : Int32)).toNatClampNeg)) then (k 1 ([some (.inr (.inr (some (1, 0, 0)))), some (.inl (1 : Int32)), some (.inl (x2 + (1 : Int32)))], [], μ)) else (wz_cI qf_435 [.inr (.inr (some (1, 0, 0))), .inl x2] μ (fun μ1 v2 => (bif decide (v2 ≤ 0) then (k 1 ([some (.inr (.inr (some (1, 0, 0)))), some (.inl (0 : Int32)), some (.inl (x2 + (1 : Int32)))], [], μ1)) else (k 1 ([some (.inr (.inr (some (1, 0, 0)))), some (.inl (1 : Int32)), some (.inl (x2 + (1 : Int32)))], [], μ1)))) (fun μ1 e => (R μ1 (.inr e))))))))))) :
    gb_567_2 k R (L, [], μ) := wz_fgd hL h
/- X12 xIsSound -/
set_option maxRecDepth 10000 in
set_option maxHeartbeats 200000 in
theorem fw_556 (a1 : Int32) (μ : qz_M) (R : wz_R)
    (h : (bif decide (a1.toInt < (1 : Int)) || decide ((7 : Int) < a1.toInt) then (wz_cI qf_567 [.inr (.inr (some (1, 0, 0)))] μ (fun μ1 v2 => (bif decide (v2 = 0) || decide (v2 = 1) then (R μ1 (.inl (some (.inl v2)))) else False)) (fun μ1 e => (R μ1 (.inr e)))) else (bif decide (a1.toInt = (1 : Int)) then (wz_cI qf_331 [.inr (.inr (some (1, 0, 0)))] μ (fun μ15 v16 => (bif decide (v16 = 0) || decide (v16 = 1) then (R μ15 (.inl (some (.inl v16)))) else False)) (fun μ15 e => (R μ15 (.inr e)))) else (bif decide (a1.toInt = (2 : Int)) then (wz_cI qf_487 [.inr (.inr (some (1, 0, 0)))] μ (fun μ13 v14 => (bif decide (v14 = 0) || decide (v14 = 1) then (R μ13 (.inl (some (.inl v14)))) else False)) (fun μ13 e => (R μ13 (.inr e)))) else (bif decide (a1.toInt = (3 : Int)) then (wz_cI qf_285 [.inr (.inr (some (1, 0, 0)))] μ (fun μ11 v12 => (bif decide (v12 = 0) || decide (v12 = 1) then (R μ11 (.inl (some (.inl v12)))) else False)) (fun μ11 e => (R μ11 (.inr e)))) else (bif decide (a1.toInt = (4 : Int)) then (wz_cI qf_310 [.inr (.inr (some (1, 0, 0)))] μ (fun μ9 v10 => (bif decide (v10 = 0) || decide (v10 = 1) then (R μ9 (.inl (some (.inl v10)))) else False)) (fun μ9 e => (R μ9 (.inr e)))) else (bif decide (a1.toInt = (5 : Int)) then (wz_cI qf_524 [.inr (.inr (some (1, 0, 0)))] μ (fun μ7 v8 => (bif decide (v8 = 0) || decide (v8 = 1) then (R μ7 (.inl (some (.inl v8)))) else False)) (fun μ7 e => (R μ7 (.inr e)))) else (bif decide (a1.toInt = (6 : Int)) then (wz_cI qf_372 [.inr (.inr (some (1, 0, 0)))] μ (fun μ5 v6 => (bif decide (v6 = 0) || decide (v6 = 1) then (R μ5 (.inl (some (.inl v6)))) else False)) (fun μ5 e => (R μ5 (.inr e)))) else (bif decide (a1.toInt = (7 : Int)) then (wz_cI qf_420 [.inr (.inr (some (1, 0, 0)))] μ (fun μ3 v4 => (bif decide (v4 = 0) || decide (v4 = 1) then (R μ3 (.inl (some (.inl v4)))) else False)) (fun μ3 e => (R μ3 (.inr e)))) else (wz_cI qf_567 [.inr (.inr (some (1, 0, 0)))] μ (fun μ1 v2 => (bif decide (v2 = 0) || decide (v2 = 1) then (R μ1 (.inl (some (.inl v2)))) else False)) (fun μ1 e => (R μ1 (.inr e))))))))))))) :
    wz_call qf_556 [.inr (.inr (some (1, 0, 0))), .inl a1] μ R := wz_mt9 (L := [some (.inr (.inr (some (1, 0, 0)))), some (.inl a1)]) sw_556 rfl h
/- X12 isSound -/
set_option maxRecDepth 10000 in
set_option maxHeartbeats 200000 in
theorem fw_392 (a1 : Int32) (μ : qz_M) (R : wz_R)
    (h : (bif decide (a1 < (0 : Int32)) then (wz_wr (qz_wI μ (1, 0, 0) 2 (1 : Int32)) (fun μ1 => (R μ1 (.inl (some (.inl (0 : Int32))))))) else (bif decide ((8 : Int32) < a1) then (wz_wr (qz_wI μ (1, 0, 0) 2 (1 : Int32)) (fun μ2 => (R μ2 (.inl (some (.inl (0 : Int32))))))) else (wz_wr (qz_wI μ (1, 0, 0) 2 (0 : Int32)) (fun μ3 => (bif (!decide (a1 = 0)) then (wz_loop qb_392_1 65536 (wz_sk gc_392_2 wz_k0 R) R ([some (.inr (.inr (some (1, 0, 0)))), some (.inl a1), some (.inl (1 : Int32)), some (.inl a1)], [], μ3)) else (wz_loop qb_392_1 65536 (wz_sk gc_392_2 wz_k0 R) R ([some (.inr (.inr (some (1, 0, 0)))), some (.inl a1), some (.inl (1 : Int32)), some (.inl (1 : Int32))], [], μ3)))))))) :
    wz_call qf_392 [.inr (.inr (some (1, 0, 0))), .inl a1] μ R := wz_mt9 (L := [some (.inr (.inr (some (1, 0, 0)))), some (.inl a1), none, none]) sw_392 rfl h
set_option maxRecDepth 10000 in
set_option maxHeartbeats 200000 in
theorem fc_392_2 (x2 : Int32) (μ : qz_M) (k : wz_K) (R : wz_R) (L : qz_L) (hL : qz_fg [true, false, true, false] L = [some (.inr (.inr (some (1, 0, 0)))), none, some (.inl x2), none])
    (h : (wz_wr (qz_wI μ (1, 0, 0) 2 (0 : Int32)) (fun μ1 => (bif decide (x2 = 0) || decide (x2 = 1) then (R μ1 (.inl (some (.inl x2)))) else False)))) :
    gc_392_2 k R (L, [], μ) := wz_fgd hL h
set_option maxRecDepth 10000 in
set_option maxHeartbeats 200000 in
theorem fb_392_1 (x1 : Int32) (x2 : Int32) (x3 : Int32) (μ : qz_M) (k : wz_K) (R : wz_R) (L : qz_L) (hL : qz_fg [true, true, true, true] L = [some (.inr (.inr (some (1, 0, 0)))), some (.inl x1), some (.inl x2), some (.inl x3)])
    (h : (bif (!decide (x1 = 0)) then (bif decide (x1 < x3) then (k 0 ([some (.inr (.inr (some (1, 0, 0)))), some (.inl x1), some (.inl x2), some (.inl x3)], [], μ)) else (bif decide (x2 = 0) then (k 1 ([some (.inr (.inr (some (1, 0, 0)))), some (.inl x1), some (.inl (0 : Int32)), some (.inl (x3 + (1 : Int32)))], [], μ)) else (wz_cI qf_556 [.inr (.inr (some (1, 0, 0))), .inl x3] μ (fun μ1 v2 => (bif decide (v2 = 0) then (k 1 ([some (.inr (.inr (some (1, 0, 0)))), some (.inl x1), some (.inl (0 : Int32)), some (.inl (x3 + (1 : Int32)))], [], μ1)) else (k 1 ([some (.inr (.inr (some (1, 0, 0)))), some (.inl x1), some (.inl (1 : Int32)), some (.inl (x3 + (1 : Int32)))], [], μ1)))) (fun μ1 e => (R μ1 (.inr e)))))) else (bif decide ((8 : Int32) < x3) then (k 0 ([some (.inr (.inr (some (1, 0, 0)))), some (.inl x1), some (.inl x2), some (.inl x3)], [], μ)) else (bif decide (x2 = 0) then (k 1 ([some (.inr (.inr (some (1, 0, 0)))), some (.inl x1), some (.inl (0 : Int32)), some (.inl (x3 + (1 : Int32)))], [], μ)) else (wz_cI qf_556 [.inr (.inr (some (1, 0, 0))), .inl x3] μ (fun μ3 v4 => (bif decide (v4 = 0) then (k 1 ([some (.inr (.inr (some (1, 0, 0)))), some (.inl x1), some (.inl (0 : Int32)), some (.inl (x3 + (1 : Int32)))], [], μ3)) else (k 1 ([some (.inr (.inr (some (1, 0, 0)))), some (.inl x1), some (.inl (1 : Int32)), some (.inl (x3 + (1 : Int32)))], [], μ3)))) (fun μ3 e => (R μ3 (.inr e)))))))) :
    gb_392_1 k R (L, [], μ) := wz_fgd hL h
