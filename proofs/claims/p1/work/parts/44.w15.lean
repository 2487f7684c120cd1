/-! what the methods ask, 16 -/
/- X12 bSeason -/
set_option maxRecDepth 10000 in
set_option maxHeartbeats 200000 in
theorem fw_282 (a1 : Int32) (μ : qz_M) (R : wz_R)
    (h : (bif decide (((2 : Int32) * a1) ≤ (8 : Int32)) then (wz_loop qb_282_1 65536 (wz_sk gc_282_4 wz_k0 R) R ([some (.inr (.inr (some (1, 0, 0)))), some (.inl a1), some (.inl ((2 : Int32) * a1)), some (.inl (0 : Int32)), none, none, none, none, none, none], [], μ)) else (wz_loop qb_282_1 65536 (wz_sk gc_282_4 wz_k0 R) R ([some (.inr (.inr (some (1, 0, 0)))), some (.inl a1), some (.inl (8 : Int32)), some (.inl (0 : Int32)), none, none, none, none, none, none], [], μ)))) :
    wz_call qf_282 [.inr (.inr (some (1, 0, 0))), .inl a1] μ R := wz_mt9 (L := [some (.inr (.inr (some (1, 0, 0)))), some (.inl a1), none, none, none, none, none, none, none, none]) sw_282 rfl h
set_option maxRecDepth 10000 in
set_option maxHeartbeats 200000 in
theorem fc_282_4 (x1 : Int32) (μ : qz_M) (k : wz_K) (R : wz_R) (L : qz_L) (hL : qz_fg [true, true, false, false, false, false, false, false, false, false] L = [some (.inr (.inr (some (1, 0, 0)))), some (.inl x1), none, none, none, none, none, none, none, none])
    (h : (bif decide (((4 : Int32) * x1) ≤ (24 : Int32)) then (wz_loop qb_282_2 65536 (wz_sk gc_282_3 k R) R ([some (.inr (.inr (some (1, 0, 0)))), some (.inl x1), none, some (.inl ((4 : Int32) * x1)), some (.inl (0 : Int32)), none, none, none, none, none], [], μ)) else (wz_loop qb_282_2 65536 (wz_sk gc_282_3 k R) R ([some (.inr (.inr (some (1, 0, 0)))), some (.inl x1), none, some (.inl (24 : Int32)), some (.inl (0 : Int32)), none, none, none, none, none], [], μ)))) :
    gc_282_4 k R (L, [], μ) := wz_fgd hL h
set_option maxRecDepth 10000 in
set_option maxHeartbeats 200000 in
theorem fb_282_1 (x1 : Int32) (x2 : Int32) (x3 : Int32) (μ : qz_M) (k : wz_K) (R : wz_R) (L : qz_L) (hL : qz_fg [true, true, true, true, false, false, false, false, false, false] L = [some (.inr (.inr (some (1, 0, 0)))), some (.inl x1), some (.inl x2), some (.inl x3), none, none, none, none, none, none])
    (h : (bif decide (x2 ≤ x3) then (k 0 ([some (.inr (.inr (some (1, 0, 0)))), some (.inl x1), some (.inl x2), some (.inl x3), none, none, none, none, none, none], [], μ)) else (wz_wr (qz_wI μ (1, 0, 0) 3 ((((25173 : Int32) * (qz_im μ 1 0 0 3)) + (13849 : Int32)) - (((25173 : Int32) * (qz_im μ 1 0 0 3)) + (13849 : Int32)) / (65536 : Int32) * (65536 : Int32))) (fun μ1 => (wz_wr (qz_wI μ1 (1, 0, 0) 3 ((((25173 : Int32) * (qz_im μ1 1 0 0 3)) + (13849 : Int32)) - (((25173 : Int32) * (qz_im μ1 1 0 0 3)) + (13849 : Int32)) / (65536 : Int32) * (65536 : Int32))) (fun μ2 => (wz_wr (qz_wI μ2 (1, 0, 0) 3 ((((25173 : Int32) * (qz_im μ2 1 0 0 3)) + (13849 : Int32)) - (((25173 : Int32) * (qz_im μ2 1 0 0 3)) + (13849 : Int32)) / (65536 : Int32) * (65536 : Int32))) (fun μ3 => (wz_cI qf_295 [.inr (.inr (some (1, 0, 0))), .inl (((qz_im μ1 1 0 0 3) / (16 : Int32)) - ((qz_im μ1 1 0 0 3) / (16 : Int32)) / (5 : Int32) * (5 : Int32)), .inl ((100000 : Int32) * ((1 : Int32) + (((qz_im μ2 1 0 0 3) / (16 : Int32)) - ((qz_im μ2 1 0 0 3) / (16 : Int32)) / (40 : Int32) * (40 : Int32)))), .inl (((qz_im μ3 1 0 0 3) / (16 : Int32)) - ((qz_im μ3 1 0 0 3) / (16 : Int32)) / (8 : Int32) * (8 : Int32))] μ3 (fun μ4 v5 => (k 1 ([some (.inr (.inr (some (1, 0, 0)))), some (.inl x1), some (.inl x2), some (.inl (x3 + (1 : Int32))), some (.inl (((qz_im μ1 1 0 0 3) / (16 : Int32)) - ((qz_im μ1 1 0 0 3) / (16 : Int32)) / (5 : Int32) * (5 : Int32))), some (.inl ((100000 : Int32) * ((1 : Int32) + (((qz_im μ2 1 0 0 3) / (16 : Int32)) - ((qz_im μ2 1 0 0 3) / (16 : Int32)) / (40 : Int32) * (40 : Int32))))), none, none, none, none], [], μ4))) (fun μ4 e => (R μ4 (.inr e)))))))))))) :
    gb_282_1 k R (L, [], μ) := wz_fgd hL h
set_option maxRecDepth 10000 in
set_option maxHeartbeats 200000 in
theorem fc_282_3  (μ : qz_M) (k : wz_K) (R : wz_R) (L : qz_L) (hL : qz_fg [false, false, false, false, false, false, false, false, false, false] L = [none, none, none, none, none, none, none, none, none, none])
    (h : (R μ (.inl none))) :
    gc_282_3 k R (L, [], μ) := wz_fgd hL h
set_option maxRecDepth 10000 in
set_option maxHeartbeats 200000 in
theorem fb_282_2 (x3 : Int32) (x4 : Int32) (μ : qz_M) (k : wz_K) (R : wz_R) (L : qz_L) (hL : qz_fg [true, false, false, true, true, false, false, false, false, false] L = [some (.inr (.inr (some (1, 0, 0)))), none, none, some (.inl x3), some (.inl x4), none, none, none, none, none])
    (h : (bif decide (x3 ≤ x4) then (k 0 ([some (.inr (.inr (some (1, 0, 0)))), none, none, some (.inl x3), some (.inl x4), none, none, none, none, none], [], μ)) else (wz_wr (qz_wI μ (1, 0, 0) 3 ((((25173 : Int32) * (qz_im μ 1 0 0 3)) + (13849 : Int32)) - (((25173 : Int32) * (qz_im μ 1 0 0 3)) + (13849 : Int32)) / (65536 : Int32) * (65536 : Int32))) (fun μ1 => (bif decide ((qz_im μ 2 0 0 1400) = 0) then False else (wz_wr (qz_wI μ1 (1, 0, 0) 3 ((((25173 : Int32) * (qz_im μ1 1 0 0 3)) + (13849 : Int32)) - (((25173 : Int32) * (qz_im μ1 1 0 0 3)) + (13849 : Int32)) / (65536 : Int32) * (65536 : Int32))) (fun μ2 => (bif decide ((qz_im μ1 2 0 0 100) = 0) then False else (wz_wr (qz_wI μ2 (1, 0, 0) 3 ((((25173 : Int32) * (qz_im μ2 1 0 0 3)) + (13849 : Int32)) - (((25173 : Int32) * (qz_im μ2 1 0 0 3)) + (13849 : Int32)) / (65536 : Int32) * (65536 : Int32))) (fun μ3 => (wz_wr (qz_wI μ3 (1, 0, 0) 3 ((((25173 : Int32) * (qz_im μ3 1 0 0 3)) + (13849 : Int32)) - (((25173 : Int32) * (qz_im μ3 1 0 0 3)) + (13849 : Int32)) / (65536 : Int32) * (65536 : Int32))) (fun μ4 => (wz_wr (qz_wI μ4 (1, 0, 0) 3 ((((25173 : Int32) * (qz_im μ4 1 0 0 3)) + (13849 : Int32)) - (((25173 : Int32) * (qz_im μ4 1 0 0 3)) + (13849 : Int32)) / (65536 : Int32) * (65536 : Int32))) (fun μ5 => (wz_wr (qz_wI μ5 (1, 0, 0) 3 ((((25173 : Int32) * (qz_im μ5 1 0 0 3)) + (13849 : Int32)) - (((25173 : Int32) * (qz_im μ5 1 0 0 3)) + (13849 : Int32)) / (65536 : Int32) * (65536 : Int32))) (fun μ6 => (wz_cI qf_441 [.inr (.inr (some (1, 0, 0))), .inl (((qz_im μ1 1 0 0 3) / (16 : Int32)) - ((qz_im μ1 1 0 0 3) / (16 : Int32)) / (qz_im μ 2 0 0 1400) * (qz_im μ 2 0 0 1400)), .inl (((qz_im μ2 1 0 0 3) / (16 : Int32)) - ((qz_im μ2 1 0 0 3) / (16 : Int32)) / (qz_im μ1 2 0 0 100) * (qz_im μ1 2 0 0 100)), .inl (((qz_im μ3 1 0 0 3) / (16 : Int32)) - ((qz_im μ3 1 0 0 3) / (16 : Int32)) / (4 : Int32) * (4 : Int32)), .inl ((1 : Int32) + (((qz_im μ4 1 0 0 3) / (16 : Int32)) - ((qz_im μ4 1 0 0 3) / (16 : Int32)) / (40 : Int32) * (40 : Int32))), .inl ((100 : Int32) + (((qz_im μ5 1 0 0 3) / (16 : Int32)) - ((qz_im μ5 1 0 0 3) / (16 : Int32)) / (900 : Int32) * (900 : Int32))), .inl ((1 : Int32) + (((qz_im μ6 1 0 0 3) / (16 : Int32)) - ((qz_im μ6 1 0 0 3) / (16 : Int32)) / (127 : Int32) * (127 : Int32)))] μ6 (fun μ7 v8 => (k 1 ([some (.inr (.inr (some (1, 0, 0)))), none, none, some (.inl x3), some (.inl (x4 + (1 : Int32))), some (.inl (((qz_im μ1 1 0 0 3) / (16 : Int32)) - ((qz_im μ1 1 0 0 3) / (16 : Int32)) / (qz_im μ 2 0 0 1400) * (qz_im μ 2 0 0 1400))), some (.inl (((qz_im μ2 1 0 0 3) / (16 : Int32)) - ((qz_im μ2 1 0 0 3) / (16 : Int32)) / (qz_im μ1 2 0 0 100) * (qz_im μ1 2 0 0 100))), some (.inl (((qz_im μ3 1 0 0 3) / (16 : Int32)) - ((qz_im μ3 1 0 0 3) / (16 : Int32)) / (4 : Int32) * (4 : Int32))), some (.inl ((1 : Int32) + (((qz_im μ4 1 0 0 3) / (16 : Int32)) - ((qz_im μ4 1 0 0 3) / (16 : Int32)) / (40 : Int32) * (40 : Int32)))), some (.inl ((100 : Int32) + (((qz_im μ5 1 0 0 3) / (16 : Int32)) - ((qz_im μ5 1 0 0 3) / (16 : Int32)) / (900 : Int32) * (900 : Int32))))], [], μ7))) (fun μ7 e => (R μ7 (.inr e)))))))))))))))))))) :
    gb_282_2 k R (L, [], μ) := wz_fgd hL h
/- X12 bSold -/
/- X12 bSound -/
set_option maxRecDepth 10000 in
set_option maxHeartbeats 200000 in
theorem fw_285  (μ : qz_M) (R : wz_R)
    (h : (wz_loop qb_285_1 65536 (wz_sk gc_285_6 wz_k0 R) R ([some (.inr (.inr (some (1, 0, 0)))), some (.inl (1 : Int32)), some (.inl (0 : Int32))], [], μ))) :
    wz_call qf_285 [.inr (.inr (some (1, 0, 0)))] μ R := wz_mt9 (L := [some (.inr (.inr (some (1, 0, 0)))), none, none]) sw_285 rfl h
set_option maxRecDepth 10000 in
set_option maxHeartbeats 200000 in
theorem fc_285_6 (x1 : Int32) (μ : qz_M) (k : wz_K) (R : wz_R) (L : qz_L) (hL : qz_fg [true, true, false] L = [some (.inr (.inr (some (1, 0, 0)))), some (.inl x1), none])
    (h : (wz_loop qb_285_2 65536 (wz_sk gc_285_5 k R) R ([some (.inr (.inr (some (1, 0, 0)))), some (.inl x1), some (.inl (0 : Int32))], [], μ))) :
    gc_285_6 k R (L, [], μ) := wz_fgd hL h
set_option maxRecDepth 10000 in
set_option maxHeartbeats 200000 in
theorem fb_285_1 (x1 : Int32) (x2 : Int32) (μ : qz_M) (k : wz_K) (R : wz_R) (L : qz_L) (hL : qz_fg [true, true, true] L = [some (.inr (.inr (some (1, 0, 0)))), some (.inl x1), some (.inl x2)])
    (h : (bif decide ((qz_im μ 2 0 0 1400) ≤ x2) then (k 0 ([some (.inr (.inr (some (1, 0, 0)))), some (.inl x1), some (.inl x2)], [], μ)) else (bif decide (x1 = 0) then (k 1 ([some (.inr (.inr (some (1, 0, 0)))), some (.inl (0 : Int32)), some (.inl (x2 + (1 : Int32)))], [], μ)) else (wz_cI qf_264 [.inr (.inr (some (1, 0, 0))), .inl x2] μ (fun μ1 v2 => (bif decide (v2 = 0) then (k 1 ([some (.inr (.inr (some (1, 0, 0)))), some (.inl (0 : Int32)), some (.inl (x2 + (1 : Int32)))], [], μ1)) else (k 1 ([some (.inr (.inr (some (1, 0, 0)))), some (.inl (1 : Int32)), some (.inl (x2 + (1 : Int32)))], [], μ1)))) (fun μ1 e => (R μ1 (.inr e))))))) :
    gb_285_1 k R (L, [], μ) := wz_fgd hL h
set_option maxRecDepth 10000 in
set_option maxHeartbeats 200000 in
theorem fc_285_5 (x1 : Int32) (μ : qz_M) (k : wz_K) (R : wz_R) (L : qz_L) (hL : qz_fg [true, true, false] L = [some (.inr (.inr (some (1, 0, 0)))), some (.inl x1), none])
    (h : (wz_loop qb_285_3 65536 (wz_sk gc_285_4 k R) R ([some (.inr (.inr (some (1, 0, 0)))), some (.inl x1), some (.inl (0 : Int32))], [], μ))) :
    gc_285_5 k R (L, [], μ) := wz_fgd hL h
set_option maxRecDepth 10000 in
set_option maxHeartbeats 200000 in
theorem fb_285_2 (x1 : Int32) (x2 : Int32) (μ : qz_M) (k : wz_K) (R : wz_R) (L : qz_L) (hL : qz_fg [true, true, true] L = [some (.inr (.inr (some (1, 0, 0)))), some (.inl x1), some (.inl x2)])
    (h : (bif decide ((qz_im μ 2 0 0 2000) ≤ x2) then (k 0 ([some (.inr (.inr (some (1, 0, 0)))), some (.inl x1), some (.inl x2)], [], μ)) else (bif decide (x1 = 0) then (k 1 ([some (.inr (.inr (some (1, 0, 0)))), some (.inl (0 : Int32)), some (.inl (x2 + (1 : Int32)))], [], μ)) else (bif pz_out ((1810 : Int32) + ((2 : Int32) * x2)) 4400 then False else (bif pz_out (((2010 : Int32) + ((16 : Int32) * x2)) + (9 : Int32)) 4400 then False else (bif (!decide ((qz_im μ 2 0 0 (((2010 : Int32) + ((16 : Int32) * x2)) + (9 : Int32)).toNatClampNeg) = (3 : Int32))) then (bif pz_out (((2010 : Int32) + ((16 : Int32) * x2)) + (3 : Int32)) 4400 then False else (bif pz_out (((2010 : Int32) + ((16 : Int32) * x2)) + (5 : Int32)) 4400 then False else (bif decide ((qz_im μ 2 0 0 ((1810 : Int32) + ((2 : Int32) * x2)).toNatClampNeg) < (0 : Int32)) then (k 1 ([some (.inr (.inr (some (1, 0, 0)))), some (.inl (0 : Int32)), some (.inl (x2 + (1 : Int32)))], [], μ)) else (bif decide (((qz_im μ 2 0 0 (((2010 : Int32) + ((16 : Int32) * x2)) + (3 : Int32)).toNatClampNeg) * (qz_im μ 2 0 0 (((2010 : Int32) + ((16 : Int32) * x2)) + (5 : Int32)).toNatClampNeg)) < (qz_im μ 2 0 0 ((1810 : Int32) + ((2 : Int32) * x2)).toNatClampNeg)) then (k 1 ([some (.inr (.inr (some (1, 0, 0)))), some (.inl (0 : Int32)), some (.inl (x2 + (1 : Int32)))], [], μ)) else (k 1 ([some (.inr (.inr (some (1, 0, 0)))), some (.inl (1 : Int32)), some (.inl (x2 + (1 : Int32)))], [], μ)))))) else (bif decide ((qz_im μ 2 0 0 ((1810 : Int32) + ((2 : Int32) * x2)).toNatClampNeg) < (0 : Int32)) then (k 1 ([some (.inr (.inr (some (1, 0, 0)))), some (.inl (0 : Int32)), some (.inl (x2 + (1 : Int32)))], [], μ)) else (bif decide ((0 : Int32) < (qz_im μ 2 0 0 ((1810 : Int32) + ((2 : Int32) * x2)).toNatClampNeg)) then (k 1 ([some (.inr (.inr (some (1, 0, 0)))), some (.inl (0 : Int32)), some (.inl (x2 + (1 : Int32)))], [], μ)) else (k 1 ([some (.inr (.inr (some (1, 0, 0)))), some (.inl (1 : Int32)), some (.inl (x2 + (1 : Int32)))], [], μ)))))))))) :
    gb_285_2 k R (L, [], μ) := wz_fgd hL h
set_option maxRecDepth 10000 in
set_option maxHeartbeats 200000 in
theorem fc_285_4 (x1 : Int32) (μ : qz_M) (k : wz_K) (R : wz_R) (L : qz_L) (hL : qz_fg [false, true, false] L = [none, some (.inl x1), none])
    (h : (bif decide (x1 = 0) || decide (x1 = 1) then (R μ (.inl (some (.inl x1)))) else False)) :
    gc_285_4 k R (L, [], μ) := wz_fgd hL h
set_option maxRecDepth 10000 in
set_option maxHeartbeats 200000 in
theorem fb_285_3 (x1 : Int32) (x2 : Int32) (μ : qz_M) (k : wz_K) (R : wz_R) (L : qz_L) (hL : qz_fg [true, true, true] L = [some (.inr (.inr (some (1, 0, 0)))), some (.inl x1), some (.inl x2)])
    (h : (bif decide ((qz_im μ 2 0 0 1401) ≤ x2) then (k 0 ([some (.inr (.inr (some (1, 0, 0)))), some (.inl x1), some (.inl x2)], [], μ)) else (bif decide (x1 = 0) then (k 1 ([some (.inr (.inr (some (1, 0, 0)))), some (.inl (0 : Int32)), some (.inl (x2 + (1 : Int32)))], [], μ)) else (bif pz_out (((1510 : Int32) + ((12 : Int32) * x2)) + (6 : Int32)) 4400 then False else (bif pz_out (((1510 : Int32) + ((12 : Int32) * x2)) + (7 : Int32)) 4400 then False else (bif (!decide ((qz_im μ 2 0 0 (((1510 : Int32) + ((12 : Int32) * x2)) + (7 : Int32)).toNatClampNeg) = (1 : Int32))) then (bif pz_out (((1510 : Int32) + ((12 : Int32) * x2)) + (3 : Int32)) 4400 then False else (bif decide ((qz_im μ 2 0 0 (((1510 : Int32) + ((12 : Int32) * x2)) + (6 : Int32)).toNatClampNeg) < (0 : Int32)) then (k 1 ([some (.inr (.inr (some (1, 0, 0)))), some (.inl (0 : Int32)), some (.inl (x2 + (1 : Int32)))], [], μ)) else (bif decide ((qz_im μ 2 0 0 (((1510 : Int32) + ((12 : Int32) * x2)) + (3 : Int32)).toNatClampNeg) < (qz_im μ 2 0 0 (((1510 : Int32) + ((12 : Int32) * x2)) + (6 : Int32)).toNatClampNeg)) then (k 1 ([some (.inr (.inr (some (1, 0, 0)))), some (.inl (0 : Int32)), some (.inl (x2 + (1 : Int32)))], [], μ)) else (k 1 ([some (.inr (.inr (some (1, 0, 0)))), some (.inl (1 : Int32)), some (.inl (x2 + (1 : Int32)))], [], μ))))) else (bif decide ((qz_im μ 2 0 0 (((1510 : Int32) + ((12 : Int32) * x2)) + (6 : Int32)).toNatClampNeg) < (0 : Int32)) then (k 1 ([some (.inr (.inr (some (1, 0, 0)))), some (.inl (0 : Int32)), some (.inl (x2 + (1 : Int32)))], [], μ)) else (bif decide ((0 : Int32) < (qz_im μ 2 0 0 (((1510 : Int32) + ((12 : Int32) * x2)) + (6 : Int32)).toNatClampNeg)) then (k 1 ([some (.inr (.inr (some (1, 0, 0)))), some (.inl (0 : Int32)), some (.inl (x2 + (1 : Int32)))], [], μ)) else (k 1 ([some (.inr (.inr (some (1, 0, 0)))), some (.inl (1 : Int32)), some (.inl (x2 + (1 : Int32)))], [], μ)))))))))) :
    gb_285_3 k R (L, [], μ) := wz_fgd hL h
/- X12 bTaker -/
/- X12 bTakes -/
/- X12 bTown -/
/- X12 dBegin -/
/- X12 rBegin -/
set_option maxRecDepth 10000 in
set_option maxHeartbeats 200000 in
theorem fw_462  (μ : qz_M) (R : wz_R)
    (h : (wz_loop qb_462_1 65536 (wz_sk gc_462_2 wz_k0 R) R ([some (.inr (.inr (some (1, 0, 0)))), some (.inl (0 : Int32))], [], μ))) :
    wz_call qf_462 [.inr (.inr (some (1, 0, 0)))] μ R := wz_mt9 (L := [some (.inr (.inr (some (1, 0, 0)))), none]) sw_462 rfl h
set_option maxRecDepth 10000 in
set_option maxHeartbeats 200000 in
theorem fc_462_2  (μ : qz_M) (k : wz_K) (R : wz_R) (L : qz_L) (hL : qz_fg [false, false] L = [none, none])
    (h : (R μ (.inl none))) :
    gc_462_2 k R (L, [], μ) := wz_fgd hL h
set_option maxRecDepth 10000 in
set_option maxHeartbeats 200000 in
theorem fb_462_1 (x1 : Int32) (μ : qz_M) (k : wz_K) (R : wz_R) (L : qz_L) (hL : qz_fg [true, true] L = [some (.inr (.inr (some (1, 0, 0)))), some (.inl x1)])
    (h : (bif decide ((28 : Int32) ≤ x1) then (k 0 ([some (.inr (.inr (some (1, 0, 0)))), some (.inl x1)], [], μ)) else (bif pz_out ((1300 : Int32) + x1) 4400 then False else (wz_wr (qz_wI μ (2, 0, 0) ((1300 : Int32) + x1).toNatClampNeg (18 : Int32)) (fun μ1 => (k 1 ([some (.inr (.inr (some (1, 0, 0)))), some (.inl (x1 + (1 : Int32)))], [], μ1))))))) :
    gb_462_1 k R (L, [], μ) := wz_fgd hL h
/- X12 tBegin -/
set_option maxRecDepth 10000 in
set_option maxHeartbeats 200000 in
theorem fw_509  (μ : qz_M) (R : wz_R)
    (h : (wz_loop qb_509_1 65536 (wz_sk gc_509_2 wz_k0 R) R ([some (.inr (.inr (some (1, 0, 0)))), some (.inl (0 : Int32))], [], μ))) :
    wz_call qf_509 [.inr (.inr (some (1, 0, 0)))] μ R := wz_mt9 (L := [some (.inr (.inr (some (1, 0, 0)))), none]) sw_509 rfl h
set_option maxRecDepth 10000 in
set_option maxHeartbeats 200000 in
theorem fc_509_2  (μ : qz_M) (k : wz_K) (R : wz_R) (L : qz_L) (hL : qz_fg [true, false] L = [some (.inr (.inr (some (1, 0, 0)))), none])
    (h : (wz_wr (qz_wI μ (2, 0, 0) 3201 (2 : Int32)) (fun μ1 => (R μ1 (.inl none))))) :
    gc_509_2 k R (L, [], μ) := wz_fgd hL h
set_option maxRecDepth 10000 in
set_option maxHeartbeats 200000 in
theorem fb_509_1 (x1 : Int32) (μ : qz_M) (k : wz_K) (R : wz_R) (L : qz_L) (hL : qz_fg [true, true] L = [some (.inr (.inr (some (1, 0, 0)))), some (.inl x1)])
    (h : (bif decide ((36 : Int32) ≤ x1) then (k 0 ([some (.inr (.inr (some (1, 0, 0)))), some (.inl x1)], [], μ)) else (bif pz_out ((3210 : Int32) + x1) 4400 then False else (wz_wr (qz_wI μ (2, 0, 0) ((3210 : Int32) + x1).toNatClampNeg (3 : Int32)) (fun μ1 => (k 1 ([some (.inr (.inr (some (1, 0, 0)))), some (.inl (x1 + (1 : Int32)))], [], μ1))))))) :
    gb_509_1 k R (L, [], μ) := wz_fgd hL h
/- X12 iBegin -/
/- X12 kBegin -/
/- X12 begin -/
set_option maxRecDepth 10000 in
set_option maxHeartbeats 200000 in
theorem fw_290  (μ : qz_M) (R : wz_R)
    (h : (wz_loop qb_290_1 65536 (wz_sk gc_290_2 wz_k0 R) R ([some (.inr (.inr (some (1, 0, 0)))), some (.inl (0 : Int32))], [], μ))) :
    wz_call qf_290 [.inr (.inr (some (1, 0, 0)))] μ R := wz_mt9 (L := [some (.inr (.inr (some (1, 0, 0)))), none]) sw_290 rfl h
set_option maxRecDepth 10000 in
set_option maxHeartbeats 200000 in
theorem fc_290_2  (μ : qz_M) (k : wz_K) (R : wz_R) (L : qz_L) (hL : qz_fg [true, false] L = [some (.inr (.inr (some (1, 0, 0)))), none])
    (h : (wz_wr (qz_wI μ (2, 0, 0) 100 (0 : Int32)) (fun μ1 => (wz_cV qf_462 [.inr (.inr (some (1, 0, 0)))] μ1 (fun μ2 => (wz_wr (qz_wI μ2 (2, 0, 0) 1400 (0 : Int32)) (fun μ3 => (wz_wr (qz_wI μ3 (2, 0, 0) 1401 (0 : Int32)) (fun μ4 => (wz_cV qf_509 [.inr (.inr (some (1, 0, 0)))] μ4 (fun μ5 => (wz_wr (qz_wI μ5 (2, 0, 0) 3500 (0 : Int32)) (fun μ6 => (wz_wr (qz_wI μ6 (2, 0, 0) 3810 (50 : Int32)) (fun μ7 => (wz_wr (qz_wI μ7 (2, 0, 0) 3811 (120 : Int32)) (fun μ8 => (wz_wr (qz_wI μ8 (2, 0, 0) 3812 (400 : Int32)) (fun μ9 => (wz_wr (qz_wI μ9 (2, 0, 0) 3813 (2500 : Int32)) (fun μ10 => (R μ10 (.inl none))))))))))))) (fun μ5 e => (R μ5 (.inr e))))))))) (fun μ2 e => (R μ2 (.inr e))))))) :
    gc_290_2 k R (L, [], μ) := wz_fgd hL h
set_option maxRecDepth 10000 in
set_option maxHeartbeats 200000 in
theorem fb_290_1 (x1 : Int32) (μ : qz_M) (k : wz_K) (R : wz_R) (L : qz_L) (hL : qz_fg [true, true] L = [some (.inr (.inr (some (1, 0, 0)))), some (.inl x1)])
    (h : (bif decide ((4400 : Int32) ≤ x1) then (k 0 ([some (.inr (.inr (some (1, 0, 0)))), some (.inl x1)], [], μ)) else (bif pz_out x1 4400 then False else (wz_wr (qz_wI μ (2, 0, 0) x1.toNatClampNeg (0 : Int32)) (fun μ1 => (k 1 ([some (.inr (.inr (some (1, 0, 0)))), some (.inl (x1 + (1 : Int32)))], [], μ1))))))) :
    gb_290_1 k R (L, [], μ) := wz_fgd hL h
/- X12 now -/
/- X12 rFindThree -/
set_option maxRecDepth 10000 in
set_option maxHeartbeats 200000 in
theorem fw_468  (μ : qz_M) (R : wz_R)
    (h : (wz_wr (qz_wI μ (1, 0, 0) 5 (0 : Int32)) (fun μ1 => (wz_loop qb_468_1 65536 (wz_sk gc_468_2 wz_k0 R) R ([some (.inr (.inr (some (1, 0, 0)))), some (.inl (0 : Int32))], [], μ1))))) :
    wz_call qf_468 [.inr (.inr (some (1, 0, 0)))] μ R := wz_mt9 (L := [some (.inr (.inr (some (1, 0, 0)))), none]) sw_468 rfl h
set_option maxRecDepth 10000 in
set_option maxHeartbeats 200000 in
theorem fc_468_2  (μ : qz_M) (k : wz_K) (R : wz_R) (L : qz_L) (hL : qz_fg [false, false] L = [none, none])
    (h : (R μ (.inl none))) :
    gc_468_2 k R (L, [], μ) := wz_fgd hL h
set_option maxRecDepth 10000 in
set_option maxHeartbeats 200000 in
theorem fb_468_1 (x1 : Int32) (μ : qz_M) (k : wz_K) (R : wz_R) (L : qz_L) (hL : qz_fg [true, true] L = [some (.inr (.inr (some (1, 0, 0)))), some (.inl x1)])
    (h : (bif decide ((qz_im μ 2 0 0 102) ≤ x1) then (k 0 ([some (.inr (.inr (some (1, 0, 0)))), some (.inl x1)], [], μ)) else (bif decide ((3 : Int32) ≤ (qz_im μ 1 0 0 5)) then (k 0 ([some (.inr (.inr (some (1, 0, 0)))), some (.inl x1)], [], μ)) else (bif pz_out (((200 : Int32) + ((20 : Int32) * x1)) + (10 : Int32)) 4400 then False else (bif decide ((1 : Int32) < (qz_im μ 2 0 0 (((200 : Int32) + ((20 : Int32) * x1)) + (10 : Int32)).toNatClampNeg)) then (k 1 ([some (.inr (.inr (some (1, 0, 0)))), some (.inl (x1 + (1 : Int32)))], [], μ)) else (bif pz_out (((200 : Int32) + ((20 : Int32) * x1)) + (11 : Int32)) 4400 then False else (bif (!decide ((qz_im μ 2 0 0 (((200 : Int32) + ((20 : Int32) * x1)) + (11 : Int32)).toNatClampNeg) = (6 : Int32))) then (k 1 ([some (.inr (.inr (some (1, 0, 0)))), some (.inl (x1 + (1 : Int32)))], [], μ)) else (bif pz_out (qz_im μ 1 0 0 5) 3 then False else (wz_wr (qz_wI μ (82, 0, 0) (qz_im μ 1 0 0 5).toNatClampNeg x1) (fun μ1 => (wz_wr (qz_wI μ1 (1, 0, 0) 5 ((qz_im μ1 1 0 0 5) + (1 : Int32))) (fun μ2 => (k 1 ([some (.inr (.inr (some (1, 0, 0)))), some (.inl (x1 + (1 : Int32)))], [], μ2)))))))))))))) :
    gb_468_1 k R (L, [], μ) := wz_fgd hL h
/- X12 rWays -/
set_option maxRecDepth 10000 in
set_option maxHeartbeats 200000 in
theorem fw_491  (μ : qz_M) (R : wz_R)
    (h : (wz_loop qb_491_1 65536 (wz_sk gc_491_2 wz_k0 R) R ([some (.inr (.inr (some (1, 0, 0)))), some (.inl (1 : Int32)), some (.inl (0 : Int32))], [], μ))) :
    wz_call qf_491 [.inr (.inr (some (1, 0, 0)))] μ R := wz_mt9 (L := [some (.inr (.inr (some (1, 0, 0)))), none, none]) sw_491 rfl h
set_option maxRecDepth 10000 in
set_option maxHeartbeats 200000 in
theorem fc_491_2 (x1 : Int32) (μ : qz_M) (k : wz_K) (R : wz_R) (L : qz_L) (hL : qz_fg [false, true, false] L = [none, some (.inl x1), none])
    (h : (R μ (.inl (some (.inl x1))))) :
    gc_491_2 k R (L, [], μ) := wz_fgd hL h
set_option maxRecDepth 10000 in
set_option maxHeartbeats 200000 in
theorem fb_491_1 (x1 : Int32) (x2 : Int32) (μ : qz_M) (k : wz_K) (R : wz_R) (L : qz_L) (hL : qz_fg [true, true, true] L = [some (.inr (.inr (some (1, 0, 0)))), some (.inl x1), some (.inl x2)])
    (h : (bif decide ((qz_im μ 1 0 0 5) ≤ x2) then (k 0 ([some (.inr (.inr (some (1, 0, 0)))), some (.inl x1), some (.inl x2)], [], μ)) else (k 1 ([some (.inr (.inr (some (1, 0, 0)))), some (.inl (x1 * ((qz_im μ 2 0 0 1200) + (1 : Int32)))), some (.inl (x2 + (1 : Int32)))], [], μ)))) :
    gb_491_1 k R (L, [], μ) := wz_fgd hL h
/- X12 hold -/
set_option maxRecDepth 10000 in
set_option maxHeartbeats 200000 in
theorem fw_351 (a1 : Int32) (μ : qz_M) (R : wz_R)
    (h : (wz_loop qb_351_1 65536 (wz_sk gc_351_2 wz_k0 R) R ([some (.inr (.inr (some (1, 0, 0)))), some (.inl a1), some (.inl (0 : Int32))], [], μ))) :
    wz_call qf_351 [.inr (.inr (some (1, 0, 0))), .inl a1] μ R := wz_mt9 (L := [some (.inr (.inr (some (1, 0, 0)))), some (.inl a1), none]) sw_351 rfl h
set_option maxRecDepth 10000 in
set_option maxHeartbeats 200000 in
theorem fc_351_2  (μ : qz_M) (k : wz_K) (R : wz_R) (L : qz_L) (hL : qz_fg [false, false, false] L = [none, none, none])
    (h : (R μ (.inl none))) :
    gc_351_2 k R (L, [], μ) := wz_fgd hL h
set_option maxRecDepth 10000 in
set_option maxHeartbeats 200000 in
theorem fb_351_1 (x1 : Int32) (x2 : Int32) (μ : qz_M) (k : wz_K) (R : wz_R) (L : qz_L) (hL : qz_fg [true, true, true] L = [some (.inr (.inr (some (1, 0, 0)))), some (.inl x1), some (.inl x2)])
    (h : (bif decide ((4400 : Int32) ≤ x2) then (k 0 ([some (.inr (.inr (some (1, 0, 0)))), some (.inl x1), some (.inl x2)], [], μ)) else (bif pz_out x2 4400 then False else (bif pz_out (((4400 : Int32) * x1) + x2) 8800 then False else (wz_wr (qz_wI μ (81, 0, 0) (((4400 : Int32) * x1) + x2).toNatClampNeg (qz_im μ 2 0 0 x2.toNatClampNeg)) (fun μ1 => (k 1 ([some (.inr (.inr (some (1, 0, 0)))), some (.inl x1), some (.inl (x2 + (1 : Int32)))], [], μ1)))))))) :
    gb_351_1 k R (L, [], μ) := wz_fgd hL h
/- X12 rFigure -/
/- X12 isShut -/
set_option maxRecDepth 10000 in
set_option maxHeartbeats 200000 in
theorem fw_390 (a1 : Int32) (μ : qz_M) (R : wz_R)
    (h : (bif decide (a1 < (0 : Int32)) then (R μ (.inl (some (.inl (0 : Int32))))) else (bif decide ((5 : Int32) < a1) then (R μ (.inl (some (.inl (0 : Int32))))) else (bif pz_out ((3510 : Int32) + a1) 4400 then False else (bif decide ((qz_im μ 2 0 0 ((3510 : Int32) + a1).toNatClampNeg) ≤ (qz_im μ 2 0 0 0)) then (R μ (.inl (some (.inl (0 : Int32))))) else (R μ (.inl (some (.inl (1 : Int32)))))))))) :
    wz_call qf_390 [.inr (.inr (some (1, 0, 0))), .inl a1] μ R := wz_mt9 (L := [some (.inr (.inr (some (1, 0, 0)))), some (.inl a1)]) sw_390 rfl h
/- X12 rAt -/
/- X12 rStanding -/
set_option maxRecDepth 10000 in
set_option maxHeartbeats 200000 in
theorem fw_488 (a1 : Int32) (μ : qz_M) (R : wz_R)
    (h : (wz_loop qb_488_1 65536 (wz_sk gc_488_2 wz_k0 R) R ([some (.inr (.inr (some (1, 0, 0)))), some (.inl a1), some (.inl (0 : Int32)), some (.inl (0 : Int32))], [], μ))) :
    wz_call qf_488 [.inr (.inr (some (1, 0, 0))), .inl a1] μ R := wz_mt9 (L := [some (.inr (.inr (some (1, 0, 0)))), some (.inl a1), none, none]) sw_488 rfl h
set_option maxRecDepth 10000 in
set_option maxHeartbeats 200000 in
theorem fc_488_2 (x2 : Int32) (μ : qz_M) (k : wz_K) (R : wz_R) (L : qz_L) (hL : qz_fg [false, false, true, false] L = [none, none, some (.inl x2), none])
    (h : (R μ (.inl (some (.inl x2))))) :
    gc_488_2 k R (L, [], μ) := wz_fgd hL h
set_option maxRecDepth 10000 in
set_option maxHeartbeats 200000 in
theorem fb_488_1 (x1 : Int32) (x2 : Int32) (x3 : Int32) (μ : qz_M) (k : wz_K) (R : wz_R) (L : qz_L) (hL : qz_fg [true, true, true, true] L = [some (.inr (.inr (some (1, 0, 0)))), some (.inl x1), some (.inl x2), some (.inl x3)])
    (h : (bif decide ((qz_im μ 2 0 0 102) ≤ x3) then (k 0 ([some (.inr (.inr (some (1, 0, 0)))), some (.inl x1), some (.inl x2), some (.inl x3)], [], μ)) else (bif pz_out (((200 : Int32) + ((20 : Int32) * x3)) + (10 : Int32)) 4400 then False else (bif decide ((1 : Int32) < (qz_im μ 2 0 0 (((200 : Int32) + ((20 : Int32) * x3)) + (10 : Int32)).toNatClampNeg)) then (k 1 ([some (.inr (.inr (some (1, 0, 0)))), some (.inl x1), some (.inl (x2 + (0 : Int32))), some (.inl (x3 + (1 : Int32)))], [], μ)) else (bif pz_out (((200 : Int32) + ((20 : Int32) * x3)) + (11 : Int32)) 4400 then False else (bif (!decide ((qz_im μ 2 0 0 (((200 : Int32) + ((20 : Int32) * x3)) + (11 : Int32)).toNatClampNeg) = x1)) then (k 1 ([some (.inr (.inr (some (1, 0, 0)))), some (.inl x1), some (.inl (x2 + (0 : Int32))), some (.inl (x3 + (1 : Int32)))], [], μ)) else (k 1 ([some (.inr (.inr (some (1, 0, 0)))), some (.inl x1), some (.inl (x2 + (1 : Int32))), some (.inl (x3 + (1 : Int32)))], [], μ)))))))) :
    gb_488_1 k R (L, [], μ) := wz_fgd hL h
/- X12 rLeft -/
/- X12 rDoor -/
/- X12 rInto -/
-- fw_472 is taken out
/- X12 rDoes -/
set_option maxRecDepth 10000 in
set_option maxHeartbeats 200000 in
theorem fw_464 (a1 : Int32) (μ : qz_M) (R : wz_R)
    (h : (wz_loop qb_464_1 65536 (wz_sk gc_464_2 wz_k0 R) R ([some (.inr (.inr (some (1, 0, 0)))), some (.inl a1), some (.inl (1 : Int32)), some (.inl (0 : Int32)), none], [], μ))) :
    wz_call qf_464 [.inr (.inr (some (1, 0, 0))), .inl a1] μ R := wz_mt9 (L := [some (.inr (.inr (some (1, 0, 0)))), some (.inl a1), none, none, none]) sw_464 rfl h
set_option maxRecDepth 10000 in
set_option maxHeartbeats 200000 in
theorem fc_464_2 (x2 : Int32) (μ : qz_M) (k : wz_K) (R : wz_R) (L : qz_L) (hL : qz_fg [false, false, true, false, false] L = [none, none, some (.inl x2), none, none])
    (h : (bif decide (x2 = 0) || decide (x2 = 1) then (R μ (.inl (some (.inl x2)))) else False)) :
    gc_464_2 k R (L, [], μ) := wz_fgd hL h
set_option maxRecDepth 10000 in
set_option maxHeartbeats 200000 in
theorem fb_464_1 (x1 : Int32) (x2 : Int32) (x3 : Int32) (μ : qz_M) (k : wz_K) (R : wz_R) (L : qz_L) (hL : qz_fg [true, true, true, true, false] L = [some (.inr (.inr (some (1, 0, 0)))), some (.inl x1), some (.inl x2), some (.inl x3), none])
    (h : (bif decide ((qz_im μ 1 0 0 5) ≤ x3) then (k 0 ([some (.inr (.inr (some (1, 0, 0)))), some (.inl x1), some (.inl x2), some (.inl x3), none], [], μ)) else (bif decide (x2 = 0) then (k 0 ([some (.inr (.inr (some (1, 0, 0)))), some (.inl x1), some (.inl x2), some (.inl x3), none], [], μ)) else (wz_cI qf_466 [.inr (.inr (some (1, 0, 0))), .inl x1, .inl x3] μ (fun μ1 v2 => (bif decide ((v2 - (1 : Int32)) < 0) then (k 1 ([some (.inr (.inr (some (1, 0, 0)))), some (.inl x1), some (.inl x2), some (.inl (x3 + (1 : Int32))), some (.inl (v2 - (1 : Int32)))], [], μ1)) else (wz_cI qf_390 [.inr (.inr (some (1, 0, 0))), .inl (v2 - (1 : Int32))] μ1 (fun μ3 v4 => (bif (!decide (v4 = 0)) then (bif pz_out x3 3 then False else (wz_cV qf_472 [.inr (.inr (some (1, 0, 0))), .inl (qz_im μ3 82 0 0 x3.toNatClampNeg), .inl (v2 - (1 : Int32))] μ3 (fun μ5 => (k 1 ([some (.inr (.inr (some (1, 0, 0)))), some (.inl x1), some (.inl (0 : Int32)), some (.inl (x3 + (1 : Int32))), some (.inl (v2 - (1 : Int32)))], [], μ5))) (fun μ5 e => (R μ5 (.inr e))))) else (bif (!decide ((v2 - (1 : Int32)) = (6 : Int32))) then (bif pz_out (((1210 : Int32) + ((12 : Int32) * (v2 - (1 : Int32)))) + (0 : Int32)) 4400 then False else (wz_cI qf_488 [.inr (.inr (some (1, 0, 0))), .inl (v2 - (1 : Int32))] μ3 (fun μ6 v7 => (bif decide (((qz_im μ3 2 0 0 (((1210 : Int32) + ((12 : Int32) * (v2 - (1 : Int32)))) + (0 : Int32)).toNatClampNeg) - v7) ≤ 0) then (bif pz_out x3 3 then False else (wz_cV qf_472 [.inr (.inr (some (1, 0, 0))), .inl (qz_im μ6 82 0 0 x3.toNatClampNeg), .inl (v2 - (1 : Int32))] μ6 (fun μ8 => (k 1 ([some (.inr (.inr (some (1, 0, 0)))), some (.inl x1), some (.inl (0 : Int32)), some (.inl (x3 + (1 : Int32))), some (.inl (v2 - (1 : Int32)))], [], μ8))) (fun μ8 e => (R μ8 (.inr e))))) else (bif pz_out x3 3 then False else (wz_cV qf_472 [.inr (.inr (some (1, 0, 0))), .inl (qz_im μ6 82 0 0 x3.toNatClampNeg), .inl (v2 - (1 : Int32))] μ6 (fun μ9 => (k 1 ([some (.inr (.inr (some (1, 0, 0)))), some (.inl x1), some (.inl (1 : Int32)), some (.inl (x3 + (1 : Int32))), some (.inl (v2 - (1 : Int32)))], [], μ9))) (fun μ9 e => (R μ9 (.inr e))))))) (fun μ6 e => (R μ6 (.inr e))))) else (wz_cI qf_488 [.inr (.inr (some (1, 0, 0))), .inl (v2 - (1 : Int32))] μ3 (fun μ10 v11 => (bif decide (((12 : Int32) - v11) ≤ 0) then (bif pz_out x3 3 then False else (wz_cV qf_472 [.inr (.inr (some (1, 0, 0))), .inl (qz_im μ10 82 0 0 x3.toNatClampNeg), .inl (v2 - (1 : Int32))] μ10 (fun μ12 => (k 1 ([some (.inr (.inr (some (1, 0, 0)))), some (.inl x1), some (.inl (0 : Int32)), some (.inl (x3 + (1 : Int32))), some (.inl (v2 - (1 : Int32)))], [], μ12))) (fun μ12 e => (R μ12 (.inr e))))) else (bif pz_out x3 3 then False else (wz_cV qf_472 [.inr (.inr (some (1, 0, 0))), .inl (qz_im μ10 82 0 0 x3.toNatClampNeg), .inl (v2 - (1 : Int32))] μ10 (fun μ13 => (k 1 ([some (.inr (.inr (some (1, 0, 0)))), some (.inl x1), some (.inl (1 : Int32)), some (.inl (x3 + (1 : Int32))), some (.inl (v2 - (1 : Int32)))], [], μ13))) (fun μ13 e => (R μ13 (.inr e))))))) (fun μ10 e => (R μ10 (.inr e))))))) (fun μ3 e => (R μ3 (.inr e)))))) (fun μ1 e => (R μ1 (.inr e))))))) :
    gb_464_1 k R (L, [], μ) := wz_fgd hL h
/- X12 rOutside -/
/- X12 rTowards -/
/- X12 rWarms -/
/- X12 rRipens -/
/- X12 rHarms -/
/- X12 rPalletAges -/
-- fw_481 is taken out