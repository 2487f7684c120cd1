/-! what the methods ask, 17 -/
/- X12 tAt -/
/- X12 tWarmth -/
/- X12 rParcelAges -/
-- fw_482 is taken out
/- X12 rHour -/
set_option maxRecDepth 10000 in
set_option maxHeartbeats 200000 in
theorem fw_471  (μ : qz_M) (R : wz_R)
    (h : (wz_loop qb_471_1 65536 (wz_sk gc_471_6 wz_k0 R) R ([some (.inr (.inr (some (1, 0, 0)))), some (.inl (0 : Int32))], [], μ))) :
    wz_call qf_471 [.inr (.inr (some (1, 0, 0)))] μ R := wz_mt9 (L := [some (.inr (.inr (some (1, 0, 0)))), none]) sw_471 rfl h
set_option maxRecDepth 10000 in
set_option maxHeartbeats 200000 in
theorem fc_471_6  (μ : qz_M) (k : wz_K) (R : wz_R) (L : qz_L) (hL : qz_fg [true, false] L = [some (.inr (.inr (some (1, 0, 0)))), none])
    (h : (wz_loop qb_471_2 65536 (wz_sk gc_471_5 k R) R ([some (.inr (.inr (some (1, 0, 0)))), some (.inl (0 : Int32))], [], μ))) :
    gc_471_6 k R (L, [], μ) := wz_fgd hL h
set_option maxRecDepth 10000 in
set_option maxHeartbeats 200000 in
theorem fb_471_1 (x1 : Int32) (μ : qz_M) (k : wz_K) (R : wz_R) (L : qz_L) (hL : qz_fg [true, true] L = [some (.inr (.inr (some (1, 0, 0)))), some (.inl x1)])
    (h : (bif decide ((qz_im μ 2 0 0 1200) ≤ x1) then (k 0 ([some (.inr (.inr (some (1, 0, 0)))), some (.inl x1)], [], μ)) else (wz_cV qf_490 [.inr (.inr (some (1, 0, 0))), .inl x1] μ (fun μ1 => (k 1 ([some (.inr (.inr (some (1, 0, 0)))), some (.inl (x1 + (1 : Int32)))], [], μ1))) (fun μ1 e => (R μ1 (.inr e)))))) :
    gb_471_1 k R (L, [], μ) := wz_fgd hL h
set_option maxRecDepth 10000 in
set_option maxHeartbeats 200000 in
theorem fc_471_5  (μ : qz_M) (k : wz_K) (R : wz_R) (L : qz_L) (hL : qz_fg [true, false] L = [some (.inr (.inr (some (1, 0, 0)))), none])
    (h : (wz_loop qb_471_3 65536 (wz_sk gc_471_4 k R) R ([some (.inr (.inr (some (1, 0, 0)))), some (.inl (0 : Int32))], [], μ))) :
    gc_471_5 k R (L, [], μ) := wz_fgd hL h
set_option maxRecDepth 10000 in
set_option maxHeartbeats 200000 in
theorem fb_471_2 (x1 : Int32) (μ : qz_M) (k : wz_K) (R : wz_R) (L : qz_L) (hL : qz_fg [true, true] L = [some (.inr (.inr (some (1, 0, 0)))), some (.inl x1)])
    (h : (bif decide ((qz_im μ 2 0 0 102) ≤ x1) then (k 0 ([some (.inr (.inr (some (1, 0, 0)))), some (.inl x1)], [], μ)) else (bif pz_out (((200 : Int32) + ((20 : Int32) * x1)) + (10 : Int32)) 4400 then False else (bif decide ((1 : Int32) < (qz_im μ 2 0 0 (((200 : Int32) + ((20 : Int32) * x1)) + (10 : Int32)).toNatClampNeg)) then (k 1 ([some (.inr (.inr (some (1, 0, 0)))), some (.inl (x1 + (1 : Int32)))], [], μ)) else (wz_cV qf_481 [.inr (.inr (some (1, 0, 0))), .inl x1] μ (fun μ1 => (k 1 ([some (.inr (.inr (some (1, 0, 0)))), some (.inl (x1 + (1 : Int32)))], [], μ1))) (fun μ1 e => (R μ1 (.inr e)))))))) :
    gb_471_2 k R (L, [], μ) := wz_fgd hL h
set_option maxRecDepth 10000 in
set_option maxHeartbeats 200000 in
theorem fc_471_4  (μ : qz_M) (k : wz_K) (R : wz_R) (L : qz_L) (hL : qz_fg [false, false] L = [none, none])
    (h : (R μ (.inl none))) :
    gc_471_4 k R (L, [], μ) := wz_fgd hL h
set_option maxRecDepth 10000 in
set_option maxHeartbeats 200000 in
theorem fb_471_3 (x1 : Int32) (μ : qz_M) (k : wz_K) (R : wz_R) (L : qz_L) (hL : qz_fg [true, true] L = [some (.inr (.inr (some (1, 0, 0)))), some (.inl x1)])
    (h : (bif decide ((qz_im μ 2 0 0 2000) ≤ x1) then (k 0 ([some (.inr (.inr (some (1, 0, 0)))), some (.inl x1)], [], μ)) else (bif pz_out (((2010 : Int32) + ((16 : Int32) * x1)) + (9 : Int32)) 4400 then False else (bif (!decide ((qz_im μ 2 0 0 (((2010 : Int32) + ((16 : Int32) * x1)) + (9 : Int32)).toNatClampNeg) = (1 : Int32))) then (k 1 ([some (.inr (.inr (some (1, 0, 0)))), some (.inl (x1 + (1 : Int32)))], [], μ)) else (wz_cV qf_482 [.inr (.inr (some (1, 0, 0))), .inl x1] μ (fun μ1 => (k 1 ([some (.inr (.inr (some (1, 0, 0)))), some (.inl (x1 + (1 : Int32)))], [], μ1))) (fun μ1 e => (R μ1 (.inr e)))))))) :
    gb_471_3 k R (L, [], μ) := wz_fgd hL h
/- X12 rAlone -/
set_option maxRecDepth 10000 in
set_option maxHeartbeats 200000 in
theorem fw_460 (a1 : Int32) (μ : qz_M) (R : wz_R)
    (h : (wz_loop qb_460_1 65536 (wz_sk gc_460_2 wz_k0 R) R ([some (.inr (.inr (some (1, 0, 0)))), some (.inl a1)], [], μ))) :
    wz_call qf_460 [.inr (.inr (some (1, 0, 0))), .inl a1] μ R := wz_mt9 (L := [some (.inr (.inr (some (1, 0, 0)))), some (.inl a1)]) sw_460 rfl h
set_option maxRecDepth 10000 in
set_option maxHeartbeats 200000 in
theorem fc_460_2  (μ : qz_M) (k : wz_K) (R : wz_R) (L : qz_L) (hL : qz_fg [false, false] L = [none, none])
    (h : (R μ (.inl none))) :
    gc_460_2 k R (L, [], μ) := wz_fgd hL h
set_option maxRecDepth 10000 in
set_option maxHeartbeats 200000 in
theorem fb_460_1 (x1 : Int32) (μ : qz_M) (k : wz_K) (R : wz_R) (L : qz_L) (hL : qz_fg [true, true] L = [some (.inr (.inr (some (1, 0, 0)))), some (.inl x1)])
    (h : (bif decide (x1 ≤ (qz_im μ 2 0 0 0)) then (k 0 ([some (.inr (.inr (some (1, 0, 0)))), some (.inl x1)], [], μ)) else (wz_wr (qz_wI μ (2, 0, 0) 0 ((qz_im μ 2 0 0 0) + (1 : Int32))) (fun μ1 => (wz_cV qf_471 [.inr (.inr (some (1, 0, 0)))] μ1 (fun μ2 => (k 1 ([some (.inr (.inr (some (1, 0, 0)))), some (.inl x1)], [], μ2))) (fun μ2 e => (R μ2 (.inr e)))))))) :
    gb_460_1 k R (L, [], μ) := wz_fgd hL h
/- X12 mStage -/
/- X12 rFine -/
set_option maxRecDepth 10000 in
set_option maxHeartbeats 200000 in
theorem fw_469  (μ : qz_M) (R : wz_R)
    (h : (wz_loop qb_469_1 65536 (wz_sk gc_469_2 wz_k0 R) R ([some (.inr (.inr (some (1, 0, 0)))), some (.inl (0 : Int32)), some (.inl (0 : Int32))], [], μ))) :
    wz_call qf_469 [.inr (.inr (some (1, 0, 0)))] μ R := wz_mt9 (L := [some (.inr (.inr (some (1, 0, 0)))), none, none]) sw_469 rfl h
set_option maxRecDepth 10000 in
set_option maxHeartbeats 200000 in
theorem fc_469_2 (x1 : Int32) (μ : qz_M) (k : wz_K) (R : wz_R) (L : qz_L) (hL : qz_fg [false, true, false] L = [none, some (.inl x1), none])
    (h : (R μ (.inl (some (.inl x1))))) :
    gc_469_2 k R (L, [], μ) := wz_fgd hL h
set_option maxRecDepth 10000 in
set_option maxHeartbeats 200000 in
theorem fb_469_1 (x1 : Int32) (x2 : Int32) (μ : qz_M) (k : wz_K) (R : wz_R) (L : qz_L) (hL : qz_fg [true, true, true] L = [some (.inr (.inr (some (1, 0, 0)))), some (.inl x1), some (.inl x2)])
    (h : (bif decide ((qz_im μ 2 0 0 102) ≤ x2) then (k 0 ([some (.inr (.inr (some (1, 0, 0)))), some (.inl x1), some (.inl x2)], [], μ)) else (bif pz_out (((200 : Int32) + ((20 : Int32) * x2)) + (10 : Int32)) 4400 then False else (bif decide ((1 : Int32) < (qz_im μ 2 0 0 (((200 : Int32) + ((20 : Int32) * x2)) + (10 : Int32)).toNatClampNeg)) then (k 1 ([some (.inr (.inr (some (1, 0, 0)))), some (.inl (x1 + (0 : Int32))), some (.inl (x2 + (1 : Int32)))], [], μ)) else (bif pz_out (((200 : Int32) + ((20 : Int32) * x2)) + (1 : Int32)) 4400 then False else (bif pz_out (((200 : Int32) + ((20 : Int32) * x2)) + (7 : Int32)) 4400 then False else (bif pz_out (((110 : Int32) + ((5 : Int32) * (qz_im μ 2 0 0 (((200 : Int32) + ((20 : Int32) * x2)) + (1 : Int32)).toNatClampNeg))) + (3 : Int32)) 4400 then False else (bif pz_out (((110 : Int32) + ((5 : Int32) * (qz_im μ 2 0 0 (((200 : Int32) + ((20 : Int32) * x2)) + (1 : Int32)).toNatClampNeg))) + (4 : Int32)) 4400 then False else (bif decide (((qz_im μ 2 0 0 (((110 : Int32) + ((5 : Int32) * (qz_im μ 2 0 0 (((200 : Int32) + ((20 : Int32) * x2)) + (1 : Int32)).toNatClampNeg))) + (3 : Int32)).toNatClampNeg) - (qz_im μ 2 0 0 (((110 : Int32) + ((5 : Int32) * (qz_im μ 2 0 0 (((200 : Int32) + ((20 : Int32) * x2)) + (1 : Int32)).toNatClampNeg))) + (4 : Int32)).toNatClampNeg)) ≤ (qz_im μ 2 0 0 (((200 : Int32) + ((20 : Int32) * x2)) + (7 : Int32)).toNatClampNeg)) then (bif decide (((qz_im μ 2 0 0 (((110 : Int32) + ((5 : Int32) * (qz_im μ 2 0 0 (((200 : Int32) + ((20 : Int32) * x2)) + (1 : Int32)).toNatClampNeg))) + (3 : Int32)).toNatClampNeg) + (qz_im μ 2 0 0 (((110 : Int32) + ((5 : Int32) * (qz_im μ 2 0 0 (((200 : Int32) + ((20 : Int32) * x2)) + (1 : Int32)).toNatClampNeg))) + (4 : Int32)).toNatClampNeg)) < (qz_im μ 2 0 0 (((200 : Int32) + ((20 : Int32) * x2)) + (7 : Int32)).toNatClampNeg)) then (bif decide (((qz_im μ 2 0 0 (((110 : Int32) + ((5 : Int32) * (qz_im μ 2 0 0 (((200 : Int32) + ((20 : Int32) * x2)) + (1 : Int32)).toNatClampNeg))) + (3 : Int32)).toNatClampNeg) + ((3 : Int32) * (qz_im μ 2 0 0 (((110 : Int32) + ((5 : Int32) * (qz_im μ 2 0 0 (((200 : Int32) + ((20 : Int32) * x2)) + (1 : Int32)).toNatClampNeg))) + (4 : Int32)).toNatClampNeg))) < (qz_im μ 2 0 0 (((200 : Int32) + ((20 : Int32) * x2)) + (7 : Int32)).toNatClampNeg)) then (k 1 ([some (.inr (.inr (some (1, 0, 0)))), some (.inl (x1 + (0 : Int32))), some (.inl (x2 + (1 : Int32)))], [], μ)) else (k 1 ([some (.inr (.inr (some (1, 0, 0)))), some (.inl (x1 + (0 : Int32))), some (.inl (x2 + (1 : Int32)))], [], μ))) else (k 1 ([some (.inr (.inr (some (1, 0, 0)))), some (.inl (x1 + (1 : Int32))), some (.inl (x2 + (1 : Int32)))], [], μ))) else (k 1 ([some (.inr (.inr (some (1, 0, 0)))), some (.inl (x1 + (0 : Int32))), some (.inl (x2 + (1 : Int32)))], [], μ))))))))))) :
    gb_469_1 k R (L, [], μ) := wz_fgd hL h
/- X12 release -/
set_option maxRecDepth 10000 in
set_option maxHeartbeats 200000 in
theorem fw_493 (a1 : Int32) (μ : qz_M) (R : wz_R)
    (h : (wz_loop qb_493_1 65536 (wz_sk gc_493_2 wz_k0 R) R ([some (.inr (.inr (some (1, 0, 0)))), some (.inl a1), some (.inl (0 : Int32))], [], μ))) :
    wz_call qf_493 [.inr (.inr (some (1, 0, 0))), .inl a1] μ R := wz_mt9 (L := [some (.inr (.inr (some (1, 0, 0)))), some (.inl a1), none]) sw_493 rfl h
set_option maxRecDepth 10000 in
set_option maxHeartbeats 200000 in
theorem fc_493_2  (μ : qz_M) (k : wz_K) (R : wz_R) (L : qz_L) (hL : qz_fg [false, false, false] L = [none, none, none])
    (h : (R μ (.inl none))) :
    gc_493_2 k R (L, [], μ) := wz_fgd hL h
set_option maxRecDepth 10000 in
set_option maxHeartbeats 200000 in
theorem fb_493_1 (x1 : Int32) (x2 : Int32) (μ : qz_M) (k : wz_K) (R : wz_R) (L : qz_L) (hL : qz_fg [true, true, true] L = [some (.inr (.inr (some (1, 0, 0)))), some (.inl x1), some (.inl x2)])
    (h : (bif decide ((4400 : Int32) ≤ x2) then (k 0 ([some (.inr (.inr (some (1, 0, 0)))), some (.inl x1), some (.inl x2)], [], μ)) else (bif pz_out (((4400 : Int32) * x1) + x2) 8800 then False else (bif pz_out x2 4400 then False else (wz_wr (qz_wI μ (2, 0, 0) x2.toNatClampNeg (qz_im μ 81 0 0 (((4400 : Int32) * x1) + x2).toNatClampNeg)) (fun μ1 => (k 1 ([some (.inr (.inr (some (1, 0, 0)))), some (.inl x1), some (.inl (x2 + (1 : Int32)))], [], μ1)))))))) :
    gb_493_1 k R (L, [], μ) := wz_fgd hL h
/- X12 rFindBest -/
set_option maxRecDepth 10000 in
set_option maxHeartbeats 200000 in
theorem fw_467 (a1 : Int32) (μ : qz_M) (R : wz_R)
    (h : (wz_cV qf_468 [.inr (.inr (some (1, 0, 0)))] μ (fun μ1 => (wz_wr (qz_wI μ1 (1, 0, 0) 6 (-1 : Int32)) (fun μ2 => (wz_cI qf_491 [.inr (.inr (some (1, 0, 0)))] μ2 (fun μ3 v4 => (wz_loop qb_467_1 65536 (wz_sk gc_467_2 wz_k0 R) R ([some (.inr (.inr (some (1, 0, 0)))), some (.inl a1), some (.inl v4), some (.inl (0 : Int32)), none], [], μ3))) (fun μ3 e => (R μ3 (.inr e))))))) (fun μ1 e => (R μ1 (.inr e))))) :
    wz_call qf_467 [.inr (.inr (some (1, 0, 0))), .inl a1] μ R := wz_mt9 (L := [some (.inr (.inr (some (1, 0, 0)))), some (.inl a1), none, none, none]) sw_467 rfl h
set_option maxRecDepth 10000 in
set_option maxHeartbeats 200000 in
theorem fc_467_2  (μ : qz_M) (k : wz_K) (R : wz_R) (L : qz_L) (hL : qz_fg [false, false, false, false, false] L = [none, none, none, none, none])
    (h : (R μ (.inl none))) :
    gc_467_2 k R (L, [], μ) := wz_fgd hL h
set_option maxRecDepth 10000 in
set_option maxHeartbeats 200000 in
theorem fb_467_1 (x1 : Int32) (x2 : Int32) (x3 : Int32) (μ : qz_M) (k : wz_K) (R : wz_R) (L : qz_L) (hL : qz_fg [true, true, true, true, false] L = [some (.inr (.inr (some (1, 0, 0)))), some (.inl x1), some (.inl x2), some (.inl x3), none])
    (h : (bif decide (x2 ≤ x3) then (k 0 ([some (.inr (.inr (some (1, 0, 0)))), some (.inl x1), some (.inl x2), some (.inl x3), none], [], μ)) else (wz_cV qf_351 [.inr (.inr (some (1, 0, 0))), .inl (0 : Int32)] μ (fun μ1 => (wz_cI qf_464 [.inr (.inr (some (1, 0, 0))), .inl x3] μ1 (fun μ2 v3 => (bif decide (v3 = 0) then (wz_cV qf_493 [.inr (.inr (some (1, 0, 0))), .inl (0 : Int32)] μ2 (fun μ4 => (k 1 ([some (.inr (.inr (some (1, 0, 0)))), some (.inl x1), some (.inl x2), some (.inl (x3 + (1 : Int32))), none], [], μ4))) (fun μ4 e => (R μ4 (.inr e)))) else (wz_cV qf_460 [.inr (.inr (some (1, 0, 0))), .inl x1] μ2 (fun μ5 => (wz_cI qf_469 [.inr (.inr (some (1, 0, 0)))] μ5 (fun μ6 v7 => (bif decide (v7 ≤ (qz_im μ6 1 0 0 6)) then (wz_cV qf_493 [.inr (.inr (some (1, 0, 0))), .inl (0 : Int32)] μ6 (fun μ8 => (k 1 ([some (.inr (.inr (some (1, 0, 0)))), some (.inl x1), some (.inl x2), some (.inl (x3 + (1 : Int32))), some (.inl v7)], [], μ8))) (fun μ8 e => (R μ8 (.inr e)))) else (wz_wr (qz_wI μ6 (1, 0, 0) 6 v7) (fun μ9 => (wz_wr (qz_wI μ9 (1, 0, 0) 7 x3) (fun μ10 => (wz_cV qf_493 [.inr (.inr (some (1, 0, 0))), .inl (0 : Int32)] μ10 (fun μ11 => (k 1 ([some (.inr (.inr (some (1, 0, 0)))), some (.inl x1), some (.inl x2), some (.inl (x3 + (1 : Int32))), some (.inl v7)], [], μ11))) (fun μ11 e => (R μ11 (.inr e)))))))))) (fun μ6 e => (R μ6 (.inr e))))) (fun μ5 e => (R μ5 (.inr e)))))) (fun μ2 e => (R μ2 (.inr e))))) (fun μ1 e => (R μ1 (.inr e)))))) :
    gb_467_1 k R (L, [], μ) := wz_fgd hL h
/- X12 best -/
set_option maxRecDepth 10000 in
set_option maxHeartbeats 200000 in
theorem fw_291 (a1 : Int32) (a2 : Int32) (μ : qz_M) (R : wz_R)
    (h : (bif decide ((671 : Int32) ≤ ((qz_im μ 2 0 0 0) + (48 : Int32))) then (bif decide (a1 < (qz_im μ 2 0 0 0)) then (wz_wr (qz_wI μ (1, 0, 0) 2 (1 : Int32)) (fun μ1 => (R μ1 (.inl (some (.inl (0 : Int32))))))) else (bif decide ((671 : Int32) < a1) then (wz_wr (qz_wI μ (1, 0, 0) 2 (1 : Int32)) (fun μ2 => (R μ2 (.inl (some (.inl (0 : Int32))))))) else (bif decide (a2 < (0 : Int32)) then (wz_wr (qz_wI μ (1, 0, 0) 2 (1 : Int32)) (fun μ3 => (R μ3 (.inl (some (.inl (0 : Int32))))))) else (bif decide ((3 : Int32) < a2) then (wz_wr (qz_wI μ (1, 0, 0) 2 (1 : Int32)) (fun μ4 => (R μ4 (.inl (some (.inl (0 : Int32))))))) else (wz_wr (qz_wI μ (1, 0, 0) 2 (0 : Int32)) (fun μ5 => (wz_cV qf_467 [.inr (.inr (some (1, 0, 0))), .inl a1] μ5 (fun μ6 => (bif (!decide (a2 = 0)) then (bif decide (a2 ≤ (qz_im μ6 1 0 0 5)) then (wz_cI qf_466 [.inr (.inr (some (1, 0, 0))), .inl (qz_im μ6 1 0 0 7), .inl (a2 - (1 : Int32))] μ6 (fun μ7 v8 => (bif (!decide (v8 = 0)) then (R μ7 (.inl (some (.inl (v8 - (1 : Int32)))))) else (R μ7 (.inl (some (.inl (6 : Int32))))))) (fun μ7 e => (R μ7 (.inr e)))) else (R μ6 (.inl (some (.inl (-1 : Int32)))))) else (R μ6 (.inl (some (.inl (qz_im μ6 1 0 0 6))))))) (fun μ6 e => (R μ6 (.inr e)))))))))) else (bif decide (a1 < (qz_im μ 2 0 0 0)) then (wz_wr (qz_wI μ (1, 0, 0) 2 (1 : Int32)) (fun μ9 => (R μ9 (.inl (some (.inl (0 : Int32))))))) else (bif decide (((qz_im μ 2 0 0 0) + (48 : Int32)) < a1) then (wz_wr (qz_wI μ (1, 0, 0) 2 (1 : Int32)) (fun μ10 => (R μ10 (.inl (some (.inl (0 : Int32))))))) else (bif decide (a2 < (0 : Int32)) then (wz_wr (qz_wI μ (1, 0, 0) 2 (1 : Int32)) (fun μ11 => (R μ11 (.inl (some (.inl (0 : Int32))))))) else (bif decide ((3 : Int32) < a2) then (wz_wr (qz_wI μ (1, 0, 0) 2 (1 : Int32)) (fun μ12 => (R μ12 (.inl (some (.inl (0 : Int32))))))) else (wz_wr (qz_wI μ (1, 0, 0) 2 (0 : Int32)) (fun μ13 => (wz_cV qf_467 [.inr (.inr (some (1, 0, 0))), .inl a1] μ13 (fun μ14 => (bif (!decide (a2 = 0)) then (bif decide (a2 ≤ (qz_im μ14 1 0 0 5)) then (wz_cI qf_466 [.inr (.inr (some (1, 0, 0))), .inl (qz_im μ14 1 0 0 7), .inl (a2 - (1 : Int32))] μ14 (fun μ15 v16 => (bif (!decide (v16 = 0)) then (R μ15 (.inl (some (.inl (v16 - (1 : Int32)))))) else (R μ15 (.inl (some (.inl (6 : Int32))))))) (fun μ15 e => (R μ15 (.inr e)))) else (R μ14 (.inl (some (.inl (-1 : Int32)))))) else (R μ14 (.inl (some (.inl (qz_im μ14 1 0 0 6))))))) (fun μ14 e => (R μ14 (.inr e)))))))))))) :
    wz_call qf_291 [.inr (.inr (some (1, 0, 0))), .inl a1, .inl a2] μ R := wz_mt9 (L := [some (.inr (.inr (some (1, 0, 0)))), some (.inl a1), some (.inl a2), none, none]) sw_291 rfl h
/- X12 isClock -/
/- X12 cAt -/
/- X12 cLot -/
/- X12 cFirstRow -/
/- X12 cLayRow -/
/- X12 kGrowerOf -/
/- X12 kEnter -/
set_option maxRecDepth 10000 in
set_option maxHeartbeats 200000 in
theorem fw_403 (a1 : Int32) (a2 : Int32) (a3 : Int32) (a4 : Int32) (μ : qz_M) (R : wz_R)
    (h : (bif (!decide (a3 = 0)) then (bif pz_out ((3800 : Int32) + a1) 4400 then False else (bif pz_out ((3800 : Int32) + a1) 4400 then False else (wz_wr (qz_wI μ (2, 0, 0) ((3800 : Int32) + a1).toNatClampNeg ((qz_im μ 2 0 0 ((3800 : Int32) + a1).toNatClampNeg) - a3)) (fun μ1 => (bif pz_out ((3800 : Int32) + a2) 4400 then False else (bif pz_out ((3800 : Int32) + a2) 4400 then False else (wz_wr (qz_wI μ1 (2, 0, 0) ((3800 : Int32) + a2).toNatClampNeg ((qz_im μ1 2 0 0 ((3800 : Int32) + a2).toNatClampNeg) + a3)) (fun μ2 => (bif pz_out ((3950 : Int32) + ((5 : Int32) * ((qz_im μ2 2 0 0 3814) - (qz_im μ2 2 0 0 3814) / (60 : Int32) * (60 : Int32)))) 4400 then False else (wz_wr (qz_wI μ2 (2, 0, 0) ((3950 : Int32) + ((5 : Int32) * ((qz_im μ2 2 0 0 3814) - (qz_im μ2 2 0 0 3814) / (60 : Int32) * (60 : Int32)))).toNatClampNeg a1) (fun μ3 => (bif pz_out (((3950 : Int32) + ((5 : Int32) * ((qz_im μ2 2 0 0 3814) - (qz_im μ2 2 0 0 3814) / (60 : Int32) * (60 : Int32)))) + (1 : Int32)) 4400 then False else (wz_wr (qz_wI μ3 (2, 0, 0) (((3950 : Int32) + ((5 : Int32) * ((qz_im μ2 2 0 0 3814) - (qz_im μ2 2 0 0 3814) / (60 : Int32) * (60 : Int32)))) + (1 : Int32)).toNatClampNeg a2) (fun μ4 => (bif pz_out (((3950 : Int32) + ((5 : Int32) * ((qz_im μ2 2 0 0 3814) - (qz_im μ2 2 0 0 3814) / (60 : Int32) * (60 : Int32)))) + (2 : Int32)) 4400 then False else (wz_wr (qz_wI μ4 (2, 0, 0) (((3950 : Int32) + ((5 : Int32) * ((qz_im μ2 2 0 0 3814) - (qz_im μ2 2 0 0 3814) / (60 : Int32) * (60 : Int32)))) + (2 : Int32)).toNatClampNeg a3) (fun μ5 => (bif pz_out (((3950 : Int32) + ((5 : Int32) * ((qz_im μ2 2 0 0 3814) - (qz_im μ2 2 0 0 3814) / (60 : Int32) * (60 : Int32)))) + (3 : Int32)) 4400 then False else (wz_wr (qz_wI μ5 (2, 0, 0) (((3950 : Int32) + ((5 : Int32) * ((qz_im μ2 2 0 0 3814) - (qz_im μ2 2 0 0 3814) / (60 : Int32) * (60 : Int32)))) + (3 : Int32)).toNatClampNeg a4) (fun μ6 => (bif pz_out (((3950 : Int32) + ((5 : Int32) * ((qz_im μ2 2 0 0 3814) - (qz_im μ2 2 0 0 3814) / (60 : Int32) * (60 : Int32)))) + (4 : Int32)) 4400 then False else (wz_wr (qz_wI μ6 (2, 0, 0) (((3950 : Int32) + ((5 : Int32) * ((qz_im μ2 2 0 0 3814) - (qz_im μ2 2 0 0 3814) / (60 : Int32) * (60 : Int32)))) + (4 : Int32)).toNatClampNeg (qz_im μ6 2 0 0 0)) (fun μ7 => (wz_wr (qz_wI μ7 (2, 0, 0) 3814 ((qz_im μ7 2 0 0 3814) + (1 : Int32))) (fun μ8 => (R μ8 (.inl none))))))))))))))))))))))))))) else (R μ (.inl none)))) :
    wz_call qf_403 [.inr (.inr (some (1, 0, 0))), .inl a1, .inl a2, .inl a3, .inl a4] μ R := wz_mt9 (L := [some (.inr (.inr (some (1, 0, 0)))), some (.inl a1), some (.inl a2), some (.inl a3), some (.inl a4), none]) sw_403 rfl h
/- X12 dCut -/
/- X12 kFee -/
/- X12 gAt -/
/- X12 kSold -/
-- fw_419 is taken out
/- X12 mSold -/
-- fw_433 is taken out
/- X12 cTakeOut -/
/- X12 cSell -/
