/-! what the methods ask, 21 -/
/- X12 mGone -/
-- fw_431 is taken out
/- X12 dump -/
set_option maxRecDepth 10000 in
set_option maxHeartbeats 200000 in
theorem fw_338 (a1 : Int32) (μ : qz_M) (R : wz_R)
    (h : (bif decide (a1 < (0 : Int32)) then (wz_wr (qz_wI μ (1, 0, 0) 2 (1 : Int32)) (fun μ1 => (R μ1 (.inl (some (.inl (0 : Int32))))))) else (bif decide (((qz_im μ 2 0 0 102) - (1 : Int32)) < a1) then (wz_wr (qz_wI μ (1, 0, 0) 2 (1 : Int32)) (fun μ2 => (R μ2 (.inl (some (.inl (0 : Int32))))))) else (wz_wr (qz_wI μ (1, 0, 0) 2 (0 : Int32)) (fun μ3 => (bif pz_out (((200 : Int32) + ((20 : Int32) * a1)) + (10 : Int32)) 4400 then False else (bif decide ((1 : Int32) < (qz_im μ3 2 0 0 (((200 : Int32) + ((20 : Int32) * a1)) + (10 : Int32)).toNatClampNeg)) then (wz_wr (qz_wI μ3 (1, 0, 0) 2 (2 : Int32)) (fun μ4 => (R μ4 (.inl (some (.inl (0 : Int32))))))) else (wz_wr (qz_wI μ3 (1, 0, 0) 2 (0 : Int32)) (fun μ5 => (bif (!decide ((qz_im μ5 1 0 0 35) = 0)) then (bif pz_out (((200 : Int32) + ((20 : Int32) * a1)) + (4 : Int32)) 4400 then False else (wz_cV qf_431 [.inr (.inr (some (1, 0, 0))), .inl a1, .inl (4 : Int32)] μ5 (fun μ6 => (R μ6 (.inl (some (.inl (qz_im μ5 2 0 0 (((200 : Int32) + ((20 : Int32) * a1)) + (4 : Int32)).toNatClampNeg)))))) (fun μ6 e => (R μ6 (.inr e))))) else (wz_cV qf_557 [.inr (.inr (some (1, 0, 0))), .inl (-1 : Int32)] μ5 (fun μ7 => (wz_cV qf_563 [.inr (.inr (some (1, 0, 0))), .inl (10 : Int32), .inl a1, .inl (0 : Int32), .inl (0 : Int32), .inl (0 : Int32), .inl (0 : Int32), .inl (0 : Int32)] μ7 (fun μ8 => (bif pz_out (((200 : Int32) + ((20 : Int32) * a1)) + (4 : Int32)) 4400 then False else (wz_cV qf_431 [.inr (.inr (some (1, 0, 0))), .inl a1, .inl (4 : Int32)] μ8 (fun μ9 => (R μ9 (.inl (some (.inl (qz_im μ8 2 0 0 (((200 : Int32) + ((20 : Int32) * a1)) + (4 : Int32)).toNatClampNeg)))))) (fun μ9 e => (R μ9 (.inr e)))))) (fun μ8 e => (R μ8 (.inr e))))) (fun μ7 e => (R μ7 (.inr e)))))))))))))) :
    wz_call qf_338 [.inr (.inr (some (1, 0, 0))), .inl a1] μ R := wz_mt9 (L := [some (.inr (.inr (some (1, 0, 0)))), some (.inl a1), none]) sw_338 rfl h
/- X12 entry -/
set_option maxRecDepth 10000 in
set_option maxHeartbeats 200000 in
theorem fw_339 (a1 : Int32) (a2 : Int32) (μ : qz_M) (R : wz_R)
    (h : (bif decide ((60 : Int32) ≤ (qz_im μ 2 0 0 3814)) then (bif decide (a1 < (0 : Int32)) then (wz_wr (qz_wI μ (1, 0, 0) 2 (1 : Int32)) (fun μ1 => (R μ1 (.inl (some (.inl (0 : Int32))))))) else (bif decide ((59 : Int32) < a1) then (wz_wr (qz_wI μ (1, 0, 0) 2 (1 : Int32)) (fun μ2 => (R μ2 (.inl (some (.inl (0 : Int32))))))) else (wz_wr (qz_wI μ (1, 0, 0) 2 (0 : Int32)) (fun μ3 => (bif decide (a2 < (0 : Int32)) then (wz_wr (qz_wI μ3 (1, 0, 0) 2 (2 : Int32)) (fun μ4 => (R μ4 (.inl (some (.inl (0 : Int32))))))) else (bif decide ((4 : Int32) < a2) then (wz_wr (qz_wI μ3 (1, 0, 0) 2 (2 : Int32)) (fun μ5 => (R μ5 (.inl (some (.inl (0 : Int32))))))) else (wz_wr (qz_wI μ3 (1, 0, 0) 2 (0 : Int32)) (fun μ6 => (bif pz_out (((3950 : Int32) + ((5 : Int32) * ((((qz_im μ6 2 0 0 3814) - (1 : Int32)) - a1) - (((qz_im μ6 2 0 0 3814) - (1 : Int32)) - a1) / (60 : Int32) * (60 : Int32)))) + a2) 4400 then False else (R μ6 (.inl (some (.inl (qz_im μ6 2 0 0 (((3950 : Int32) + ((5 : Int32) * ((((qz_im μ6 2 0 0 3814) - (1 : Int32)) - a1) - (((qz_im μ6 2 0 0 3814) - (1 : Int32)) - a1) / (60 : Int32) * (60 : Int32)))) + a2).toNatClampNeg)))))))))))))) else (bif decide (a1 < (0 : Int32)) then (wz_wr (qz_wI μ (1, 0, 0) 2 (1 : Int32)) (fun μ7 => (R μ7 (.inl (some (.inl (0 : Int32))))))) else (bif decide (((qz_im μ 2 0 0 3814) - (1 : Int32)) < a1) then (wz_wr (qz_wI μ (1, 0, 0) 2 (1 : Int32)) (fun μ8 => (R μ8 (.inl (some (.inl (0 : Int32))))))) else (wz_wr (qz_wI μ (1, 0, 0) 2 (0 : Int32)) (fun μ9 => (bif decide (a2 < (0 : Int32)) then (wz_wr (qz_wI μ9 (1, 0, 0) 2 (2 : Int32)) (fun μ10 => (R μ10 (.inl (some (.inl (0 : Int32))))))) else (bif decide ((4 : Int32) < a2) then (wz_wr (qz_wI μ9 (1, 0, 0) 2 (2 : Int32)) (fun μ11 => (R μ11 (.inl (some (.inl (0 : Int32))))))) else (wz_wr (qz_wI μ9 (1, 0, 0) 2 (0 : Int32)) (fun μ12 => (bif pz_out (((3950 : Int32) + ((5 : Int32) * ((((qz_im μ12 2 0 0 3814) - (1 : Int32)) - a1) - (((qz_im μ12 2 0 0 3814) - (1 : Int32)) - a1) / (60 : Int32) * (60 : Int32)))) + a2) 4400 then False else (R μ12 (.inl (some (.inl (qz_im μ12 2 0 0 (((3950 : Int32) + ((5 : Int32) * ((((qz_im μ12 2 0 0 3814) - (1 : Int32)) - a1) - (((qz_im μ12 2 0 0 3814) - (1 : Int32)) - a1) / (60 : Int32) * (60 : Int32)))) + a2).toNatClampNeg)))))))))))))))) :
    wz_call qf_339 [.inr (.inr (some (1, 0, 0))), .inl a1, .inl a2] μ R := wz_mt9 (L := [some (.inr (.inr (some (1, 0, 0)))), some (.inl a1), some (.inl a2), none]) sw_339 rfl h
/- X12 tTownOf -/
/- X12 tLayParts -/
set_option maxRecDepth 10000 in
set_option maxHeartbeats 200000 in
theorem fw_517 (a1 : Int32) (μ : qz_M) (R : wz_R)
    (h : (wz_wr (qz_wI μ (1, 0, 0) 28 (0 : Int32)) (fun μ1 => (wz_loop qb_517_1 65536 (wz_sk gc_517_2 wz_k0 R) R ([some (.inr (.inr (some (1, 0, 0)))), some (.inl a1), some (.inl (0 : Int32))], [], μ1))))) :
    wz_call qf_517 [.inr (.inr (some (1, 0, 0))), .inl a1] μ R := wz_mt9 (L := [some (.inr (.inr (some (1, 0, 0)))), some (.inl a1), none]) sw_517 rfl h
set_option maxRecDepth 10000 in
set_option maxHeartbeats 200000 in
theorem fc_517_2  (μ : qz_M) (k : wz_K) (R : wz_R) (L : qz_L) (hL : qz_fg [false, false, false] L = [none, none, none])
    (h : (R μ (.inl none))) :
    gc_517_2 k R (L, [], μ) := wz_fgd hL h
set_option maxRecDepth 10000 in
set_option maxHeartbeats 200000 in
theorem fb_517_1 (x1 : Int32) (x2 : Int32) (μ : qz_M) (k : wz_K) (R : wz_R) (L : qz_L) (hL : qz_fg [true, true, true] L = [some (.inr (.inr (some (1, 0, 0)))), some (.inl x1), some (.inl x2)])
    (h : (bif decide ((qz_im μ 2 0 0 2000) ≤ x2) then (k 0 ([some (.inr (.inr (some (1, 0, 0)))), some (.inl x1), some (.inl x2)], [], μ)) else (bif pz_out (((2010 : Int32) + ((16 : Int32) * x2)) + (9 : Int32)) 4400 then False else (bif (!decide ((qz_im μ 2 0 0 (((2010 : Int32) + ((16 : Int32) * x2)) + (9 : Int32)).toNatClampNeg) = 0)) then (k 1 ([some (.inr (.inr (some (1, 0, 0)))), some (.inl x1), some (.inl (x2 + (1 : Int32)))], [], μ)) else (bif decide (x1 = (5 : Int32)) then (bif pz_out (((2010 : Int32) + ((16 : Int32) * x2)) + (3 : Int32)) 4400 then False else (bif pz_out (qz_im μ 1 0 0 28) 60 then False else (wz_wr (qz_wI μ (98, 0, 0) (qz_im μ 1 0 0 28).toNatClampNeg (qz_im μ 2 0 0 (((2010 : Int32) + ((16 : Int32) * x2)) + (3 : Int32)).toNatClampNeg)) (fun μ1 => (wz_wr (qz_wI μ1 (1, 0, 0) 28 ((qz_im μ1 1 0 0 28) + (1 : Int32))) (fun μ2 => (k 1 ([some (.inr (.inr (some (1, 0, 0)))), some (.inl x1), some (.inl (x2 + (1 : Int32)))], [], μ2)))))))) else (bif pz_out (((2010 : Int32) + ((16 : Int32) * x2)) + (1 : Int32)) 4400 then False else (bif pz_out (((1410 : Int32) + ((12 : Int32) * (qz_im μ 2 0 0 (((2010 : Int32) + ((16 : Int32) * x2)) + (1 : Int32)).toNatClampNeg))) + (0 : Int32)) 4400 then False else (bif (!decide ((qz_im μ 2 0 0 (((1410 : Int32) + ((12 : Int32) * (qz_im μ 2 0 0 (((2010 : Int32) + ((16 : Int32) * x2)) + (1 : Int32)).toNatClampNeg))) + (0 : Int32)).toNatClampNeg) = x1)) then (k 1 ([some (.inr (.inr (some (1, 0, 0)))), some (.inl x1), some (.inl (x2 + (1 : Int32)))], [], μ)) else (bif pz_out (((2010 : Int32) + ((16 : Int32) * x2)) + (3 : Int32)) 4400 then False else (bif pz_out (qz_im μ 1 0 0 28) 60 then False else (wz_wr (qz_wI μ (98, 0, 0) (qz_im μ 1 0 0 28).toNatClampNeg (qz_im μ 2 0 0 (((2010 : Int32) + ((16 : Int32) * x2)) + (3 : Int32)).toNatClampNeg)) (fun μ3 => (wz_wr (qz_wI μ3 (1, 0, 0) 28 ((qz_im μ3 1 0 0 28) + (1 : Int32))) (fun μ4 => (k 1 ([some (.inr (.inr (some (1, 0, 0)))), some (.inl x1), some (.inl (x2 + (1 : Int32)))], [], μ4)))))))))))))))) :
    gb_517_1 k R (L, [], μ) := wz_fgd hL h
/- X12 tWith -/
/- X12 tFewest -/
set_option maxRecDepth 10000 in
set_option maxHeartbeats 200000 in
theorem fw_510 (a1 : Int32) (μ : qz_M) (R : wz_R)
    (h : (wz_wr (qz_wI μ (99, 0, 0) 0 (0 : Int32)) (fun μ1 => (wz_loop qb_510_3 65536 (wz_sk gc_510_4 wz_k0 R) R ([some (.inr (.inr (some (1, 0, 0)))), some (.inl a1), some (.inl (1 : Int32)), none, none, none], [], μ1))))) :
    wz_call qf_510 [.inr (.inr (some (1, 0, 0))), .inl a1] μ R := wz_mt9 (L := [some (.inr (.inr (some (1, 0, 0)))), some (.inl a1), none, none, none, none]) sw_510 rfl h
set_option maxRecDepth 10000 in
set_option maxHeartbeats 200000 in
theorem fc_510_4  (μ : qz_M) (k : wz_K) (R : wz_R) (L : qz_L) (hL : qz_fg [true, false, false, false, false, false] L = [some (.inr (.inr (some (1, 0, 0)))), none, none, none, none, none])
    (h : (bif pz_out (((1 : Int32) <<< ((qz_im μ 1 0 0 28) &&& 31)) - (1 : Int32)) 1024 then False else (R μ (.inl (some (.inl ((qz_im μ 99 0 0 (((1 : Int32) <<< ((qz_im μ 1 0 0 28) &&& 31)) - (1 : Int32)).toNatClampNeg) / (128 : Int32)))))))) :
    gc_510_4 k R (L, [], μ) := wz_fgd hL h
set_option maxRecDepth 10000 in
set_option maxHeartbeats 200000 in
theorem fb_510_3 (x1 : Int32) (x2 : Int32) (μ : qz_M) (k : wz_K) (R : wz_R) (L : qz_L) (hL : qz_fg [true, true, true, false, false, false] L = [some (.inr (.inr (some (1, 0, 0)))), some (.inl x1), some (.inl x2), none, none, none])
    (h : (bif decide (((1 : Int32) <<< ((qz_im μ 1 0 0 28) &&& 31)) ≤ x2) then (k 0 ([some (.inr (.inr (some (1, 0, 0)))), some (.inl x1), some (.inl x2), none, none, none], [], μ)) else (wz_loop qb_510_1 65536 (wz_sk gc_510_2 (wz_kb k) R) R ([some (.inr (.inr (some (1, 0, 0)))), some (.inl x1), some (.inl x2), some (.inl (-1 : Int32)), some (.inl (0 : Int32)), none], [], μ)))) :
    gb_510_3 k R (L, [], μ) := wz_fgd hL h
/- X12 fewest -/
set_option maxRecDepth 10000 in
set_option maxHeartbeats 200000 in
theorem fw_341 (a1 : Int32) (a2 : Int32) (μ : qz_M) (R : wz_R)
    (h : (bif decide (a2 < (0 : Int32)) then (wz_wr (qz_wI μ (1, 0, 0) 2 (1 : Int32)) (fun μ1 => (R μ1 (.inl (some (.inl (0 : Int32))))))) else (bif decide ((5 : Int32) < a2) then (wz_wr (qz_wI μ (1, 0, 0) 2 (1 : Int32)) (fun μ2 => (R μ2 (.inl (some (.inl (0 : Int32))))))) else (wz_wr (qz_wI μ (1, 0, 0) 2 (0 : Int32)) (fun μ3 => (bif decide (a1 < (10 : Int32)) then (wz_wr (qz_wI μ3 (1, 0, 0) 2 (2 : Int32)) (fun μ4 => (R μ4 (.inl (some (.inl (0 : Int32))))))) else (bif decide ((99 : Int32) < a1) then (wz_wr (qz_wI μ3 (1, 0, 0) 2 (2 : Int32)) (fun μ5 => (R μ5 (.inl (some (.inl (0 : Int32))))))) else (wz_wr (qz_wI μ3 (1, 0, 0) 2 (0 : Int32)) (fun μ6 => (wz_cV qf_517 [.inr (.inr (some (1, 0, 0))), .inl a2] μ6 (fun μ7 => (wz_cI qf_258 [.inr (.inr (some (1, 0, 0))), .inl a1] μ7 (fun μ8 v9 => (bif decide (v9 = 0) then (wz_wr (qz_wI μ8 (1, 0, 0) 2 (3 : Int32)) (fun μ10 => (bif (!decide (v9 = 0)) then (wz_cI qf_510 [.inr (.inr (some (1, 0, 0))), .inl a1] μ10 (fun μ11 v12 => (R μ11 (.inl (some (.inl v12))))) (fun μ11 e => (R μ11 (.inr e)))) else (R μ10 (.inl (some (.inl (0 : Int32)))))))) else (wz_wr (qz_wI μ8 (1, 0, 0) 2 (0 : Int32)) (fun μ13 => (bif (!decide (v9 = 0)) then (wz_cI qf_510 [.inr (.inr (some (1, 0, 0))), .inl a1] μ13 (fun μ14 v15 => (R μ14 (.inl (some (.inl v15))))) (fun μ14 e => (R μ14 (.inr e)))) else (R μ13 (.inl (some (.inl (0 : Int32)))))))))) (fun μ8 e => (R μ8 (.inr e))))) (fun μ7 e => (R μ7 (.inr e))))))))))))) :
    wz_call qf_341 [.inr (.inr (some (1, 0, 0))), .inl a1, .inl a2] μ R := wz_mt9 (L := [some (.inr (.inr (some (1, 0, 0)))), some (.inl a1), some (.inl a2)]) sw_341 rfl h
/- X12 found -/
set_option maxRecDepth 10000 in
set_option maxHeartbeats 200000 in
theorem fw_342 (a1 : Int32) (a2 : Int32) (μ : qz_M) (R : wz_R)
    (h : (bif decide (a1 < (0 : Int32)) then (wz_wr (qz_wI μ (1, 0, 0) 2 (1 : Int32)) (fun μ1 => (R μ1 (.inl (some (.inl (0 : Int32))))))) else (bif decide (((qz_im μ 2 0 0 3501) - (1 : Int32)) < a1) then (wz_wr (qz_wI μ (1, 0, 0) 2 (1 : Int32)) (fun μ2 => (R μ2 (.inl (some (.inl (0 : Int32))))))) else (wz_wr (qz_wI μ (1, 0, 0) 2 (0 : Int32)) (fun μ3 => (bif decide (a2 < (0 : Int32)) then (wz_wr (qz_wI μ3 (1, 0, 0) 2 (2 : Int32)) (fun μ4 => (R μ4 (.inl (some (.inl (0 : Int32))))))) else (bif decide ((5 : Int32) < a2) then (wz_wr (qz_wI μ3 (1, 0, 0) 2 (2 : Int32)) (fun μ5 => (R μ5 (.inl (some (.inl (0 : Int32))))))) else (wz_wr (qz_wI μ3 (1, 0, 0) 2 (0 : Int32)) (fun μ6 => (bif pz_out (((3560 : Int32) + ((6 : Int32) * (((qz_im μ6 2 0 0 3501) - (1 : Int32)) - a1))) + a2) 4400 then False else (R μ6 (.inl (some (.inl (qz_im μ6 2 0 0 (((3560 : Int32) + ((6 : Int32) * (((qz_im μ6 2 0 0 3501) - (1 : Int32)) - a1))) + a2).toNatClampNeg))))))))))))))) :
    wz_call qf_342 [.inr (.inr (some (1, 0, 0))), .inl a1, .inl a2] μ R := wz_mt9 (L := [some (.inr (.inr (some (1, 0, 0)))), some (.inl a1), some (.inl a2)]) sw_342 rfl h
/- X12 isRoom -/
/- X12 gas -/
-- fw_344 is taken out
/- X12 seed -/
/- X12 kSample -/
/- X12 grade -/
-- fw_345 is taken out