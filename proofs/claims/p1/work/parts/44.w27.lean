/-! what the methods ask, 28 -/
/- X12 sign -/
set_option maxRecDepth 10000 in
set_option maxHeartbeats 200000 in
theorem fw_502 (a1 : Int32) (μ : qz_M) (R : wz_R)
    (h : (bif decide (a1 < (32 : Int32)) then (wz_wr (qz_wI μ (1, 0, 0) 2 (1 : Int32)) (fun μ1 => (R μ1 (.inl (some (.inl (0 : Int32))))))) else (bif decide ((126 : Int32) < a1) then (wz_wr (qz_wI μ (1, 0, 0) 2 (1 : Int32)) (fun μ2 => (R μ2 (.inl (some (.inl (0 : Int32))))))) else (wz_wr (qz_wI μ (1, 0, 0) 2 (0 : Int32)) (fun μ3 => (bif decide ((120 : Int32) ≤ (qz_im μ3 1 0 0 49)) then (wz_wr (qz_wI μ3 (1, 0, 0) 2 (2 : Int32)) (fun μ4 => (R μ4 (.inl (some (.inl (0 : Int32))))))) else (wz_wr (qz_wI μ3 (1, 0, 0) 2 (0 : Int32)) (fun μ5 => (bif pz_out (qz_im μ5 1 0 0 49) 120 then False else (wz_wr (qz_wI μ5 (112, 0, 0) (qz_im μ5 1 0 0 49).toNatClampNeg a1) (fun μ6 => (wz_wr (qz_wI μ6 (1, 0, 0) 49 ((qz_im μ6 1 0 0 49) + (1 : Int32))) (fun μ7 => (R μ7 (.inl (some (.inl (qz_im μ7 1 0 0 49)))))))))))))))))) :
    wz_call qf_502 [.inr (.inr (some (1, 0, 0))), .inl a1] μ R := wz_mt9 (L := [some (.inr (.inr (some (1, 0, 0)))), some (.inl a1)]) sw_502 rfl h
/- X12 xPallets -/
set_option maxRecDepth 10000 in
set_option maxHeartbeats 200000 in
theorem fw_561 (a1 : Int32) (μ : qz_M) (R : wz_R)
    (h : (wz_loop qb_561_1 65536 (wz_sk gc_561_2 wz_k0 R) R ([some (.inr (.inr (some (1, 0, 0)))), some (.inl a1), some (.inl (0 : Int32)), some (.inl (0 : Int32))], [], μ))) :
    wz_call qf_561 [.inr (.inr (some (1, 0, 0))), .inl a1] μ R := wz_mt9 (L := [some (.inr (.inr (some (1, 0, 0)))), some (.inl a1), none, none]) sw_561 rfl h
set_option maxRecDepth 10000 in
set_option maxHeartbeats 200000 in
theorem fc_561_2 (x2 : Int32) (μ : qz_M) (k : wz_K) (R : wz_R) (L : qz_L) (hL : qz_fg [false, false, true, false] L = [none, none, some (.inl x2), none])
    (h : (R μ (.inl (some (.inl x2))))) :
    gc_561_2 k R (L, [], μ) := wz_fgd hL h
set_option maxRecDepth 10000 in
set_option maxHeartbeats 200000 in
theorem fb_561_1 (x1 : Int32) (x2 : Int32) (x3 : Int32) (μ : qz_M) (k : wz_K) (R : wz_R) (L : qz_L) (hL : qz_fg [true, true, true, true] L = [some (.inr (.inr (some (1, 0, 0)))), some (.inl x1), some (.inl x2), some (.inl x3)])
    (h : (bif decide ((qz_im μ 2 0 0 102) ≤ x3) then (k 0 ([some (.inr (.inr (some (1, 0, 0)))), some (.inl x1), some (.inl x2), some (.inl x3)], [], μ)) else (bif pz_out (((200 : Int32) + ((20 : Int32) * x3)) + (10 : Int32)) 4400 then False else (bif (!decide ((qz_im μ 2 0 0 (((200 : Int32) + ((20 : Int32) * x3)) + (10 : Int32)).toNatClampNeg) = x1)) then (k 1 ([some (.inr (.inr (some (1, 0, 0)))), some (.inl x1), some (.inl (x2 + (0 : Int32))), some (.inl (x3 + (1 : Int32)))], [], μ)) else (k 1 ([some (.inr (.inr (some (1, 0, 0)))), some (.inl x1), some (.inl (x2 + (1 : Int32))), some (.inl (x3 + (1 : Int32)))], [], μ)))))) :
    gb_561_1 k R (L, [], μ) := wz_fgd hL h
/- X12 xParcels -/
set_option maxRecDepth 10000 in
set_option maxHeartbeats 200000 in
theorem fw_562 (a1 : Int32) (μ : qz_M) (R : wz_R)
    (h : (wz_loop qb_562_1 65536 (wz_sk gc_562_2 wz_k0 R) R ([some (.inr (.inr (some (1, 0, 0)))), some (.inl a1), some (.inl (0 : Int32)), some (.inl (0 : Int32))], [], μ))) :
    wz_call qf_562 [.inr (.inr (some (1, 0, 0))), .inl a1] μ R := wz_mt9 (L := [some (.inr (.inr (some (1, 0, 0)))), some (.inl a1), none, none]) sw_562 rfl h
set_option maxRecDepth 10000 in
set_option maxHeartbeats 200000 in
theorem fc_562_2 (x2 : Int32) (μ : qz_M) (k : wz_K) (R : wz_R) (L : qz_L) (hL : qz_fg [false, false, true, false] L = [none, none, some (.inl x2), none])
    (h : (R μ (.inl (some (.inl x2))))) :
    gc_562_2 k R (L, [], μ) := wz_fgd hL h
set_option maxRecDepth 10000 in
set_option maxHeartbeats 200000 in
theorem fb_562_1 (x1 : Int32) (x2 : Int32) (x3 : Int32) (μ : qz_M) (k : wz_K) (R : wz_R) (L : qz_L) (hL : qz_fg [true, true, true, true] L = [some (.inr (.inr (some (1, 0, 0)))), some (.inl x1), some (.inl x2), some (.inl x3)])
    (h : (bif decide ((qz_im μ 2 0 0 2000) ≤ x3) then (k 0 ([some (.inr (.inr (some (1, 0, 0)))), some (.inl x1), some (.inl x2), some (.inl x3)], [], μ)) else (bif pz_out (((2010 : Int32) + ((16 : Int32) * x3)) + (9 : Int32)) 4400 then False else (bif (!decide ((qz_im μ 2 0 0 (((2010 : Int32) + ((16 : Int32) * x3)) + (9 : Int32)).toNatClampNeg) = x1)) then (k 1 ([some (.inr (.inr (some (1, 0, 0)))), some (.inl x1), some (.inl (x2 + (0 : Int32))), some (.inl (x3 + (1 : Int32)))], [], μ)) else (k 1 ([some (.inr (.inr (some (1, 0, 0)))), some (.inl x1), some (.inl (x2 + (1 : Int32))), some (.inl (x3 + (1 : Int32)))], [], μ)))))) :
    gb_562_1 k R (L, [], μ) := wz_fgd hL h
/- X12 tTrucks -/
/- X12 sum -/
set_option maxRecDepth 10000 in
set_option maxHeartbeats 200000 in
theorem fw_504 (a1 : Int32) (μ : qz_M) (R : wz_R)
    (h : (bif decide (a1 < (0 : Int32)) then (wz_wr (qz_wI μ (1, 0, 0) 2 (1 : Int32)) (fun μ1 => (R μ1 (.inl (some (.inl (0 : Int32))))))) else (bif decide ((23 : Int32) < a1) then (wz_wr (qz_wI μ (1, 0, 0) 2 (1 : Int32)) (fun μ2 => (R μ2 (.inl (some (.inl (0 : Int32))))))) else (wz_wr (qz_wI μ (1, 0, 0) 2 (0 : Int32)) (fun μ3 => (bif decide (a1 < (5 : Int32)) then (bif decide (a1 < (13 : Int32)) then (bif decide (a1.toInt < (0 : Int)) || decide ((22 : Int) < a1.toInt) then (R μ3 (.inl (some (.inl (qz_im μ3 1 0 0 49))))) else (bif decide (a1.toInt = (0 : Int)) then (R μ3 (.inl (some (.inl (qz_im μ3 2 0 0 0))))) else (bif decide (a1.toInt = (1 : Int)) then (R μ3 (.inl (some (.inl (qz_im μ3 2 0 0 100))))) else (bif decide (a1.toInt = (2 : Int)) then (R μ3 (.inl (some (.inl (qz_im μ3 2 0 0 101))))) else (bif decide (a1.toInt = (3 : Int)) then (R μ3 (.inl (some (.inl (qz_im μ3 2 0 0 1200))))) else (bif decide (a1.toInt = (4 : Int)) then (R μ3 (.inl (some (.inl (qz_im μ3 2 0 0 102))))) else (bif decide (a1.toInt = (5 : Int)) then (R μ3 (.inl (some (.inl (qz_im μ3 1 0 0 49))))) else (bif decide (a1.toInt = (6 : Int)) then (R μ3 (.inl (some (.inl (qz_im μ3 1 0 0 49))))) else (bif decide (a1.toInt = (7 : Int)) then (R μ3 (.inl (some (.inl (qz_im μ3 1 0 0 49))))) else (bif decide (a1.toInt = (8 : Int)) then (R μ3 (.inl (some (.inl (qz_im μ3 1 0 0 49))))) else (bif decide (a1.toInt = (9 : Int)) then (R μ3 (.inl (some (.inl (qz_im μ3 1 0 0 49))))) else (bif decide (a1.toInt = (10 : Int)) then (R μ3 (.inl (some (.inl (qz_im μ3 2 0 0 1400))))) else (bif decide (a1.toInt = (11 : Int)) then (R μ3 (.inl (some (.inl (qz_im μ3 2 0 0 1401))))) else (bif decide (a1.toInt = (12 : Int)) then (R μ3 (.inl (some (.inl (qz_im μ3 2 0 0 2000))))) else (bif decide (a1.toInt = (13 : Int)) then (R μ3 (.inl (some (.inl (qz_im μ3 1 0 0 49))))) else (bif decide (a1.toInt = (14 : Int)) then (R μ3 (.inl (some (.inl (qz_im μ3 1 0 0 49))))) else (bif decide (a1.toInt = (15 : Int)) then (R μ3 (.inl (some (.inl (qz_im μ3 1 0 0 49))))) else (bif decide (a1.toInt = (16 : Int)) then (R μ3 (.inl (some (.inl (qz_im μ3 1 0 0 49))))) else (bif decide (a1.toInt = (17 : Int)) then (R μ3 (.inl (some (.inl (qz_im μ3 2 0 0 3000))))) else (bif decide (a1.toInt = (18 : Int)) then (R μ3 (.inl (some (.inl (qz_im μ3 2 0 0 3200))))) else (bif decide (a1.toInt = (19 : Int)) then (R μ3 (.inl (some (.inl (qz_im μ3 2 0 0 3500))))) else (bif decide (a1.toInt = (20 : Int)) then (R μ3 (.inl (some (.inl (qz_im μ3 2 0 0 3815))))) else (bif decide (a1.toInt = (21 : Int)) then (R μ3 (.inl (some (.inl (qz_im μ3 1 0 0 37))))) else (bif decide (a1.toInt = (22 : Int)) then (R μ3 (.inl (some (.inl (qz_im μ3 1 0 0 34))))) else (R μ3 (.inl (some (.inl (qz_im μ3 1 0 0 49))))))))))))))))))))))))))))) else (bif decide ((16 : Int32) < a1) then (bif decide (a1.toInt < (0 : Int)) || decide ((22 : Int) < a1.toInt) then (R μ3 (.inl (some (.inl (qz_im μ3 1 0 0 49))))) else (bif decide (a1.toInt = (0 : Int)) then (R μ3 (.inl (some (.inl (qz_im μ3 2 0 0 0))))) else (bif decide (a1.toInt = (1 : Int)) then (R μ3 (.inl (some (.inl (qz_im μ3 2 0 0 100))))) else (bif decide (a1.toInt = (2 : Int)) then (R μ3 (.inl (some (.inl (qz_im μ3 2 0 0 101))))) else (bif decide (a1.toInt = (3 : Int)) then (R μ3 (.inl (some (.inl (qz_im μ3 2 0 0 1200))))) else (bif decide (a1.toInt = (4 : Int)) then (R μ3 (.inl (some (.inl (qz_im μ3 2 0 0 102))))) else (bif decide (a1.toInt = (5 : Int)) then (R μ3 (.inl (some (.inl (qz_im μ3 1 0 0 49))))) else (bif decide (a1.toInt = (6 : Int)) then (R μ3 (.inl (some (.inl (qz_im μ3 1 0 0 49))))) else (bif decide (a1.toInt = (7 : Int)) then (R μ3 (.inl (some (.inl (qz_im μ3 1 0 0 49))))) else (bif decide (a1.toInt = (8 : Int)) then (R μ3 (.inl (some (.inl (qz_im μ3 1 0 0 49))))) else (bif decide (a1.toInt = (9 : Int)) then (R μ3 (.inl (some (.inl (qz_im μ3 1 0 0 49))))) else (bif decide (a1.toInt = (10 : Int)) then (R μ3 (.inl (some (.inl (qz_im μ3 2 0 0 1400))))) else (bif decide (a1.toInt = (11 : Int)) then (R μ3 (.inl (some (.inl (qz_im μ3 2 0 0 1401))))) else (bif decide (a1.toInt = (12 : Int)) then (R μ3 (.inl (some (.inl (qz_im μ3 2 0 0 2000))))) else (bif decide (a1.toInt = (13 : Int)) then (R μ3 (.inl (some (.inl (qz_im μ3 1 0 0 49))))) else (bif decide (a1.toInt = (14 : Int)) then (R μ3 (.inl (some (.inl (qz_im μ3 1 0 0 49))))) else (bif decide (a1.toInt = (15 : Int)) then (R μ3 (.inl (some (.inl (qz_im μ3 1 0 0 49))))) else (bif decide (a1.toInt = (16 : Int)) then (R μ3 (.inl (some (.inl (qz_im μ3 1 0 0 49))))) else (bif decide (a1.toInt = (17 : Int)) then (R μ3 (.inl (some (.inl (qz_im μ3 2 0 0 3000))))) else (bif decide (a1.toInt = (18 : Int)) then (R μ3 (.inl (some (.inl (qz_im μ3 2 0 0 3200))))) else (bif decide (a1.toInt = (19 : Int)) then (R μ3 (.inl (some (.inl (qz_im μ3 2 0 0 3500))))) else (bif decide (a1.toInt = (20 : Int)) then (R μ3 (.inl (some (.inl (qz_im μ3 2 0 0 3815))))) else (bif decide (a1.toInt = (21 : Int)) then (R μ3 (.inl (some (.inl (qz_im μ3 1 0 0 37))))) else (bif decide (a1.toInt = (22 : Int)) then (R μ3 (.inl (some (.inl (qz_im μ3 1 0 0 34))))) else (R μ3 (.inl (some (.inl (qz_im μ3 1 0 0 49))))))))))))))))))))))))))))) else (wz_cI qf_562 [.inr (.inr (some (1, 0, 0))), .inl (a1 - (13 : Int32))] μ3 (fun μ4 v5 => (R μ4 (.inl (some (.inl v5))))) (fun μ4 e => (R μ4 (.inr e)))))) else (bif decide ((9 : Int32) < a1) then (bif decide (a1 < (13 : Int32)) then (bif decide (a1.toInt < (0 : Int)) || decide ((22 : Int) < a1.toInt) then (R μ3 (.inl (some (.inl (qz_im μ3 1 0 0 49))))) else (bif decide (a1.toInt = (0 : Int)) then (R μ3 (.inl (some (.inl (qz_im μ3 2 0 0 0))))) else (bif decide (a1.toInt = (1 : Int)) then (R μ3 (.inl (some (.inl (qz_im μ3 2 0 0 100))))) else (bif decide (a1.toInt = (2 : Int)) then (R μ3 (.inl (some (.inl (qz_im μ3 2 0 0 101))))) else (bif decide (a1.toInt = (3 : Int)) then (R μ3 (.inl (some (.inl (qz_im μ3 2 0 0 1200))))) else (bif decide (a1.toInt = (4 : Int)) then (R μ3 (.inl (some (.inl (qz_im μ3 2 0 0 102))))) else (bif decide (a1.toInt = (5 : Int)) then (R μ3 (.inl (some (.inl (qz_im μ3 1 0 0 49))))) else (bif decide (a1.toInt = (6 : Int)) then (R μ3 (.inl (some (.inl (qz_im μ3 1 0 0 49))))) else (bif decide (a1.toInt = (7 : Int)) then (R μ3 (.inl (some (.inl (qz_im μ3 1 0 0 49))))) else (bif decide (a1.toInt = (8 : Int)) then (R μ3 (.inl (some (.inl (qz_im μ3 1 0 0 49))))) else (bif decide (a1.toInt = (9 : Int)) then (R μ3 (.inl (some (.inl (qz_im μ3 1 0 0 49))))) else (bif decide (a1.toInt = (10 : Int)) then (R μ3 (.inl (some (.inl (qz_im μ3 2 0 0 1400))))) else (bif decide (a1.toInt = (11 : Int)) then (R μ3 (.inl (some (.inl (qz_im μ3 2 0 0 1401))))) else (bif decide (a1.toInt = (12 : Int)) then (R μ3 (.inl (some (.inl (qz_im μ3 2 0 0 2000))))) else (bif decide (a1.toInt = (13 : Int)) then (R μ3 (.inl (some (.inl (qz_im μ3 1 0 0 49))))) else (bif decide (a1.toInt = (14 : Int)) then (R μ3 (.inl (some (.inl (qz_im μ3 1 0 0 49))))) else (bif decide (a1.toInt = (15 : Int)) then (R μ3 (.inl (some (.inl (qz_im μ3 1 0 0 49))))) else (bif decide (a1.toInt = (16 : Int)) then (R μ3 (.inl (some (.inl (qz_im μ3 1 0 0 49))))) else (bif decide (a1.toInt = (17 : Int)) then (R μ3 (.inl (some (.inl (qz_im μ3 2 0 0 3000))))) else (bif decide (a1.toInt = (18 : Int)) then (R μ3 (.inl (some (.inl (qz_im μ3 2 0 0 3200))))) else (bif decide (a1.toInt = (19 : Int)) then (R μ3 (.inl (some (.inl (qz_im μ3 2 0 0 3500))))) else (bif decide (a1.toInt = (20 : Int)) then (R μ3 (.inl (some (.inl (qz_im μ3 2 0 0 3815))))) else (bif decide (a1.toInt = (21 : Int)) then (R μ3 (.inl (some (.inl (qz_im μ3 1 0 0 37))))) else (bif decide (a1.toInt = (22 : Int)) then (R μ3 (.inl (some (.inl (qz_im μ3 1 0 0 34))))) else (R μ3 (.inl (some (.inl (qz_im μ3 1 0 0 49))))))))))))))))))))))))))))) else (bif decide ((16 : Int32) < a1) then (bif decide (a1.toInt < (0 : Int)) || decide ((22 : Int) < a1.toInt) then (R μ3 (.inl (some (.inl (qz_im μ3 1 0 0 49))))) else (bif decide (a1.toInt = (0 : Int)) then (R μ3 (.inl (some (.inl (qz_im μ3 2 0 0 0))))) else (bif decide (a1.toInt = (1 : Int)) then (R μ3 (.inl (some (.inl (qz_im μ3 2 0 0 100))))) else (bif decide (a1.toInt = (2 : Int)) then (R μ3 (.inl (some (.inl (qz_im μ3 2 0 0 101))))) else (bif decide (a1.toInt = (3 : Int)) then (R μ3 (.inl (some (.inl (qz_im μ3 2 0 0 1200))))) else (bif decide (a1.toInt = (4 : Int)) then (R μ3 (.inl (some (.inl (qz_im μ3 2 0 0 102))))) else (bif decide (a1.toInt = (5 : Int)) then (R μ3 (.inl (some (.inl (qz_im μ3 1 0 0 49))))) else (bif decide (a1.toInt = (6 : Int)) then (R μ3 (.inl (some (.inl (qz_im μ3 1 0 0 49))))) else (bif decide (a1.toInt = (7 : Int)) then (R μ3 (.inl (some (.inl (qz_im μ3 1 0 0 49))))) else (bif decide (a1.toInt = (8 : Int)) then (R μ3 (.inl (some (.inl (qz_im μ3 1 0 0 49))))) else (bif decide (a1.toInt = (9 : Int)) then (R μ3 (.inl (some (.inl (qz_im μ3 1 0 0 49))))) else (bif decide (a1.toInt = (10 : Int)) then (R μ3 (.inl (some (.inl (qz_im μ3 2 0 0 1400))))) else (bif decide (a1.toInt = (11 : Int)) then (R μ3 (.inl (some (.inl (qz_im μ3 2 0 0 1401))))) else (bif decide (a1.toInt = (12 : Int)) then (R μ3 (.inl (some (.inl (qz_im μ3 2 0 0 2000))))) else (bif decide (a1.toInt = (13 : Int)) then (R μ3 (.inl (some (.inl (qz_im μ3 1 0 0 49))))) else (bif decide (a1.toInt = (14 : Int)) then (R μ3 (.inl (some (.inl (qz_im μ3 1 0 0 49))))) else (bif decide (a1.toInt = (15 : Int)) then (R μ3 (.inl (some (.inl (qz_im μ3 1 0 0 49))))) else (bif decide (a1.toInt = (16 : Int)) then (R μ3 (.inl (some (.inl (qz_im μ3 1 0 0 49))))) else (bif decide (a1.toInt = (17 : Int)) then (R μ3 (.inl (some (.inl (qz_im μ3 2 0 0 3000))))) else (bif decide (a1.toInt = (18 : Int)) then (R μ3 (.inl (some (.inl (qz_im μ3 2 0 0 3200))))) else (bif decide (a1.toInt = (19 : Int)) then (R μ3 (.inl (some (.inl (qz_im μ3 2 0 0 3500))))) else (bif decide (a1.toInt = (20 : Int)) then (R μ3 (.inl (some (.inl (qz_im μ3 2 0 0 3815))))) else (bif decide (a1.toInt = (21 : Int)) then (R μ3 (.inl (some (.inl (qz_im μ3 1 0 0 37))))) else (bif decide (a1.toInt = (22 : Int)) then (R μ3 (.inl (some (.inl (qz_im μ3 1 0 0 34))))) else (R μ3 (.inl (some (.inl (qz_im μ3 1 0 0 49))))))))))))))))))))))))))))) else (wz_cI qf_562 [.inr (.inr (some (1, 0, 0))), .inl (a1 - (13 : Int32))] μ3 (fun μ6 v7 => (R μ6 (.inl (some (.inl v7))))) (fun μ6 e => (R μ6 (.inr e)))))) else (wz_cI qf_561 [.inr (.inr (some (1, 0, 0))), .inl (a1 - (5 : Int32))] μ3 (fun μ8 v9 => (R μ8 (.inl (some (.inl v9))))) (fun μ8 e => (R μ8 (.inr e))))))))))) :
    wz_call qf_504 [.inr (.inr (some (1, 0, 0))), .inl a1] μ R := wz_mt9 (L := [some (.inr (.inr (some (1, 0, 0)))), some (.inl a1)]) sw_504 rfl h
/- X12 taker -/
set_option maxRecDepth 10000 in
set_option maxHeartbeats 200000 in
theorem fw_532 (a1 : Int32) (a2 : Int32) (μ : qz_M) (R : wz_R)
    (h : (bif decide (a1 < (0 : Int32)) then (wz_wr (qz_wI μ (1, 0, 0) 2 (1 : Int32)) (fun μ1 => (R μ1 (.inl (some (.inl (0 : Int32))))))) else (bif decide (((qz_im μ 2 0 0 102) - (1 : Int32)) < a1) then (wz_wr (qz_wI μ (1, 0, 0) 2 (1 : Int32)) (fun μ2 => (R μ2 (.inl (some (.inl (0 : Int32))))))) else (wz_wr (qz_wI μ (1, 0, 0) 2 (0 : Int32)) (fun μ3 => (bif decide (a2 < (1 : Int32)) then (wz_wr (qz_wI μ3 (1, 0, 0) 2 (2 : Int32)) (fun μ4 => (R μ4 (.inl (some (.inl (0 : Int32))))))) else (bif decide ((9999 : Int32) < a2) then (wz_wr (qz_wI μ3 (1, 0, 0) 2 (2 : Int32)) (fun μ5 => (R μ5 (.inl (some (.inl (0 : Int32))))))) else (wz_wr (qz_wI μ3 (1, 0, 0) 2 (0 : Int32)) (fun μ6 => (wz_cI qf_286 [.inr (.inr (some (1, 0, 0))), .inl a1, .inl a2] μ6 (fun μ7 v8 => (R μ7 (.inl (some (.inl v8))))) (fun μ7 e => (R μ7 (.inr e))))))))))))) :
    wz_call qf_532 [.inr (.inr (some (1, 0, 0))), .inl a1, .inl a2] μ R := wz_mt9 (L := [some (.inr (.inr (some (1, 0, 0)))), some (.inl a1), some (.inl a2)]) sw_532 rfl h
/- X12 takings -/
set_option maxRecDepth 10000 in
set_option maxHeartbeats 200000 in
theorem fw_533 (a1 : Int32) (a2 : Int32) (a3 : Int32) (μ : qz_M) (R : wz_R)
    (h : (bif decide (a1 < (0 : Int32)) then (wz_wr (qz_wI μ (1, 0, 0) 2 (1 : Int32)) (fun μ1 => (R μ1 (.inl (some (.inl (0 : Int32))))))) else (bif decide (((qz_im μ 2 0 0 3000) - (1 : Int32)) < a1) then (wz_wr (qz_wI μ (1, 0, 0) 2 (1 : Int32)) (fun μ2 => (R μ2 (.inl (some (.inl (0 : Int32))))))) else (wz_wr (qz_wI μ (1, 0, 0) 2 (0 : Int32)) (fun μ3 => (bif decide (a2 < (1 : Int32)) then (wz_wr (qz_wI μ3 (1, 0, 0) 2 (2 : Int32)) (fun μ4 => (R μ4 (.inl (some (.inl (0 : Int32))))))) else (bif decide ((12 : Int32) < a2) then (wz_wr (qz_wI μ3 (1, 0, 0) 2 (2 : Int32)) (fun μ5 => (R μ5 (.inl (some (.inl (0 : Int32))))))) else (bif decide (a3 < (0 : Int32)) then (wz_wr (qz_wI μ3 (1, 0, 0) 2 (2 : Int32)) (fun μ6 => (R μ6 (.inl (some (.inl (0 : Int32))))))) else (bif decide ((4 : Int32) < a3) then (wz_wr (qz_wI μ3 (1, 0, 0) 2 (2 : Int32)) (fun μ7 => (R μ7 (.inl (some (.inl (0 : Int32))))))) else (wz_wr (qz_wI μ3 (1, 0, 0) 2 (0 : Int32)) (fun μ8 => (wz_cV qf_313 [.inr (.inr (some (1, 0, 0))), .inl a1, .inl a2] μ8 (fun μ9 => (bif pz_out a3 5 then False else (R μ9 (.inl (some (.inl (qz_im μ9 91 0 0 a3.toNatClampNeg))))))) (fun μ9 e => (R μ9 (.inr e))))))))))))))) :
    wz_call qf_533 [.inr (.inr (some (1, 0, 0))), .inl a1, .inl a2, .inl a3] μ R := wz_mt9 (L := [some (.inr (.inr (some (1, 0, 0)))), some (.inl a1), some (.inl a2), some (.inl a3)]) sw_533 rfl h
/- X12 well -/
/- X12 xFault -/
set_option maxRecDepth 10000 in
set_option maxHeartbeats 200000 in
theorem fw_552 (a2 : Int32) (μ : qz_M) (R : wz_R)
    (h : (wz_wr (qz_wI μ (1, 0, 0) 50 (0 : Int32)) (fun μ1 => (bif (!decide (a2 = 0)) then (wz_loop qb_552_1 65536 (wz_sk gc_552_2 (wz_kb (wz_sk gc_552_3 wz_k0 R)) R) R ([some (.inr (.inr (some (1, 0, 0)))), some (.inr (.inr (some (112, 0, 0)))), some (.inl a2)], [], μ1)) else (R μ1 (.inl (some (.inl (0 : Int32))))))))) :
    wz_call qf_552 [.inr (.inr (some (1, 0, 0))), .inr (.inr (some (112, 0, 0))), .inl a2] μ R := wz_mt9 (L := [some (.inr (.inr (some (1, 0, 0)))), some (.inr (.inr (some (112, 0, 0)))), some (.inl a2)]) sw_552 rfl h
/- X12 xRecordSigns -/
/- X12 tasks -/
set_option maxRecDepth 10000 in
set_option maxHeartbeats 200000 in
theorem fw_535  (μ : qz_M) (R : wz_R)
    (h : (wz_wr (qz_wI μ (1, 0, 0) 2 (0 : Int32)) (fun μ1 => (wz_cI qf_552 [.inr (.inr (some (1, 0, 0))), .inr (.inr (some (112, 0, 0))), .inl (qz_im μ1 1 0 0 49)] μ1 (fun μ2 v3 => (wz_wr (qz_wI μ2 (1, 0, 0) 49 (0 : Int32)) (fun μ4 => (bif decide (v3 = (-1 : Int32)) then (wz_cV qf_351 [.inr (.inr (some (1, 0, 0))), .inl (1 : Int32)] μ4 (fun μ5 => (wz_wr (qz_wI μ5 (1, 0, 0) 35 (1 : Int32)) (fun μ6 => (wz_cI qf_550 [.inr (.inr (some (1, 0, 0))), .inr (.inr (some (112, 0, 0))), .inl (0 : Int32), .inl (qz_im μ1 1 0 0 49)] μ6 (fun μ7 v8 => (wz_wr (qz_wI μ7 (1, 0, 0) 35 (0 : Int32)) (fun μ9 => (bif decide (v8 ≤ 0) then (R μ9 (.inl (some (.inl v8)))) else (wz_cV qf_557 [.inr (.inr (some (1, 0, 0))), .inl (1 : Int32)] μ9 (fun μ10 => (wz_cV qf_564 [.inr (.inr (some (1, 0, 0))), .inl (qz_im μ1 1 0 0 49)] μ10 (fun μ11 => (R μ11 (.inl (some (.inl v8))))) (fun μ11 e => (R μ11 (.inr e))))) (fun μ10 e => (R μ10 (.inr e)))))))) (fun μ7 e => (R μ7 (.inr e))))))) (fun μ5 e => (R μ5 (.inr e)))) else (R μ4 (.inl (some (.inl ((-2 : Int32) - v3))))))))) (fun μ2 e => (R μ2 (.inr e))))))) :
    wz_call qf_535 [.inr (.inr (some (1, 0, 0)))] μ R := wz_mt9 (L := [some (.inr (.inr (some (1, 0, 0)))), none, none, none]) sw_535 rfl h
/- X12 thrown -/
/- X12 trip -/
set_option maxRecDepth 10000 in
set_option maxHeartbeats 200000 in
theorem fw_538 (a1 : Int32) (a2 : Int32) (μ : qz_M) (R : wz_R)
    (h : (bif decide (a1 < (0 : Int32)) then (wz_wr (qz_wI μ (1, 0, 0) 2 (1 : Int32)) (fun μ1 => (R μ1 (.inl (some (.inl (0 : Int32))))))) else (bif decide (((qz_im μ 2 0 0 3200) - (1 : Int32)) < a1) then (wz_wr (qz_wI μ (1, 0, 0) 2 (1 : Int32)) (fun μ2 => (R μ2 (.inl (some (.inl (0 : Int32))))))) else (wz_wr (qz_wI μ (1, 0, 0) 2 (0 : Int32)) (fun μ3 => (bif decide (a2 < (0 : Int32)) then (wz_wr (qz_wI μ3 (1, 0, 0) 2 (2 : Int32)) (fun μ4 => (R μ4 (.inl (some (.inl (0 : Int32))))))) else (bif decide ((4 : Int32) < a2) then (wz_wr (qz_wI μ3 (1, 0, 0) 2 (2 : Int32)) (fun μ5 => (R μ5 (.inl (some (.inl (0 : Int32))))))) else (wz_wr (qz_wI μ3 (1, 0, 0) 2 (0 : Int32)) (fun μ6 => (bif pz_out (((3250 : Int32) + ((24 : Int32) * a1)) + (2 : Int32)) 4400 then False else (bif (!decide ((qz_im μ6 2 0 0 (((3250 : Int32) + ((24 : Int32) * a1)) + (2 : Int32)).toNatClampNeg) = (1 : Int32))) then (wz_cI qf_527 [.inr (.inr (some (1, 0, 0))), .inl a1] μ6 (fun μ7 v8 => (wz_cV qf_511 [.inr (.inr (some (1, 0, 0))), .inl v8] μ7 (fun μ9 => (bif decide ((qz_im μ9 1 0 0 24) ≤ a2) then (R μ9 (.inl (some (.inl (-1 : Int32))))) else (bif pz_out a2 5 then False else (R μ9 (.inl (some (.inl (qz_im μ9 96 0 0 a2.toNatClampNeg)))))))) (fun μ9 e => (R μ9 (.inr e))))) (fun μ7 e => (R μ7 (.inr e)))) else (bif pz_out (((3250 : Int32) + ((24 : Int32) * a1)) + (8 : Int32)) 4400 then False else (bif decide ((qz_im μ6 2 0 0 (((3250 : Int32) + ((24 : Int32) * a1)) + (8 : Int32)).toNatClampNeg) ≤ a2) then (R μ6 (.inl (some (.inl (-1 : Int32))))) else (bif pz_out (((3250 : Int32) + ((24 : Int32) * a1)) + ((9 : Int32) + a2)) 4400 then False else (R μ6 (.inl (some (.inl (qz_im μ6 2 0 0 (((3250 : Int32) + ((24 : Int32) * a1)) + ((9 : Int32) + a2)).toNatClampNeg))))))))))))))))))) :
    wz_call qf_538 [.inr (.inr (some (1, 0, 0))), .inl a1, .inl a2] μ R := wz_mt9 (L := [some (.inr (.inr (some (1, 0, 0)))), some (.inl a1), some (.inl a2)]) sw_538 rfl h
/- X12 undo -/
set_option maxRecDepth 10000 in
set_option maxHeartbeats 200000 in
theorem fw_541  (μ : qz_M) (R : wz_R)
    (h : (bif decide ((qz_im μ 1 0 0 34) ≤ 0) then (wz_wr (qz_wI μ (1, 0, 0) 2 (1 : Int32)) (fun μ1 => (R μ1 (.inl (some (.inl (0 : Int32))))))) else (wz_wr (qz_wI μ (1, 0, 0) 2 (0 : Int32)) (fun μ2 => (wz_wr (qz_wI μ2 (1, 0, 0) 34 ((qz_im μ2 1 0 0 34) - (1 : Int32))) (fun μ3 => (wz_loop qb_541_1 65536 (wz_sk gc_541_2 wz_k0 R) R ([some (.inr (.inr (some (1, 0, 0)))), some (.inl (0 : Int32))], [], μ3)))))))) :
    wz_call qf_541 [.inr (.inr (some (1, 0, 0)))] μ R := wz_mt9 (L := [some (.inr (.inr (some (1, 0, 0)))), none]) sw_541 rfl h
/- X12 worst -/
set_option maxRecDepth 10000 in
set_option maxHeartbeats 200000 in
theorem fw_547 (a1 : Int32) (a2 : Int32) (μ : qz_M) (R : wz_R)
    (h : (bif decide (a1 < (0 : Int32)) then (wz_wr (qz_wI μ (1, 0, 0) 2 (1 : Int32)) (fun μ1 => (R μ1 (.inl (some (.inl (0 : Int32))))))) else (bif decide (((qz_im μ 2 0 0 3500) - (1 : Int32)) < a1) then (wz_wr (qz_wI μ (1, 0, 0) 2 (1 : Int32)) (fun μ2 => (R μ2 (.inl (some (.inl (0 : Int32))))))) else (wz_wr (qz_wI μ (1, 0, 0) 2 (0 : Int32)) (fun μ3 => (bif decide (a2 < (0 : Int32)) then (wz_wr (qz_wI μ3 (1, 0, 0) 2 (2 : Int32)) (fun μ4 => (R μ4 (.inl (some (.inl (0 : Int32))))))) else (bif decide ((1 : Int32) < a2) then (wz_wr (qz_wI μ3 (1, 0, 0) 2 (2 : Int32)) (fun μ5 => (R μ5 (.inl (some (.inl (0 : Int32))))))) else (wz_wr (qz_wI μ3 (1, 0, 0) 2 (0 : Int32)) (fun μ6 => (bif pz_out (((3520 : Int32) + ((10 : Int32) * a1)) + (0 : Int32)) 4400 then False else (bif decide ((qz_im μ6 2 0 0 (((3520 : Int32) + ((10 : Int32) * a1)) + (0 : Int32)).toNatClampNeg) ≤ ((qz_im μ6 2 0 0 0) - (qz_im μ6 2 0 0 0) / (24 : Int32) * (24 : Int32))) then (bif (!decide ((((qz_im μ6 2 0 0 0) / (24 : Int32)) + (1 : Int32)) = (28 : Int32))) then (wz_cV qf_356 [.inr (.inr (some (1, 0, 0))), .inl a1, .inl (((qz_im μ6 2 0 0 0) / (24 : Int32)) + (1 : Int32))] μ6 (fun μ7 => (bif (!decide (a2 = 0)) then (R μ7 (.inl (some (.inl (qz_im μ7 1 0 0 32))))) else (R μ7 (.inl (some (.inl (qz_im μ7 1 0 0 31))))))) (fun μ7 e => (R μ7 (.inr e)))) else (R μ6 (.inl (some (.inl (-1 : Int32)))))) else (bif (!decide (((qz_im μ6 2 0 0 0) / (24 : Int32)) = (28 : Int32))) then (wz_cV qf_356 [.inr (.inr (some (1, 0, 0))), .inl a1, .inl ((qz_im μ6 2 0 0 0) / (24 : Int32))] μ6 (fun μ8 => (bif (!decide (a2 = 0)) then (R μ8 (.inl (some (.inl (qz_im μ8 1 0 0 32))))) else (R μ8 (.inl (some (.inl (qz_im μ8 1 0 0 31))))))) (fun μ8 e => (R μ8 (.inr e)))) else (R μ6 (.inl (some (.inl (-1 : Int32))))))))))))))))) :
    wz_call qf_547 [.inr (.inr (some (1, 0, 0))), .inl a1, .inl a2] μ R := wz_mt9 (L := [some (.inr (.inr (some (1, 0, 0)))), some (.inl a1), some (.inl a2), none]) sw_547 rfl h
/- L account -/
/- L again -/
/- L best -/
/- L bestRow -/
/- L bestStart -/
/- L blame -/
/- L buyer -/
/- L cancel -/
/- L clock -/
/- L deliver -/
/- L docks -/
/- L dump -/
/- L entry -/
/- L fewest -/
/- L found -/
/- L gas -/
/- L grade -/
/- L grower -/
/- L grown -/
/- L hand -/
/- L haul -/
/- L inspector -/
/- L isSound -/
/- L keep -/
/- L kept -/
/- L load -/
/- L looked -/
/- L lot -/
/- L match -/
/- L odds -/
/- L order -/
/- L ordered -/
/- L outside -/
/- L owed -/
/- L owes -/
/- L pallet -/
/- L parcel -/
/- L pass -/
/- L pay -/
/- L plan -/
/- L put -/
/- L quarrel -/
/- L quarrelled -/
/- L queue -/
/- L ripe -/
/- L room -/
/- L round -/
/- L season -/
/- L send -/
/- L set -/
/- L shares -/
/- L sign -/
/- L sort -/
/- L sum -/
/- L taker -/
/- L takings -/
/- L tariff -/
/- L trip -/
/- L truck -/
/- L undo -/
/- L way -/
/- L withdraw -/
/- L worst -/
