/-! what the methods ask, 25 -/
/- X12 way -/
set_option maxRecDepth 10000 in
set_option maxHeartbeats 200000 in
theorem fw_543 (a1 : Int32) (a2 : Int32) (a3 : Int32) (μ : qz_M) (R : wz_R)
    (h : (bif decide (a1 < (0 : Int32)) then (wz_wr (qz_wI μ (1, 0, 0) 2 (1 : Int32)) (fun μ1 => (R μ1 (.inl (some (.inl (0 : Int32))))))) else (bif decide ((5 : Int32) < a1) then (wz_wr (qz_wI μ (1, 0, 0) 2 (1 : Int32)) (fun μ2 => (R μ2 (.inl (some (.inl (0 : Int32))))))) else (bif decide (a2 < (0 : Int32)) then (wz_wr (qz_wI μ (1, 0, 0) 2 (1 : Int32)) (fun μ3 => (R μ3 (.inl (some (.inl (0 : Int32))))))) else (bif decide ((5 : Int32) < a2) then (wz_wr (qz_wI μ (1, 0, 0) 2 (1 : Int32)) (fun μ4 => (R μ4 (.inl (some (.inl (0 : Int32))))))) else (wz_wr (qz_wI μ (1, 0, 0) 2 (0 : Int32)) (fun μ5 => (bif decide (a1 = a2) then (wz_wr (qz_wI μ5 (1, 0, 0) 2 (2 : Int32)) (fun μ6 => (R μ6 (.inl (some (.inl (0 : Int32))))))) else (bif decide (a3 < (1 : Int32)) then (wz_wr (qz_wI μ5 (1, 0, 0) 2 (2 : Int32)) (fun μ7 => (R μ7 (.inl (some (.inl (0 : Int32))))))) else (bif decide ((12 : Int32) < a3) then (wz_wr (qz_wI μ5 (1, 0, 0) 2 (2 : Int32)) (fun μ8 => (R μ8 (.inl (some (.inl (0 : Int32))))))) else (wz_wr (qz_wI μ5 (1, 0, 0) 2 (0 : Int32)) (fun μ9 => (bif (!decide ((qz_im μ9 1 0 0 35) = 0)) then (bif pz_out (((3210 : Int32) + ((6 : Int32) * a1)) + a2) 4400 then False else (bif pz_out (((3210 : Int32) + ((6 : Int32) * a1)) + a2) 4400 then False else (wz_wr (qz_wI μ9 (2, 0, 0) (((3210 : Int32) + ((6 : Int32) * a1)) + a2).toNatClampNeg a3) (fun μ10 => (bif pz_out (((3210 : Int32) + ((6 : Int32) * a2)) + a1) 4400 then False else (wz_wr (qz_wI μ10 (2, 0, 0) (((3210 : Int32) + ((6 : Int32) * a2)) + a1).toNatClampNeg a3) (fun μ11 => (R μ11 (.inl (some (.inl (qz_im μ9 2 0 0 (((3210 : Int32) + ((6 : Int32) * a1)) + a2).toNatClampNeg)))))))))))) else (wz_cV qf_557 [.inr (.inr (some (1, 0, 0))), .inl (-1 : Int32)] μ9 (fun μ12 => (wz_cV qf_563 [.inr (.inr (some (1, 0, 0))), .inl (18 : Int32), .inl a1, .inl a2, .inl a3, .inl (0 : Int32), .inl (0 : Int32), .inl (0 : Int32)] μ12 (fun μ13 => (bif pz_out (((3210 : Int32) + ((6 : Int32) * a1)) + a2) 4400 then False else (bif pz_out (((3210 : Int32) + ((6 : Int32) * a1)) + a2) 4400 then False else (wz_wr (qz_wI μ13 (2, 0, 0) (((3210 : Int32) + ((6 : Int32) * a1)) + a2).toNatClampNeg a3) (fun μ14 => (bif pz_out (((3210 : Int32) + ((6 : Int32) * a2)) + a1) 4400 then False else (wz_wr (qz_wI μ14 (2, 0, 0) (((3210 : Int32) + ((6 : Int32) * a2)) + a1).toNatClampNeg a3) (fun μ15 => (R μ15 (.inl (some (.inl (qz_im μ13 2 0 0 (((3210 : Int32) + ((6 : Int32) * a1)) + a2).toNatClampNeg))))))))))))) (fun μ13 e => (R μ13 (.inr e))))) (fun μ12 e => (R μ12 (.inr e))))))))))))))))) :
    wz_call qf_543 [.inr (.inr (some (1, 0, 0))), .inl a1, .inl a2, .inl a3] μ R := wz_mt9 (L := [some (.inr (.inr (some (1, 0, 0)))), some (.inl a1), some (.inl a2), some (.inl a3), none]) sw_543 rfl h
/- X12 truck -/
set_option maxRecDepth 10000 in
set_option maxHeartbeats 200000 in
theorem fw_539 (a1 : Int32) (a2 : Int32) (μ : qz_M) (R : wz_R)
    (h : (bif decide (a1 < (10 : Int32)) then (wz_wr (qz_wI μ (1, 0, 0) 2 (1 : Int32)) (fun μ1 => (R μ1 (.inl (some (.inl (0 : Int32))))))) else (bif decide ((99 : Int32) < a1) then (wz_wr (qz_wI μ (1, 0, 0) 2 (1 : Int32)) (fun μ2 => (R μ2 (.inl (some (.inl (0 : Int32))))))) else (bif decide (a2 < (0 : Int32)) then (wz_wr (qz_wI μ (1, 0, 0) 2 (1 : Int32)) (fun μ3 => (R μ3 (.inl (some (.inl (0 : Int32))))))) else (bif decide ((40 : Int32) < a2) then (wz_wr (qz_wI μ (1, 0, 0) 2 (1 : Int32)) (fun μ4 => (R μ4 (.inl (some (.inl (0 : Int32))))))) else (wz_wr (qz_wI μ (1, 0, 0) 2 (0 : Int32)) (fun μ5 => (bif decide ((4 : Int32) ≤ (qz_im μ5 2 0 0 3200)) then (wz_wr (qz_wI μ5 (1, 0, 0) 2 (2 : Int32)) (fun μ6 => (R μ6 (.inl (some (.inl (0 : Int32))))))) else (wz_wr (qz_wI μ5 (1, 0, 0) 2 (0 : Int32)) (fun μ7 => (bif (!decide ((qz_im μ7 1 0 0 35) = 0)) then (bif pz_out (((3250 : Int32) + ((24 : Int32) * (qz_im μ7 2 0 0 3200))) + (0 : Int32)) 4400 then False else (wz_wr (qz_wI μ7 (2, 0, 0) (((3250 : Int32) + ((24 : Int32) * (qz_im μ7 2 0 0 3200))) + (0 : Int32)).toNatClampNeg a1) (fun μ8 => (bif pz_out (((3250 : Int32) + ((24 : Int32) * (qz_im μ7 2 0 0 3200))) + (1 : Int32)) 4400 then False else (wz_wr (qz_wI μ8 (2, 0, 0) (((3250 : Int32) + ((24 : Int32) * (qz_im μ7 2 0 0 3200))) + (1 : Int32)).toNatClampNeg a2) (fun μ9 => (bif pz_out (((3250 : Int32) + ((24 : Int32) * (qz_im μ7 2 0 0 3200))) + (3 : Int32)) 4400 then False else (wz_wr (qz_wI μ9 (2, 0, 0) (((3250 : Int32) + ((24 : Int32) * (qz_im μ7 2 0 0 3200))) + (3 : Int32)).toNatClampNeg (-1 : Int32)) (fun μ10 => (bif pz_out (((3250 : Int32) + ((24 : Int32) * (qz_im μ7 2 0 0 3200))) + (4 : Int32)) 4400 then False else (wz_wr (qz_wI μ10 (2, 0, 0) (((3250 : Int32) + ((24 : Int32) * (qz_im μ7 2 0 0 3200))) + (4 : Int32)).toNatClampNeg (-1 : Int32)) (fun μ11 => (wz_wr (qz_wI μ11 (2, 0, 0) 3200 ((qz_im μ11 2 0 0 3200) + (1 : Int32))) (fun μ12 => (R μ12 (.inl (some (.inl (qz_im μ7 2 0 0 3200))))))))))))))))))) else (wz_cV qf_557 [.inr (.inr (some (1, 0, 0))), .inl (-1 : Int32)] μ7 (fun μ13 => (wz_cV qf_563 [.inr (.inr (some (1, 0, 0))), .inl (20 : Int32), .inl a1, .inl a2, .inl (0 : Int32), .inl (0 : Int32), .inl (0 : Int32), .inl (0 : Int32)] μ13 (fun μ14 => (bif pz_out (((3250 : Int32) + ((24 : Int32) * (qz_im μ14 2 0 0 3200))) + (0 : Int32)) 4400 then False else (wz_wr (qz_wI μ14 (2, 0, 0) (((3250 : Int32) + ((24 : Int32) * (qz_im μ14 2 0 0 3200))) + (0 : Int32)).toNatClampNeg a1) (fun μ15 => (bif pz_out (((3250 : Int32) + ((24 : Int32) * (qz_im μ14 2 0 0 3200))) + (1 : Int32)) 4400 then False else (wz_wr (qz_wI μ15 (2, 0, 0) (((3250 : Int32) + ((24 : Int32) * (qz_im μ14 2 0 0 3200))) + (1 : Int32)).toNatClampNeg a2) (fun μ16 => (bif pz_out (((3250 : Int32) + ((24 : Int32) * (qz_im μ14 2 0 0 3200))) + (3 : Int32)) 4400 then False else (wz_wr (qz_wI μ16 (2, 0, 0) (((3250 : Int32) + ((24 : Int32) * (qz_im μ14 2 0 0 3200))) + (3 : Int32)).toNatClampNeg (-1 : Int32)) (fun μ17 => (bif pz_out (((3250 : Int32) + ((24 : Int32) * (qz_im μ14 2 0 0 3200))) + (4 : Int32)) 4400 then False else (wz_wr (qz_wI μ17 (2, 0, 0) (((3250 : Int32) + ((24 : Int32) * (qz_im μ14 2 0 0 3200))) + (4 : Int32)).toNatClampNeg (-1 : Int32)) (fun μ18 => (wz_wr (qz_wI μ18 (2, 0, 0) 3200 ((qz_im μ18 2 0 0 3200) + (1 : Int32))) (fun μ19 => (R μ19 (.inl (some (.inl (qz_im μ14 2 0 0 3200)))))))))))))))))))) (fun μ14 e => (R μ14 (.inr e))))) (fun μ13 e => (R μ13 (.inr e))))))))))))))) :
    wz_call qf_539 [.inr (.inr (some (1, 0, 0))), .inl a1, .inl a2] μ R := wz_mt9 (L := [some (.inr (.inr (some (1, 0, 0)))), some (.inl a1), some (.inl a2), none]) sw_539 rfl h
/- X12 mayLoad -/
/- X12 load -/
-- fw_426 is taken out
/- X12 send -/
-- fw_499 is taken out
/- X12 round -/
set_option maxRecDepth 10000 in
set_option maxHeartbeats 200000 in
theorem fw_496 (a1 : Int32) (a2 : Int32) (a3 : Int32) (μ : qz_M) (R : wz_R)
    (h : (bif decide (a1 < (0 : Int32)) then (wz_wr (qz_wI μ (1, 0, 0) 2 (1 : Int32)) (fun μ1 => (R μ1 (.inl (some (.inl (0 : Int32))))))) else (bif decide (((qz_im μ 2 0 0 3500) - (1 : Int32)) < a1) then (wz_wr (qz_wI μ (1, 0, 0) 2 (1 : Int32)) (fun μ2 => (R μ2 (.inl (some (.inl (0 : Int32))))))) else (wz_wr (qz_wI μ (1, 0, 0) 2 (0 : Int32)) (fun μ3 => (bif decide (a2 < (0 : Int32)) then (wz_wr (qz_wI μ3 (1, 0, 0) 2 (2 : Int32)) (fun μ4 => (R μ4 (.inl (some (.inl (0 : Int32))))))) else (bif decide ((127 : Int32) < a2) then (wz_wr (qz_wI μ3 (1, 0, 0) 2 (2 : Int32)) (fun μ5 => (R μ5 (.inl (some (.inl (0 : Int32))))))) else (wz_cI qf_361 [.inr (.inr (some (1, 0, 0))), .inl a3] μ3 (fun μ6 v7 => (bif decide (v7 = 0) then (wz_wr (qz_wI μ6 (1, 0, 0) 2 (2 : Int32)) (fun μ8 => (R μ8 (.inl (some (.inl (0 : Int32))))))) else (wz_wr (qz_wI μ6 (1, 0, 0) 2 (0 : Int32)) (fun μ9 => (bif (!decide ((qz_im μ9 1 0 0 35) = 0)) then (bif pz_out (((3520 : Int32) + ((10 : Int32) * a1)) + (2 : Int32)) 4400 then False else (wz_wr (qz_wI μ9 (2, 0, 0) (((3520 : Int32) + ((10 : Int32) * a1)) + (2 : Int32)).toNatClampNeg a2) (fun μ10 => (bif pz_out (((3520 : Int32) + ((10 : Int32) * a1)) + (3 : Int32)) 4400 then False else (wz_wr (qz_wI μ10 (2, 0, 0) (((3520 : Int32) + ((10 : Int32) * a1)) + (3 : Int32)).toNatClampNeg a3) (fun μ11 => (wz_cI qf_374 [.inl a3] μ11 (fun μ12 v13 => (R μ12 (.inl (some (.inl v13))))) (fun μ12 e => (R μ12 (.inr e)))))))))) else (wz_cV qf_557 [.inr (.inr (some (1, 0, 0))), .inl (-1 : Int32)] μ9 (fun μ14 => (wz_cV qf_563 [.inr (.inr (some (1, 0, 0))), .inl (24 : Int32), .inl a1, .inl a2, .inl a3, .inl (0 : Int32), .inl (0 : Int32), .inl (0 : Int32)] μ14 (fun μ15 => (bif pz_out (((3520 : Int32) + ((10 : Int32) * a1)) + (2 : Int32)) 4400 then False else (wz_wr (qz_wI μ15 (2, 0, 0) (((3520 : Int32) + ((10 : Int32) * a1)) + (2 : Int32)).toNatClampNeg a2) (fun μ16 => (bif pz_out (((3520 : Int32) + ((10 : Int32) * a1)) + (3 : Int32)) 4400 then False else (wz_wr (qz_wI μ16 (2, 0, 0) (((3520 : Int32) + ((10 : Int32) * a1)) + (3 : Int32)).toNatClampNeg a3) (fun μ17 => (wz_cI qf_374 [.inl a3] μ17 (fun μ18 v19 => (R μ18 (.inl (some (.inl v19))))) (fun μ18 e => (R μ18 (.inr e))))))))))) (fun μ15 e => (R μ15 (.inr e))))) (fun μ14 e => (R μ14 (.inr e))))))))) (fun μ6 e => (R μ6 (.inr e))))))))))) :
    wz_call qf_496 [.inr (.inr (some (1, 0, 0))), .inl a1, .inl a2, .inl a3] μ R := wz_mt9 (L := [some (.inr (.inr (some (1, 0, 0)))), some (.inl a1), some (.inl a2), some (.inl a3)]) sw_496 rfl h
/- X12 tariff -/
set_option maxRecDepth 10000 in
set_option maxHeartbeats 200000 in
theorem fw_534 (a1 : Int32) (a2 : Int32) (μ : qz_M) (R : wz_R)
    (h : (bif decide (a1 < (0 : Int32)) then (wz_wr (qz_wI μ (1, 0, 0) 2 (1 : Int32)) (fun μ1 => (R μ1 (.inl (some (.inl (0 : Int32))))))) else (bif decide ((3 : Int32) < a1) then (wz_wr (qz_wI μ (1, 0, 0) 2 (1 : Int32)) (fun μ2 => (R μ2 (.inl (some (.inl (0 : Int32))))))) else (bif decide (a2 < (0 : Int32)) then (wz_wr (qz_wI μ (1, 0, 0) 2 (1 : Int32)) (fun μ3 => (R μ3 (.inl (some (.inl (0 : Int32))))))) else (bif decide ((99999 : Int32) < a2) then (wz_wr (qz_wI μ (1, 0, 0) 2 (1 : Int32)) (fun μ4 => (R μ4 (.inl (some (.inl (0 : Int32))))))) else (wz_wr (qz_wI μ (1, 0, 0) 2 (0 : Int32)) (fun μ5 => (bif (!decide ((qz_im μ5 1 0 0 35) = 0)) then (bif pz_out ((3810 : Int32) + a1) 4400 then False else (bif pz_out ((3810 : Int32) + a1) 4400 then False else (wz_wr (qz_wI μ5 (2, 0, 0) ((3810 : Int32) + a1).toNatClampNeg a2) (fun μ6 => (R μ6 (.inl (some (.inl (qz_im μ5 2 0 0 ((3810 : Int32) + a1).toNatClampNeg))))))))) else (wz_cV qf_557 [.inr (.inr (some (1, 0, 0))), .inl (-1 : Int32)] μ5 (fun μ7 => (wz_cV qf_563 [.inr (.inr (some (1, 0, 0))), .inl (25 : Int32), .inl a1, .inl a2, .inl (0 : Int32), .inl (0 : Int32), .inl (0 : Int32), .inl (0 : Int32)] μ7 (fun μ8 => (bif pz_out ((3810 : Int32) + a1) 4400 then False else (bif pz_out ((3810 : Int32) + a1) 4400 then False else (wz_wr (qz_wI μ8 (2, 0, 0) ((3810 : Int32) + a1).toNatClampNeg a2) (fun μ9 => (R μ9 (.inl (some (.inl (qz_im μ8 2 0 0 ((3810 : Int32) + a1).toNatClampNeg)))))))))) (fun μ8 e => (R μ8 (.inr e))))) (fun μ7 e => (R μ7 (.inr e)))))))))))) :
    wz_call qf_534 [.inr (.inr (some (1, 0, 0))), .inl a1, .inl a2] μ R := wz_mt9 (L := [some (.inr (.inr (some (1, 0, 0)))), some (.inl a1), some (.inl a2), none]) sw_534 rfl h
/- X12 kMayQuarrel -/
/- X12 quarrel -/
-- fw_457 is taken out
/- X12 mCome -/
/- X12 tIsAt -/
/- X12 kHauled -/
/- X12 tArrives -/
/- X12 tArrive -/
set_option maxRecDepth 10000 in
set_option maxHeartbeats 200000 in
theorem fw_505  (μ : qz_M) (R : wz_R)
    (h : (wz_loop qb_505_1 65536 (wz_sk gc_505_2 wz_k0 R) R ([some (.inr (.inr (some (1, 0, 0)))), some (.inl (0 : Int32))], [], μ))) :
    wz_call qf_505 [.inr (.inr (some (1, 0, 0)))] μ R := wz_mt9 (L := [some (.inr (.inr (some (1, 0, 0)))), none]) sw_505 rfl h
set_option maxRecDepth 10000 in
set_option maxHeartbeats 200000 in
theorem fc_505_2  (μ : qz_M) (k : wz_K) (R : wz_R) (L : qz_L) (hL : qz_fg [false, false] L = [none, none])
    (h : (R μ (.inl none))) :
    gc_505_2 k R (L, [], μ) := wz_fgd hL h
set_option maxRecDepth 10000 in
set_option maxHeartbeats 200000 in
theorem fb_505_1 (x1 : Int32) (μ : qz_M) (k : wz_K) (R : wz_R) (L : qz_L) (hL : qz_fg [true, true] L = [some (.inr (.inr (some (1, 0, 0)))), some (.inl x1)])
    (h : (bif decide ((qz_im μ 2 0 0 3200) ≤ x1) then (k 0 ([some (.inr (.inr (some (1, 0, 0)))), some (.inl x1)], [], μ)) else (bif pz_out (((3250 : Int32) + ((24 : Int32) * x1)) + (2 : Int32)) 4400 then False else (bif (!decide ((qz_im μ 2 0 0 (((3250 : Int32) + ((24 : Int32) * x1)) + (2 : Int32)).toNatClampNeg) = (1 : Int32))) then (k 1 ([some (.inr (.inr (some (1, 0, 0)))), some (.inl (x1 + (1 : Int32)))], [], μ)) else (wz_cV qf_506 [.inr (.inr (some (1, 0, 0))), .inl x1] μ (fun μ1 => (k 1 ([some (.inr (.inr (some (1, 0, 0)))), some (.inl (x1 + (1 : Int32)))], [], μ1))) (fun μ1 e => (R μ1 (.inr e)))))))) :
    gb_505_1 k R (L, [], μ) := wz_fgd hL h
/- X12 tGoes -/
/- X12 tGo -/
set_option maxRecDepth 10000 in
set_option maxHeartbeats 200000 in
theorem fw_512  (μ : qz_M) (R : wz_R)
    (h : (wz_loop qb_512_1 65536 (wz_sk gc_512_2 wz_k0 R) R ([some (.inr (.inr (some (1, 0, 0)))), some (.inl (0 : Int32))], [], μ))) :
    wz_call qf_512 [.inr (.inr (some (1, 0, 0)))] μ R := wz_mt9 (L := [some (.inr (.inr (some (1, 0, 0)))), none]) sw_512 rfl h
set_option maxRecDepth 10000 in
set_option maxHeartbeats 200000 in
theorem fc_512_2  (μ : qz_M) (k : wz_K) (R : wz_R) (L : qz_L) (hL : qz_fg [false, false] L = [none, none])
    (h : (R μ (.inl none))) :
    gc_512_2 k R (L, [], μ) := wz_fgd hL h
set_option maxRecDepth 10000 in
set_option maxHeartbeats 200000 in
theorem fb_512_1 (x1 : Int32) (μ : qz_M) (k : wz_K) (R : wz_R) (L : qz_L) (hL : qz_fg [true, true] L = [some (.inr (.inr (some (1, 0, 0)))), some (.inl x1)])
    (h : (bif decide ((qz_im μ 2 0 0 3200) ≤ x1) then (k 0 ([some (.inr (.inr (some (1, 0, 0)))), some (.inl x1)], [], μ)) else (bif pz_out (((3250 : Int32) + ((24 : Int32) * x1)) + (2 : Int32)) 4400 then False else (bif (!decide ((qz_im μ 2 0 0 (((3250 : Int32) + ((24 : Int32) * x1)) + (2 : Int32)).toNatClampNeg) = (1 : Int32))) then (bif pz_out (((3250 : Int32) + ((24 : Int32) * x1)) + (3 : Int32)) 4400 then False else (bif (!decide ((qz_im μ 2 0 0 (((3250 : Int32) + ((24 : Int32) * x1)) + (3 : Int32)).toNatClampNeg) = (qz_im μ 2 0 0 0))) then (k 1 ([some (.inr (.inr (some (1, 0, 0)))), some (.inl (x1 + (1 : Int32)))], [], μ)) else (bif pz_out (((3250 : Int32) + ((24 : Int32) * x1)) + (3 : Int32)) 4400 then False else (wz_wr (qz_wI μ (2, 0, 0) (((3250 : Int32) + ((24 : Int32) * x1)) + (3 : Int32)).toNatClampNeg (-1 : Int32)) (fun μ1 => (wz_cI qf_518 [.inr (.inr (some (1, 0, 0))), .inl x1, .inl (0 : Int32)] μ1 (fun μ2 v3 => (bif decide (v3 ≤ 0) then (k 1 ([some (.inr (.inr (some (1, 0, 0)))), some (.inl (x1 + (1 : Int32)))], [], μ2)) else (wz_cV qf_513 [.inr (.inr (some (1, 0, 0))), .inl x1] μ2 (fun μ4 => (k 1 ([some (.inr (.inr (some (1, 0, 0)))), some (.inl (x1 + (1 : Int32)))], [], μ4))) (fun μ4 e => (R μ4 (.inr e)))))) (fun μ2 e => (R μ2 (.inr e))))))))) else (k 1 ([some (.inr (.inr (some (1, 0, 0)))), some (.inl (x1 + (1 : Int32)))], [], μ)))))) :
    gb_512_1 k R (L, [], μ) := wz_fgd hL h
/- X12 rWorked -/
set_option maxRecDepth 10000 in
set_option maxHeartbeats 200000 in
theorem fw_492  (μ : qz_M) (R : wz_R)
    (h : (wz_loop qb_492_1 65536 (wz_sk gc_492_2 wz_k0 R) R ([some (.inr (.inr (some (1, 0, 0)))), some (.inl (0 : Int32)), some (.inl (0 : Int32))], [], μ))) :
    wz_call qf_492 [.inr (.inr (some (1, 0, 0)))] μ R := wz_mt9 (L := [some (.inr (.inr (some (1, 0, 0)))), none, none]) sw_492 rfl h
set_option maxRecDepth 10000 in
set_option maxHeartbeats 200000 in
theorem fc_492_2 (x1 : Int32) (μ : qz_M) (k : wz_K) (R : wz_R) (L : qz_L) (hL : qz_fg [false, true, false] L = [none, some (.inl x1), none])
    (h : (R μ (.inl (some (.inl x1))))) :
    gc_492_2 k R (L, [], μ) := wz_fgd hL h
set_option maxRecDepth 10000 in
set_option maxHeartbeats 200000 in
theorem fb_492_1 (x1 : Int32) (x2 : Int32) (μ : qz_M) (k : wz_K) (R : wz_R) (L : qz_L) (hL : qz_fg [true, true, true] L = [some (.inr (.inr (some (1, 0, 0)))), some (.inl x1), some (.inl x2)])
    (h : (bif decide ((qz_im μ 2 0 0 1200) ≤ x2) then (k 0 ([some (.inr (.inr (some (1, 0, 0)))), some (.inl x1), some (.inl x2)], [], μ)) else (bif pz_out (((1210 : Int32) + ((12 : Int32) * x2)) + (8 : Int32)) 4400 then False else (k 1 ([some (.inr (.inr (some (1, 0, 0)))), some (.inl (x1 + (qz_im μ 2 0 0 (((1210 : Int32) + ((12 : Int32) * x2)) + (8 : Int32)).toNatClampNeg))), some (.inl (x2 + (1 : Int32)))], [], μ))))) :
    gb_492_1 k R (L, [], μ) := wz_fgd hL h
/- X12 rClosed -/
set_option maxRecDepth 10000 in
set_option maxHeartbeats 200000 in
theorem fw_463  (μ : qz_M) (R : wz_R)
    (h : (wz_loop qb_463_1 65536 (wz_sk gc_463_2 wz_k0 R) R ([some (.inr (.inr (some (1, 0, 0)))), some (.inl (0 : Int32))], [], μ))) :
    wz_call qf_463 [.inr (.inr (some (1, 0, 0)))] μ R := wz_mt9 (L := [some (.inr (.inr (some (1, 0, 0)))), none]) sw_463 rfl h
set_option maxRecDepth 10000 in
set_option maxHeartbeats 200000 in
theorem fc_463_2  (μ : qz_M) (k : wz_K) (R : wz_R) (L : qz_L) (hL : qz_fg [false, false] L = [none, none])
    (h : (R μ (.inl none))) :
    gc_463_2 k R (L, [], μ) := wz_fgd hL h
set_option maxRecDepth 10000 in
set_option maxHeartbeats 200000 in
theorem fb_463_1 (x1 : Int32) (μ : qz_M) (k : wz_K) (R : wz_R) (L : qz_L) (hL : qz_fg [true, true] L = [some (.inr (.inr (some (1, 0, 0)))), some (.inl x1)])
    (h : (bif decide ((qz_im μ 2 0 0 1200) ≤ x1) then (k 0 ([some (.inr (.inr (some (1, 0, 0)))), some (.inl x1)], [], μ)) else (bif pz_out (((1210 : Int32) + ((12 : Int32) * x1)) + (8 : Int32)) 4400 then False else (wz_wr (qz_wI μ (2, 0, 0) (((1210 : Int32) + ((12 : Int32) * x1)) + (8 : Int32)).toNatClampNeg (0 : Int32)) (fun μ1 => (k 1 ([some (.inr (.inr (some (1, 0, 0)))), some (.inl (x1 + (1 : Int32)))], [], μ1))))))) :
    gb_463_1 k R (L, [], μ) := wz_fgd hL h
/- X12 kJudges -/
