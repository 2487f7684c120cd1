/-! what the methods ask, 2 -/
/- X6 today -/
/- X0 payOut -/
set_option maxRecDepth 10000 in
set_option maxHeartbeats 400000 in
theorem fw_8 (a0b : Nat) (μ : qz_M) (R : wz_R)
    (h : (wz_loop qb_8_1 65536 (wz_sk gc_8_2 wz_k0 R) R ([some (.inr (.inr (some (10, a0b, 0)))), some (.inl (0 : Int32)), none], [], μ))) :
    wz_call qf_8 [.inr (.inr (some (10, a0b, 0)))] μ R := wz_mt9 (L := [some (.inr (.inr (some (10, a0b, 0)))), none, none]) sw_8 rfl h
set_option maxRecDepth 10000 in
set_option maxHeartbeats 400000 in
theorem fc_8_2  (μ : qz_M) (k : wz_K) (R : wz_R) (L : qz_L) (hL : qz_fg [false, false, false] L = [none, none, none])
    (h : (R μ (.inl none))) :
    gc_8_2 k R (L, [], μ) := wz_fgd hL h
set_option maxRecDepth 10000 in
set_option maxHeartbeats 400000 in
theorem fb_8_1 (x0b : Nat) (x1 : Int32) (μ : qz_M) (k : wz_K) (R : wz_R) (L : qz_L) (hL : qz_fg [true, true, false] L = [some (.inr (.inr (some (10, x0b, 0)))), some (.inl x1), none])
    (h : (bif decide ((qz_im μ 11 x0b 0 1) ≤ x1) then (k 0 ([some (.inr (.inr (some (10, x0b, 0)))), some (.inl x1), none], [], μ)) else (bif pz_out x1 6 then False else (bif decide ((qz_im μ 42 x0b x1.toNatClampNeg 2) ≤ 0) then (k 1 ([some (.inr (.inr (some (10, x0b, 0)))), some (.inl (x1 + (1 : Int32))), some (.inr (.inr (some (42, x0b, x1.toNatClampNeg))))], [], μ)) else (bif (!decide ((qz_im μ 42 x0b x1.toNatClampNeg 2) = 0)) then (wz_wr (qz_wI μ (14, x0b, 0) 0 ((qz_im μ 14 x0b 0 0) - (qz_im μ 42 x0b x1.toNatClampNeg 2))) (fun μ1 => (wz_wr (qz_wI μ1 (14, x0b, 0) 2 ((qz_im μ1 14 x0b 0 2) + (qz_im μ 42 x0b x1.toNatClampNeg 2))) (fun μ2 => (bif pz_out ((qz_im μ2 11 x0b 0 12) - (qz_im μ2 11 x0b 0 12) / (60 : Int32) * (60 : Int32)) 60 then False else (wz_wr (qz_wI μ2 (53, x0b, ((qz_im μ2 11 x0b 0 12) - (qz_im μ2 11 x0b 0 12) / (60 : Int32) * (60 : Int32)).toNatClampNeg) 0 (0 : Int32)) (fun μ3 => (wz_wr (qz_wI μ3 (53, x0b, ((qz_im μ2 11 x0b 0 12) - (qz_im μ2 11 x0b 0 12) / (60 : Int32) * (60 : Int32)).toNatClampNeg) 1 (2 : Int32)) (fun μ4 => (wz_wr (qz_wI μ4 (53, x0b, ((qz_im μ2 11 x0b 0 12) - (qz_im μ2 11 x0b 0 12) / (60 : Int32) * (60 : Int32)).toNatClampNeg) 2 (qz_im μ 42 x0b x1.toNatClampNeg 2)) (fun μ5 => (wz_wr (qz_wI μ5 (53, x0b, ((qz_im μ2 11 x0b 0 12) - (qz_im μ2 11 x0b 0 12) / (60 : Int32) * (60 : Int32)).toNatClampNeg) 3 (-1 : Int32)) (fun μ6 => (wz_wr (qz_wI μ6 (53, x0b, ((qz_im μ2 11 x0b 0 12) - (qz_im μ2 11 x0b 0 12) / (60 : Int32) * (60 : Int32)).toNatClampNeg) 4 (qz_im μ6 11 x0b 0 13)) (fun μ7 => (wz_wr (qz_wI μ7 (11, x0b, 0) 12 ((qz_im μ7 11 x0b 0 12) + (1 : Int32))) (fun μ8 => (wz_wr (qz_wI μ8 (42, x0b, x1.toNatClampNeg) 6 ((qz_im μ8 42 x0b x1.toNatClampNeg 6) + (qz_im μ8 42 x0b x1.toNatClampNeg 2))) (fun μ9 => (wz_wr (qz_wI μ9 (42, x0b, x1.toNatClampNeg) 2 (0 : Int32)) (fun μ10 => (k 1 ([some (.inr (.inr (some (10, x0b, 0)))), some (.inl (x1 + (1 : Int32))), some (.inr (.inr (some (42, x0b, x1.toNatClampNeg))))], [], μ10))))))))))))))))))))))) else (wz_wr (qz_wI μ (42, x0b, x1.toNatClampNeg) 6 ((qz_im μ 42 x0b x1.toNatClampNeg 6) + (qz_im μ 42 x0b x1.toNatClampNeg 2))) (fun μ11 => (wz_wr (qz_wI μ11 (42, x0b, x1.toNatClampNeg) 2 (0 : Int32)) (fun μ12 => (k 1 ([some (.inr (.inr (some (10, x0b, 0)))), some (.inl (x1 + (1 : Int32))), some (.inr (.inr (some (42, x0b, x1.toNatClampNeg))))], [], μ12))))))))))) :
    gb_8_1 k R (L, [], μ) := wz_fgd hL h
/- X0 closeDay -/
set_option maxRecDepth 10000 in
set_option maxHeartbeats 400000 in
theorem fw_4 (a0b : Nat) (μ : qz_M) (R : wz_R)
    (h : (wz_loop qb_4_1 65536 (wz_sk gc_4_6 wz_k0 R) R ([some (.inr (.inr (some (10, a0b, 0)))), some (.inl (0 : Int32)), some (.inl (0 : Int32)), none], [], μ))) :
    wz_call qf_4 [.inr (.inr (some (10, a0b, 0)))] μ R := wz_mt9 (L := [some (.inr (.inr (some (10, a0b, 0)))), none, none, none]) sw_4 rfl h
set_option maxRecDepth 10000 in
set_option maxHeartbeats 400000 in
theorem fc_4_6 (x0b : Nat) (x1 : Int32) (μ : qz_M) (k : wz_K) (R : wz_R) (L : qz_L) (hL : qz_fg [true, true, false, false] L = [some (.inr (.inr (some (10, x0b, 0)))), some (.inl x1), none, none])
    (h : (bif (!decide ((x1 * (qz_im μ 13 x0b 0 1)) = 0)) then (wz_wr (qz_wI μ (14, x0b, 0) 0 ((qz_im μ 14 x0b 0 0) - (x1 * (qz_im μ 13 x0b 0 1)))) (fun μ1 => (wz_wr (qz_wI μ1 (14, x0b, 0) 4 ((qz_im μ1 14 x0b 0 4) + (x1 * (qz_im μ 13 x0b 0 1)))) (fun μ2 => (bif pz_out ((qz_im μ2 11 x0b 0 12) - (qz_im μ2 11 x0b 0 12) / (60 : Int32) * (60 : Int32)) 60 then False else (wz_wr (qz_wI μ2 (53, x0b, ((qz_im μ2 11 x0b 0 12) - (qz_im μ2 11 x0b 0 12) / (60 : Int32) * (60 : Int32)).toNatClampNeg) 0 (0 : Int32)) (fun μ3 => (wz_wr (qz_wI μ3 (53, x0b, ((qz_im μ2 11 x0b 0 12) - (qz_im μ2 11 x0b 0 12) / (60 : Int32) * (60 : Int32)).toNatClampNeg) 1 (4 : Int32)) (fun μ4 => (wz_wr (qz_wI μ4 (53, x0b, ((qz_im μ2 11 x0b 0 12) - (qz_im μ2 11 x0b 0 12) / (60 : Int32) * (60 : Int32)).toNatClampNeg) 2 (x1 * (qz_im μ 13 x0b 0 1))) (fun μ5 => (wz_wr (qz_wI μ5 (53, x0b, ((qz_im μ2 11 x0b 0 12) - (qz_im μ2 11 x0b 0 12) / (60 : Int32) * (60 : Int32)).toNatClampNeg) 3 (-1 : Int32)) (fun μ6 => (wz_wr (qz_wI μ6 (53, x0b, ((qz_im μ2 11 x0b 0 12) - (qz_im μ2 11 x0b 0 12) / (60 : Int32) * (60 : Int32)).toNatClampNeg) 4 (qz_im μ6 11 x0b 0 13)) (fun μ7 => (wz_wr (qz_wI μ7 (11, x0b, 0) 12 ((qz_im μ7 11 x0b 0 12) + (1 : Int32))) (fun μ8 => (wz_loop qb_4_2 65536 (wz_sk gc_4_5 k R) R ([some (.inr (.inr (some (10, x0b, 0)))), some (.inl x1), some (.inl (0 : Int32)), none], [], μ8))))))))))))))))))) else (wz_loop qb_4_2 65536 (wz_sk gc_4_5 k R) R ([some (.inr (.inr (some (10, x0b, 0)))), some (.inl x1), some (.inl (0 : Int32)), none], [], μ)))) :
    gc_4_6 k R (L, [], μ) := wz_fgd hL h
set_option maxRecDepth 10000 in
set_option maxHeartbeats 400000 in
theorem fb_4_1 (x0b : Nat) (x1 : Int32) (x2 : Int32) (μ : qz_M) (k : wz_K) (R : wz_R) (L : qz_L) (hL : qz_fg [true, true, true, false] L = [some (.inr (.inr (some (10, x0b, 0)))), some (.inl x1), some (.inl x2), none])
    (h : (bif decide ((qz_im μ 11 x0b 0 2) ≤ x2) then (k 0 ([some (.inr (.inr (some (10, x0b, 0)))), some (.inl x1), some (.inl x2), none], [], μ)) else (bif pz_out x2 6 then False else (bif pz_out x2 6 then False else (wz_wr (qz_wI μ (43, x0b, x2.toNatClampNeg) 9 (0 : Int32)) (fun μ1 => (k 1 ([some (.inr (.inr (some (10, x0b, 0)))), some (.inl (x1 + (qz_im μ 43 x0b x2.toNatClampNeg 9))), some (.inl (x2 + (1 : Int32))), none], [], μ1)))))))) :
    gb_4_1 k R (L, [], μ) := wz_fgd hL h
set_option maxRecDepth 10000 in
set_option maxHeartbeats 400000 in
theorem fc_4_5 (x0b : Nat) (μ : qz_M) (k : wz_K) (R : wz_R) (L : qz_L) (hL : qz_fg [true, false, false, false] L = [some (.inr (.inr (some (10, x0b, 0)))), none, none, none])
    (h : (bif (!decide (((((qz_im μ 11 x0b 0 13) / (24 : Int32)) - (1 : Int32)) - (((qz_im μ 11 x0b 0 13) / (24 : Int32)) - (1 : Int32)) / (7 : Int32) * (7 : Int32)) = (6 : Int32))) then (wz_loop qb_4_3 65536 (wz_sk gc_4_4 k R) R ([some (.inr (.inr (some (10, x0b, 0)))), none, some (.inl (3 : Int32)), none], [], μ)) else (wz_cV qf_8 [.inr (.inr (some (10, x0b, 0)))] μ (fun μ1 => (wz_loop qb_4_3 65536 (wz_sk gc_4_4 k R) R ([some (.inr (.inr (some (10, x0b, 0)))), none, some (.inl (3 : Int32)), none], [], μ1))) (fun μ1 e => (R μ1 (.inr e)))))) :
    gc_4_5 k R (L, [], μ) := wz_fgd hL h
set_option maxRecDepth 10000 in
set_option maxHeartbeats 400000 in
theorem fb_4_2 (x0b : Nat) (x2 : Int32) (μ : qz_M) (k : wz_K) (R : wz_R) (L : qz_L) (hL : qz_fg [true, false, true, false] L = [some (.inr (.inr (some (10, x0b, 0)))), none, some (.inl x2), none])
    (h : (bif decide ((qz_im μ 11 x0b 0 10) ≤ x2) then (k 0 ([some (.inr (.inr (some (10, x0b, 0)))), none, some (.inl x2), none], [], μ)) else (bif pz_out x2 12 then False else (bif (!decide ((qz_im μ 54 x0b x2.toNatClampNeg 2) = 0)) then (k 1 ([some (.inr (.inr (some (10, x0b, 0)))), none, some (.inl (x2 + (1 : Int32))), none], [], μ)) else (bif pz_out x2 12 then False else (wz_cV qf_7 [.inr (.inr (some (10, x0b, 0))), .inr (.inr (some (54, x0b, x2.toNatClampNeg)))] μ (fun μ1 => (k 1 ([some (.inr (.inr (some (10, x0b, 0)))), none, some (.inl (x2 + (1 : Int32))), none], [], μ1))) (fun μ1 e => (R μ1 (.inr e))))))))) :
    gb_4_2 k R (L, [], μ) := wz_fgd hL h
set_option maxRecDepth 10000 in
set_option maxHeartbeats 400000 in
theorem fc_4_4  (μ : qz_M) (k : wz_K) (R : wz_R) (L : qz_L) (hL : qz_fg [false, false, false, false] L = [none, none, none, none])
    (h : (R μ (.inl none))) :
    gc_4_4 k R (L, [], μ) := wz_fgd hL h
set_option maxRecDepth 10000 in
set_option maxHeartbeats 400000 in
theorem fb_4_3 (x0b : Nat) (x2 : Int32) (μ : qz_M) (k : wz_K) (R : wz_R) (L : qz_L) (hL : qz_fg [true, false, true, false] L = [some (.inr (.inr (some (10, x0b, 0)))), none, some (.inl x2), none])
    (h : (bif decide ((8 : Int32) < x2) then (k 0 ([some (.inr (.inr (some (10, x0b, 0)))), none, some (.inl x2), none], [], μ)) else (bif pz_out x2 10 then False else (bif decide ((qz_im μ 14 x0b 0 x2.toNatClampNeg) ≤ 0) then (bif (!decide ((-(qz_im μ 14 x0b 0 x2.toNatClampNeg)) = 0)) then (wz_wr (qz_wI μ (14, x0b, 0) 9 ((qz_im μ 14 x0b 0 9) - (-(qz_im μ 14 x0b 0 x2.toNatClampNeg)))) (fun μ1 => (bif pz_out x2 10 then False else (bif pz_out x2 10 then False else (wz_wr (qz_wI μ1 (14, x0b, 0) x2.toNatClampNeg ((qz_im μ1 14 x0b 0 x2.toNatClampNeg) + (-(qz_im μ 14 x0b 0 x2.toNatClampNeg)))) (fun μ2 => (bif pz_out ((qz_im μ2 11 x0b 0 12) - (qz_im μ2 11 x0b 0 12) / (60 : Int32) * (60 : Int32)) 60 then False else (wz_wr (qz_wI μ2 (53, x0b, ((qz_im μ2 11 x0b 0 12) - (qz_im μ2 11 x0b 0 12) / (60 : Int32) * (60 : Int32)).toNatClampNeg) 0 (9 : Int32)) (fun μ3 => (wz_wr (qz_wI μ3 (53, x0b, ((qz_im μ2 11 x0b 0 12) - (qz_im μ2 11 x0b 0 12) / (60 : Int32) * (60 : Int32)).toNatClampNeg) 1 x2) (fun μ4 => (wz_wr (qz_wI μ4 (53, x0b, ((qz_im μ2 11 x0b 0 12) - (qz_im μ2 11 x0b 0 12) / (60 : Int32) * (60 : Int32)).toNatClampNeg) 2 (-(qz_im μ 14 x0b 0 x2.toNatClampNeg))) (fun μ5 => (wz_wr (qz_wI μ5 (53, x0b, ((qz_im μ2 11 x0b 0 12) - (qz_im μ2 11 x0b 0 12) / (60 : Int32) * (60 : Int32)).toNatClampNeg) 3 (-1 : Int32)) (fun μ6 => (wz_wr (qz_wI μ6 (53, x0b, ((qz_im μ2 11 x0b 0 12) - (qz_im μ2 11 x0b 0 12) / (60 : Int32) * (60 : Int32)).toNatClampNeg) 4 (qz_im μ6 11 x0b 0 13)) (fun μ7 => (wz_wr (qz_wI μ7 (11, x0b, 0) 12 ((qz_im μ7 11 x0b 0 12) + (1 : Int32))) (fun μ8 => (k 1 ([some (.inr (.inr (some (10, x0b, 0)))), none, some (.inl (x2 + (1 : Int32))), some (.inl (qz_im μ 14 x0b 0 x2.toNatClampNeg))], [], μ8))))))))))))))))))))) else (k 1 ([some (.inr (.inr (some (10, x0b, 0)))), none, some (.inl (x2 + (1 : Int32))), some (.inl (qz_im μ 14 x0b 0 x2.toNatClampNeg))], [], μ))) else (bif (!decide ((qz_im μ 14 x0b 0 x2.toNatClampNeg) = 0)) then (bif pz_out x2 10 then False else (bif pz_out x2 10 then False else (wz_wr (qz_wI μ (14, x0b, 0) x2.toNatClampNeg ((qz_im μ 14 x0b 0 x2.toNatClampNeg) - (qz_im μ 14 x0b 0 x2.toNatClampNeg))) (fun μ9 => (wz_wr (qz_wI μ9 (14, x0b, 0) 9 ((qz_im μ9 14 x0b 0 9) + (qz_im μ 14 x0b 0 x2.toNatClampNeg))) (fun μ10 => (bif pz_out ((qz_im μ10 11 x0b 0 12) - (qz_im μ10 11 x0b 0 12) / (60 : Int32) * (60 : Int32)) 60 then False else (wz_wr (qz_wI μ10 (53, x0b, ((qz_im μ10 11 x0b 0 12) - (qz_im μ10 11 x0b 0 12) / (60 : Int32) * (60 : Int32)).toNatClampNeg) 0 x2) (fun μ11 => (wz_wr (qz_wI μ11 (53, x0b, ((qz_im μ10 11 x0b 0 12) - (qz_im μ10 11 x0b 0 12) / (60 : Int32) * (60 : Int32)).toNatClampNeg) 1 (9 : Int32)) (fun μ12 => (wz_wr (qz_wI μ12 (53, x0b, ((qz_im μ10 11 x0b 0 12) - (qz_im μ10 11 x0b 0 12) / (60 : Int32) * (60 : Int32)).toNatClampNeg) 2 (qz_im μ 14 x0b 0 x2.toNatClampNeg)) (fun μ13 => (wz_wr (qz_wI μ13 (53, x0b, ((qz_im μ10 11 x0b 0 12) - (qz_im μ10 11 x0b 0 12) / (60 : Int32) * (60 : Int32)).toNatClampNeg) 3 (-1 : Int32)) (fun μ14 => (wz_wr (qz_wI μ14 (53, x0b, ((qz_im μ10 11 x0b 0 12) - (qz_im μ10 11 x0b 0 12) / (60 : Int32) * (60 : Int32)).toNatClampNeg) 4 (qz_im μ14 11 x0b 0 13)) (fun μ15 => (wz_wr (qz_wI μ15 (11, x0b, 0) 12 ((qz_im μ15 11 x0b 0 12) + (1 : Int32))) (fun μ16 => (k 1 ([some (.inr (.inr (some (10, x0b, 0)))), none, some (.inl (x2 + (1 : Int32))), some (.inl (qz_im μ 14 x0b 0 x2.toNatClampNeg))], [], μ16))))))))))))))))))))) else (k 1 ([some (.inr (.inr (some (10, x0b, 0)))), none, some (.inl (x2 + (1 : Int32))), some (.inl (qz_im μ 14 x0b 0 x2.toNatClampNeg))], [], μ))))))) :
    gb_4_3 k R (L, [], μ) := wz_fgd hL h
/- X0 enterSold -/
/- X1 addBuyer -/
/- X1 addOrder -/
/- X5 isFrom -/
/- X1 areSound -/
set_option maxRecDepth 10000 in
set_option maxHeartbeats 400000 in
theorem fw_13 (a0b : Nat) (μ : qz_M) (R : wz_R)
    (h : (wz_loop qb_13_3 65536 (wz_sk gc_13_8 wz_k0 R) R ([some (.inr (.inr (some (10, a0b, 0)))), some (.inl (1 : Int32)), some (.inl (0 : Int32)), none, none, none, none, none], [], μ))) :
    wz_call qf_13 [.inr (.inr (some (10, a0b, 0)))] μ R := wz_mt9 (L := [some (.inr (.inr (some (10, a0b, 0)))), none, none, none, none, none, none, none]) sw_13 rfl h
set_option maxRecDepth 10000 in
set_option maxHeartbeats 400000 in
theorem fc_13_8 (x0b : Nat) (x1 : Int32) (μ : qz_M) (k : wz_K) (R : wz_R) (L : qz_L) (hL : qz_fg [true, true, false, false, false, false, false, false] L = [some (.inr (.inr (some (10, x0b, 0)))), some (.inl x1), none, none, none, none, none, none])
    (h : (wz_loop qb_13_4 65536 (wz_sk gc_13_7 k R) R ([some (.inr (.inr (some (10, x0b, 0)))), some (.inl x1), some (.inl (0 : Int32)), none, none, none, none, none], [], μ))) :
    gc_13_8 k R (L, [], μ) := wz_fgd hL h
set_option maxRecDepth 10000 in
set_option maxHeartbeats 400000 in
theorem fb_13_3 (x0b : Nat) (x1 : Int32) (x2 : Int32) (μ : qz_M) (k : wz_K) (R : wz_R) (L : qz_L) (hL : qz_fg [true, true, true, false, false, false, false, false] L = [some (.inr (.inr (some (10, x0b, 0)))), some (.inl x1), some (.inl x2), none, none, none, none, none])
    (h : (bif decide ((qz_im μ 11 x0b 0 4) ≤ x2) then (k 0 ([some (.inr (.inr (some (10, x0b, 0)))), some (.inl x1), some (.inl x2), none, none, none, none, none], [], μ)) else (bif decide (x1 = 0) then (k 0 ([some (.inr (.inr (some (10, x0b, 0)))), some (.inl x1), some (.inl x2), none, none, none, none, none], [], μ)) else (bif pz_out x2 8 then False else (wz_loop qb_13_1 65536 (wz_sk gc_13_2 (wz_kb k) R) R ([some (.inr (.inr (some (10, x0b, 0)))), some (.inl x1), some (.inl x2), some (.inr (.inr (some (45, x0b, x2.toNatClampNeg)))), some (.inl (0 : Int32)), some (.inl (0 : Int32)), some (.inl (0 : Int32)), none], [], μ)))))) :
    gb_13_3 k R (L, [], μ) := wz_fgd hL h
set_option maxRecDepth 10000 in
set_option maxHeartbeats 400000 in
theorem fc_13_7 (x0b : Nat) (x1 : Int32) (μ : qz_M) (k : wz_K) (R : wz_R) (L : qz_L) (hL : qz_fg [true, true, false, false, false, false, false, false] L = [some (.inr (.inr (some (10, x0b, 0)))), some (.inl x1), none, none, none, none, none, none])
    (h : (wz_loop qb_13_5 65536 (wz_sk gc_13_6 k R) R ([some (.inr (.inr (some (10, x0b, 0)))), some (.inl x1), some (.inl (0 : Int32)), none, none, none, none, none], [], μ))) :
    gc_13_7 k R (L, [], μ) := wz_fgd hL h
set_option maxRecDepth 10000 in
set_option maxHeartbeats 400000 in
theorem fb_13_4 (x0b : Nat) (x1 : Int32) (x2 : Int32) (μ : qz_M) (k : wz_K) (R : wz_R) (L : qz_L) (hL : qz_fg [true, true, true, false, false, false, false, false] L = [some (.inr (.inr (some (10, x0b, 0)))), some (.inl x1), some (.inl x2), none, none, none, none, none])
    (h : (bif decide ((qz_im μ 11 x0b 0 6) ≤ x2) then (k 0 ([some (.inr (.inr (some (10, x0b, 0)))), some (.inl x1), some (.inl x2), none, none, none, none, none], [], μ)) else (bif decide (x1 = 0) then (k 0 ([some (.inr (.inr (some (10, x0b, 0)))), some (.inl x1), some (.inl x2), none, none, none, none, none], [], μ)) else (bif pz_out x2 60 then False else (bif (!decide ((qz_im μ 47 x0b x2.toNatClampNeg 9) = (3 : Int32))) then (bif decide ((qz_im μ 47 x0b x2.toNatClampNeg 19) < (0 : Int32)) then (k 1 ([some (.inr (.inr (some (10, x0b, 0)))), some (.inl (0 : Int32)), some (.inl (x2 + (1 : Int32))), some (.inr (.inr (some (47, x0b, x2.toNatClampNeg)))), some (.inl (qz_im μ 47 x0b x2.toNatClampNeg 18)), none, none, none], [], μ)) else (bif decide ((qz_im μ 47 x0b x2.toNatClampNeg 18) < (qz_im μ 47 x0b x2.toNatClampNeg 19)) then (k 1 ([some (.inr (.inr (some (10, x0b, 0)))), some (.inl (0 : Int32)), some (.inl (x2 + (1 : Int32))), some (.inr (.inr (some (47, x0b, x2.toNatClampNeg)))), some (.inl (qz_im μ 47 x0b x2.toNatClampNeg 18)), none, none, none], [], μ)) else (k 1 ([some (.inr (.inr (some (10, x0b, 0)))), some (.inl (1 : Int32)), some (.inl (x2 + (1 : Int32))), some (.inr (.inr (some (47, x0b, x2.toNatClampNeg)))), some (.inl (qz_im μ 47 x0b x2.toNatClampNeg 18)), none, none, none], [], μ)))) else (bif decide ((qz_im μ 47 x0b x2.toNatClampNeg 19) < (0 : Int32)) then (k 1 ([some (.inr (.inr (some (10, x0b, 0)))), some (.inl (0 : Int32)), some (.inl (x2 + (1 : Int32))), some (.inr (.inr (some (47, x0b, x2.toNatClampNeg)))), some (.inl (0 : Int32)), none, none, none], [], μ)) else (bif decide ((0 : Int32) < (qz_im μ 47 x0b x2.toNatClampNeg 19)) then (k 1 ([some (.inr (.inr (some (10, x0b, 0)))), some (.inl (0 : Int32)), some (.inl (x2 + (1 : Int32))), some (.inr (.inr (some (47, x0b, x2.toNatClampNeg)))), some (.inl (0 : Int32)), none, none, none], [], μ)) else (k 1 ([some (.inr (.inr (some (10, x0b, 0)))), some (.inl (1 : Int32)), some (.inl (x2 + (1 : Int32))), some (.inr (.inr (some (47, x0b, x2.toNatClampNeg)))), some (.inl (0 : Int32)), none, none, none], [], μ))))))))) :
    gb_13_4 k R (L, [], μ) := wz_fgd hL h
set_option maxRecDepth 10000 in
set_option maxHeartbeats 400000 in
theorem fc_13_6 (x1 : Int32) (μ : qz_M) (k : wz_K) (R : wz_R) (L : qz_L) (hL : qz_fg [false, true, false, false, false, false, false, false] L = [none, some (.inl x1), none, none, none, none, none, none])
    (h : (bif decide (x1 = 0) || decide (x1 = 1) then (R μ (.inl (some (.inl x1)))) else False)) :
    gc_13_6 k R (L, [], μ) := wz_fgd hL h
set_option maxRecDepth 10000 in
set_option maxHeartbeats 400000 in
theorem fb_13_5 (x0b : Nat) (x1 : Int32) (x2 : Int32) (μ : qz_M) (k : wz_K) (R : wz_R) (L : qz_L) (hL : qz_fg [true, true, true, false, false, false, false, false] L = [some (.inr (.inr (some (10, x0b, 0)))), some (.inl x1), some (.inl x2), none, none, none, none, none])
    (h : (bif decide ((qz_im μ 11 x0b 0 5) ≤ x2) then (k 0 ([some (.inr (.inr (some (10, x0b, 0)))), some (.inl x1), some (.inl x2), none, none, none, none, none], [], μ)) else (bif decide (x1 = 0) then (k 0 ([some (.inr (.inr (some (10, x0b, 0)))), some (.inl x1), some (.inl x2), none, none, none, none, none], [], μ)) else (bif pz_out x2 24 then False else (bif (!decide ((qz_im μ 46 x0b x2.toNatClampNeg 7) = (1 : Int32))) then (bif decide ((qz_im μ 46 x0b x2.toNatClampNeg 6) < (0 : Int32)) then (k 1 ([some (.inr (.inr (some (10, x0b, 0)))), some (.inl (0 : Int32)), some (.inl (x2 + (1 : Int32))), some (.inr (.inr (some (46, x0b, x2.toNatClampNeg)))), some (.inl (qz_im μ 46 x0b x2.toNatClampNeg 3)), none, none, none], [], μ)) else (bif decide ((qz_im μ 46 x0b x2.toNatClampNeg 3) < (qz_im μ 46 x0b x2.toNatClampNeg 6)) then (k 1 ([some (.inr (.inr (some (10, x0b, 0)))), some (.inl (0 : Int32)), some (.inl (x2 + (1 : Int32))), some (.inr (.inr (some (46, x0b, x2.toNatClampNeg)))), some (.inl (qz_im μ 46 x0b x2.toNatClampNeg 3)), none, none, none], [], μ)) else (k 1 ([some (.inr (.inr (some (10, x0b, 0)))), some (.inl (1 : Int32)), some (.inl (x2 + (1 : Int32))), some (.inr (.inr (some (46, x0b, x2.toNatClampNeg)))), some (.inl (qz_im μ 46 x0b x2.toNatClampNeg 3)), none, none, none], [], μ)))) else (bif decide ((qz_im μ 46 x0b x2.toNatClampNeg 6) < (0 : Int32)) then (k 1 ([some (.inr (.inr (some (10, x0b, 0)))), some (.inl (0 : Int32)), some (.inl (x2 + (1 : Int32))), some (.inr (.inr (some (46, x0b, x2.toNatClampNeg)))), some (.inl (0 : Int32)), none, none, none], [], μ)) else (bif decide ((0 : Int32) < (qz_im μ 46 x0b x2.toNatClampNeg 6)) then (k 1 ([some (.inr (.inr (some (10, x0b, 0)))), some (.inl (0 : Int32)), some (.inl (x2 + (1 : Int32))), some (.inr (.inr (some (46, x0b, x2.toNatClampNeg)))), some (.inl (0 : Int32)), none, none, none], [], μ)) else (k 1 ([some (.inr (.inr (some (10, x0b, 0)))), some (.inl (1 : Int32)), some (.inl (x2 + (1 : Int32))), some (.inr (.inr (some (46, x0b, x2.toNatClampNeg)))), some (.inl (0 : Int32)), none, none, none], [], μ))))))))) :
    gb_13_5 k R (L, [], μ) := wz_fgd hL h
/- X6 isToday -/
/- X1 asks -/
/- X1 cancelFault -/
/- X1 cancelOrder -/
/- X1 payBillsOf -/
/- X1 closeDay -/
set_option maxRecDepth 10000 in
set_option maxHeartbeats 400000 in
theorem fw_17 (a0b : Nat) (μ : qz_M) (R : wz_R)
    (h : (wz_loop qb_17_3 65536 (wz_sk gc_17_6 wz_k0 R) R ([some (.inr (.inr (some (10, a0b, 0)))), some (.inl (((qz_im μ 11 a0b 0 13) / (24 : Int32)) - (1 : Int32))), some (.inl (0 : Int32)), none], [], μ))) :
    wz_call qf_17 [.inr (.inr (some (10, a0b, 0)))] μ R := wz_mt9 (L := [some (.inr (.inr (some (10, a0b, 0)))), none, none, none]) sw_17 rfl h
set_option maxRecDepth 10000 in
set_option maxHeartbeats 400000 in
theorem fc_17_6 (x0b : Nat) (μ : qz_M) (k : wz_K) (R : wz_R) (L : qz_L) (hL : qz_fg [true, false, false, false] L = [some (.inr (.inr (some (10, x0b, 0)))), none, none, none])
    (h : (wz_loop qb_17_4 65536 (wz_sk gc_17_5 k R) R ([some (.inr (.inr (some (10, x0b, 0)))), none, some (.inl (0 : Int32)), none], [], μ))) :
    gc_17_6 k R (L, [], μ) := wz_fgd hL h
set_option maxRecDepth 10000 in
set_option maxHeartbeats 400000 in
theorem fb_17_3 (x0b : Nat) (x1 : Int32) (x2 : Int32) (μ : qz_M) (k : wz_K) (R : wz_R) (L : qz_L) (hL : qz_fg [true, true, true, false] L = [some (.inr (.inr (some (10, x0b, 0)))), some (.inl x1), some (.inl x2), none])
    (h : (bif decide ((qz_im μ 11 x0b 0 4) ≤ x2) then (k 0 ([some (.inr (.inr (some (10, x0b, 0)))), some (.inl x1), some (.inl x2), none], [], μ)) else (bif pz_out x2 8 then False else (wz_wr (qz_wI μ (45, x0b, x2.toNatClampNeg) 7 (0 : Int32)) (fun μ1 => (wz_loop qb_17_1 65536 (wz_sk gc_17_2 (wz_kb k) R) R ([some (.inr (.inr (some (10, x0b, 0)))), some (.inl x1), some (.inl x2), some (.inl (0 : Int32))], [], μ1))))))) :
    gb_17_3 k R (L, [], μ) := wz_fgd hL h
set_option maxRecDepth 10000 in
set_option maxHeartbeats 400000 in
theorem fc_17_5  (μ : qz_M) (k : wz_K) (R : wz_R) (L : qz_L) (hL : qz_fg [false, false, false, false] L = [none, none, none, none])
    (h : (R μ (.inl none))) :
    gc_17_5 k R (L, [], μ) := wz_fgd hL h
set_option maxRecDepth 10000 in
set_option maxHeartbeats 400000 in
theorem fb_17_4 (x0b : Nat) (x2 : Int32) (μ : qz_M) (k : wz_K) (R : wz_R) (L : qz_L) (hL : qz_fg [true, false, true, false] L = [some (.inr (.inr (some (10, x0b, 0)))), none, some (.inl x2), none])
    (h : (bif decide ((qz_im μ 11 x0b 0 5) ≤ x2) then (k 0 ([some (.inr (.inr (some (10, x0b, 0)))), none, some (.inl x2), none], [], μ)) else (bif pz_out x2 24 then False else (bif (!decide ((qz_im μ 46 x0b x2.toNatClampNeg 7) = 0)) then (k 1 ([some (.inr (.inr (some (10, x0b, 0)))), none, some (.inl (x2 + (1 : Int32))), some (.inr (.inr (some (46, x0b, x2.toNatClampNeg))))], [], μ)) else (bif (!decide ((((qz_im μ 46 x0b x2.toNatClampNeg 5) >>> ((((qz_im μ 11 x0b 0 13) / (24 : Int32)) - ((qz_im μ 11 x0b 0 13) / (24 : Int32)) / (7 : Int32) * (7 : Int32)) &&& 31)) &&& (1 : Int32)) = (1 : Int32))) then (k 1 ([some (.inr (.inr (some (10, x0b, 0)))), none, some (.inl (x2 + (1 : Int32))), some (.inr (.inr (some (46, x0b, x2.toNatClampNeg))))], [], μ)) else (wz_wr (qz_wI μ (46, x0b, x2.toNatClampNeg) 6 (qz_im μ 46 x0b x2.toNatClampNeg 3)) (fun μ1 => (k 1 ([some (.inr (.inr (some (10, x0b, 0)))), none, some (.inl (x2 + (1 : Int32))), some (.inr (.inr (some (46, x0b, x2.toNatClampNeg))))], [], μ1))))))))) :
    gb_17_4 k R (L, [], μ) := wz_fgd hL h
/- X1 come -/
/- X1 cratesGiven -/
set_option maxRecDepth 10000 in
set_option maxHeartbeats 400000 in
theorem fw_19 (a0b : Nat) (μ : qz_M) (R : wz_R)
    (h : (wz_loop qb_19_1 65536 (wz_sk gc_19_2 wz_k0 R) R ([some (.inr (.inr (some (10, a0b, 0)))), some (.inr (.inr (some (69, 0, 0)))), some (.inl (0 : Int32)), some (.inl (0 : Int32))], [], μ))) :
    wz_call qf_19 [.inr (.inr (some (10, a0b, 0))), .inr (.inr (some (69, 0, 0)))] μ R := wz_mt9 (L := [some (.inr (.inr (some (10, a0b, 0)))), some (.inr (.inr (some (69, 0, 0)))), none, none]) sw_19 rfl h
set_option maxRecDepth 10000 in
set_option maxHeartbeats 400000 in
theorem fc_19_2 (x2 : Int32) (μ : qz_M) (k : wz_K) (R : wz_R) (L : qz_L) (hL : qz_fg [false, false, true, false] L = [none, none, some (.inl x2), none])
    (h : (R μ (.inl (some (.inl x2))))) :
    gc_19_2 k R (L, [], μ) := wz_fgd hL h
set_option maxRecDepth 10000 in
set_option maxHeartbeats 400000 in
theorem fb_19_1 (x0b : Nat) (x2 : Int32) (x3 : Int32) (μ : qz_M) (k : wz_K) (R : wz_R) (L : qz_L) (hL : qz_fg [true, true, true, true] L = [some (.inr (.inr (some (10, x0b, 0)))), some (.inr (.inr (some (69, 0, 0)))), some (.inl x2), some (.inl x3)])
    (h : (bif decide ((qz_im μ 11 x0b 0 5) ≤ x3) then (k 0 ([some (.inr (.inr (some (10, x0b, 0)))), some (.inr (.inr (some (69, 0, 0)))), some (.inl x2), some (.inl x3)], [], μ)) else (bif pz_out x3 24 then False else (k 1 ([some (.inr (.inr (some (10, x0b, 0)))), some (.inr (.inr (some (69, 0, 0)))), some (.inl (x2 + (qz_im μ 69 0 0 x3.toNatClampNeg))), some (.inl (x3 + (1 : Int32)))], [], μ))))) :
    gb_19_1 k R (L, [], μ) := wz_fgd hL h
/- X1 enterLost -/
/- X1 findSupply -/
set_option maxRecDepth 10000 in
set_option maxHeartbeats 400000 in
theorem fw_22 (a0b : Nat) (a1 : qz_R) (μ : qz_M) (R : wz_R)
    (h : (wz_loop qb_22_3 65536 (wz_sk gc_22_4 wz_k0 R) R ([some (.inr (.inr (some (10, a0b, 0)))), some (.inr (.inr (some a1))), some (.inl (0 : Int32)), none, none, none], [], μ))) :
    wz_call qf_22 [.inr (.inr (some (10, a0b, 0))), .inr (.inr (some a1))] μ R := wz_mt9 (L := [some (.inr (.inr (some (10, a0b, 0)))), some (.inr (.inr (some a1))), none, none, none, none]) sw_22 rfl h
set_option maxRecDepth 10000 in
set_option maxHeartbeats 400000 in
theorem fc_22_4  (μ : qz_M) (k : wz_K) (R : wz_R) (L : qz_L) (hL : qz_fg [false, false, false, false, false, false] L = [none, none, none, none, none, none])
    (h : (R μ (.inl none))) :
    gc_22_4 k R (L, [], μ) := wz_fgd hL h
set_option maxRecDepth 10000 in
set_option maxHeartbeats 400000 in
theorem fb_22_3 (x0b : Nat) (x1 : qz_R) (x2 : Int32) (μ : qz_M) (k : wz_K) (R : wz_R) (L : qz_L) (hL : qz_fg [true, true, true, false, false, false] L = [some (.inr (.inr (some (10, x0b, 0)))), some (.inr (.inr (some x1))), some (.inl x2), none, none, none])
    (h : (bif decide ((qz_im μ 11 x0b 0 3) ≤ x2) then (k 0 ([some (.inr (.inr (some (10, x0b, 0)))), some (.inr (.inr (some x1))), some (.inl x2), none, none, none], [], μ)) else (bif pz_out x2 48 then False else (bif (!decide ((qz_im μ 44 x0b x2.toNatClampNeg 9) = (-1 : Int32))) then (wz_loop qb_22_1 65536 (wz_sk gc_22_2 (wz_kb k) R) R ([some (.inr (.inr (some (10, x0b, 0)))), some (.inr (.inr (some x1))), some (.inl x2), some (.inr (.inr (some (44, x0b, x2.toNatClampNeg)))), some (.inl (qz_im μ 44 x0b x2.toNatClampNeg 9)), some (.inl (qz_im μ 44 x0b x2.toNatClampNeg 9))], [], μ)) else (wz_loop qb_22_1 65536 (wz_sk gc_22_2 (wz_kb k) R) R ([some (.inr (.inr (some (10, x0b, 0)))), some (.inr (.inr (some x1))), some (.inl x2), some (.inr (.inr (some (44, x0b, x2.toNatClampNeg)))), some (.inl (4 : Int32)), some (.inl (4 : Int32))], [], μ)))))) :
    gb_22_3 k R (L, [], μ) := wz_fgd hL h
/- X1 nextToFill -/
set_option maxRecDepth 10000 in
set_option maxHeartbeats 400000 in
theorem fw_29 (a0b : Nat) (μ : qz_M) (R : wz_R)
    (h : (wz_loop qb_29_1 65536 (wz_sk gc_29_2 wz_k0 R) R ([some (.inr (.inr (some (10, a0b, 0)))), some (.inr (.inr (some (69, 0, 0)))), some (.inl (-1 : Int32)), some (.inl (0 : Int32))], [], μ))) :
    wz_call qf_29 [.inr (.inr (some (10, a0b, 0))), .inr (.inr (some (69, 0, 0)))] μ R := wz_mt9 (L := [some (.inr (.inr (some (10, a0b, 0)))), some (.inr (.inr (some (69, 0, 0)))), none, none]) sw_29 rfl h
set_option maxRecDepth 10000 in
set_option maxHeartbeats 400000 in
theorem fc_29_2 (x2 : Int32) (μ : qz_M) (k : wz_K) (R : wz_R) (L : qz_L) (hL : qz_fg [false, false, true, false] L = [none, none, some (.inl x2), none])
    (h : (R μ (.inl (some (.inl x2))))) :
    gc_29_2 k R (L, [], μ) := wz_fgd hL h
set_option maxRecDepth 10000 in
set_option maxHeartbeats 400000 in
theorem fb_29_1 (x0b : Nat) (x2 : Int32) (x3 : Int32) (μ : qz_M) (k : wz_K) (R : wz_R) (L : qz_L) (hL : qz_fg [true, true, true, true] L = [some (.inr (.inr (some (10, x0b, 0)))), some (.inr (.inr (some (69, 0, 0)))), some (.inl x2), some (.inl x3)])
    (h : (bif decide ((qz_im μ 11 x0b 0 5) ≤ x3) then (k 0 ([some (.inr (.inr (some (10, x0b, 0)))), some (.inr (.inr (some (69, 0, 0)))), some (.inl x2), some (.inl x3)], [], μ)) else (bif pz_out x3 24 then False else (bif (!decide ((qz_im μ 69 0 0 x3.toNatClampNeg) = (-1 : Int32))) then (k 1 ([some (.inr (.inr (some (10, x0b, 0)))), some (.inr (.inr (some (69, 0, 0)))), some (.inl x2), some (.inl (x3 + (1 : Int32)))], [], μ)) else (bif decide (x2 = (-1 : Int32)) then (k 1 ([some (.inr (.inr (some (10, x0b, 0)))), some (.inr (.inr (some (69, 0, 0)))), some (.inl x3), some (.inl (x3 + (1 : Int32)))], [], μ)) else (bif pz_out x3 24 then False else (bif pz_out x2 24 then False else (bif decide ((qz_im μ 46 x0b x3.toNatClampNeg 4) ≤ (qz_im μ 46 x0b x2.toNatClampNeg 4)) then (k 1 ([some (.inr (.inr (some (10, x0b, 0)))), some (.inr (.inr (some (69, 0, 0)))), some (.inl x2), some (.inl (x3 + (1 : Int32)))], [], μ)) else (k 1 ([some (.inr (.inr (some (10, x0b, 0)))), some (.inr (.inr (some (69, 0, 0)))), some (.inl x3), some (.inl (x3 + (1 : Int32)))], [], μ)))))))))) :
    gb_29_1 k R (L, [], μ) := wz_fgd hL h
/- X1 giveFrom -/
/- X1 fill -/
set_option maxRecDepth 10000 in
set_option maxHeartbeats 400000 in
theorem fw_21 (a0b : Nat) (μ : qz_M) (R : wz_R)
    (h : (wz_wr (qz_al μ 50 1 20 1 20) (fun μ1 => (wz_cV qf_22 [.inr (.inr (some (10, a0b, 0))), .inr (.inr (some (200, (qz_na μ), 0)))] μ1 (fun μ2 => (wz_loop qb_21_1 65536 (wz_sk gc_21_4 wz_k0 R) R ([some (.inr (.inr (some (10, a0b, 0)))), some (.inr (.inr (some (69, 0, 0)))), some (.inr (.inr (some (200, (qz_na μ), 0)))), some (.inl (0 : Int32)), none, none], [], μ2))) (fun μ2 e => (R μ2 (.inr e))))))) :
    wz_call qf_21 [.inr (.inr (some (10, a0b, 0))), .inr (.inr (some (69, 0, 0)))] μ R := wz_mt9 (L := [some (.inr (.inr (some (10, a0b, 0)))), some (.inr (.inr (some (69, 0, 0)))), none, none, none, none]) sw_21 rfl h
set_option maxRecDepth 10000 in
set_option maxHeartbeats 400000 in
theorem fc_21_4 (x0b : Nat) (x2 : Nat) (μ : qz_M) (k : wz_K) (R : wz_R) (L : qz_L) (hL : qz_fg [true, true, true, false, false, false] L = [some (.inr (.inr (some (10, x0b, 0)))), some (.inr (.inr (some (69, 0, 0)))), some (.inr (.inr (some (200, x2, 0)))), none, none, none])
    (h : (wz_loop qb_21_2 65536 (wz_sk gc_21_3 k R) R ([some (.inr (.inr (some (10, x0b, 0)))), some (.inr (.inr (some (69, 0, 0)))), some (.inr (.inr (some (200, x2, 0)))), some (.inl (0 : Int32)), some (.inl (0 : Int32)), none], [], μ))) :
    gc_21_4 k R (L, [], μ) := wz_fgd hL h
set_option maxRecDepth 10000 in
set_option maxHeartbeats 400000 in
theorem fb_21_1 (x0b : Nat) (x2 : Nat) (x3 : Int32) (μ : qz_M) (k : wz_K) (R : wz_R) (L : qz_L) (hL : qz_fg [true, true, true, true, false, false] L = [some (.inr (.inr (some (10, x0b, 0)))), some (.inr (.inr (some (69, 0, 0)))), some (.inr (.inr (some (200, x2, 0)))), some (.inl x3), none, none])
    (h : (bif decide ((24 : Int32) ≤ x3) then (k 0 ([some (.inr (.inr (some (10, x0b, 0)))), some (.inr (.inr (some (69, 0, 0)))), some (.inr (.inr (some (200, x2, 0)))), some (.inl x3), none, none], [], μ)) else (bif decide ((qz_im μ 11 x0b 0 5) ≤ x3) then (bif pz_out x3 24 then False else (wz_wr (qz_wI μ (69, 0, 0) x3.toNatClampNeg (0 : Int32)) (fun μ1 => (k 1 ([some (.inr (.inr (some (10, x0b, 0)))), some (.inr (.inr (some (69, 0, 0)))), some (.inr (.inr (some (200, x2, 0)))), some (.inl (x3 + (1 : Int32))), none, none], [], μ1))))) else (bif pz_out x3 24 then False else (wz_cI qf_14 [.inr (.inr (some (10, x0b, 0))), .inr (.inr (some (46, x0b, x3.toNatClampNeg)))] μ (fun μ2 v3 => (bif decide (v3 = 0) then (bif pz_out x3 24 then False else (wz_wr (qz_wI μ2 (69, 0, 0) x3.toNatClampNeg (0 : Int32)) (fun μ4 => (k 1 ([some (.inr (.inr (some (10, x0b, 0)))), some (.inr (.inr (some (69, 0, 0)))), some (.inr (.inr (some (200, x2, 0)))), some (.inl (x3 + (1 : Int32))), none, none], [], μ4))))) else (bif pz_out x3 24 then False else (wz_wr (qz_wI μ2 (69, 0, 0) x3.toNatClampNeg (-1 : Int32)) (fun μ5 => (k 1 ([some (.inr (.inr (some (10, x0b, 0)))), some (.inr (.inr (some (69, 0, 0)))), some (.inr (.inr (some (200, x2, 0)))), some (.inl (x3 + (1 : Int32))), none, none], [], μ5))))))) (fun μ2 e => (R μ2 (.inr e)))))))) :
    gb_21_1 k R (L, [], μ) := wz_fgd hL h
set_option maxRecDepth 10000 in
set_option maxHeartbeats 400000 in
theorem fc_21_3 (x3 : Int32) (μ : qz_M) (k : wz_K) (R : wz_R) (L : qz_L) (hL : qz_fg [false, false, false, true, false, false] L = [none, none, none, some (.inl x3), none, none])
    (h : (R μ (.inl (some (.inl x3))))) :
    gc_21_3 k R (L, [], μ) := wz_fgd hL h
set_option maxRecDepth 10000 in
set_option maxHeartbeats 400000 in
theorem fb_21_2 (x0b : Nat) (x2 : Nat) (x3 : Int32) (x4 : Int32) (μ : qz_M) (k : wz_K) (R : wz_R) (L : qz_L) (hL : qz_fg [true, true, true, true, true, false] L = [some (.inr (.inr (some (10, x0b, 0)))), some (.inr (.inr (some (69, 0, 0)))), some (.inr (.inr (some (200, x2, 0)))), some (.inl x3), some (.inl x4), none])
    (h : (bif decide ((24 : Int32) ≤ x4) then (k 0 ([some (.inr (.inr (some (10, x0b, 0)))), some (.inr (.inr (some (69, 0, 0)))), some (.inr (.inr (some (200, x2, 0)))), some (.inl x3), some (.inl x4), none], [], μ)) else (wz_cI qf_29 [.inr (.inr (some (10, x0b, 0))), .inr (.inr (some (69, 0, 0)))] μ (fun μ1 v2 => (bif decide (v2 = (-1 : Int32)) then (k 1 ([some (.inr (.inr (some (10, x0b, 0)))), some (.inr (.inr (some (69, 0, 0)))), some (.inr (.inr (some (200, x2, 0)))), some (.inl x3), some (.inl (x4 + (1 : Int32))), some (.inl v2)], [], μ1)) else (bif pz_out v2 24 then False else (wz_cI qf_24 [.inr (.inr (some (200, x2, 0))), .inr (.inr (some (46, x0b, v2.toNatClampNeg)))] μ1 (fun μ3 v4 => (bif pz_out v2 24 then False else (wz_wr (qz_wI μ3 (69, 0, 0) v2.toNatClampNeg v4) (fun μ5 => (bif pz_out v2 24 then False else (bif pz_out v2 24 then False else (k 1 ([some (.inr (.inr (some (10, x0b, 0)))), some (.inr (.inr (some (69, 0, 0)))), some (.inr (.inr (some (200, x2, 0)))), some (.inl (x3 + ((qz_im μ5 69 0 0 v2.toNatClampNeg) * (qz_im μ5 46 x0b v2.toNatClampNeg 4)))), some (.inl (x4 + (1 : Int32))), some (.inl v2)], [], μ5)))))))) (fun μ3 e => (R μ3 (.inr e))))))) (fun μ1 e => (R μ1 (.inr e)))))) :
    gb_21_2 k R (L, [], μ) := wz_fgd hL h
