/-! what the methods ask, 1 -/
/- X0 addQuarrel -/
/- X0 areSound -/
set_option maxRecDepth 10000 in
set_option maxHeartbeats 400000 in
theorem fw_1 (a0b : Nat) (μ : qz_M) (R : wz_R)
    (h : (wz_loop qb_1_1 65536 (wz_sk gc_1_12 wz_k0 R) R ([some (.inr (.inr (some (10, a0b, 0)))), some (.inl (0 : Int32)), some (.inl (0 : Int32)), none, none, none, none, none, none, none], [], μ))) :
    wz_call qf_1 [.inr (.inr (some (10, a0b, 0)))] μ R := wz_mt9 (L := [some (.inr (.inr (some (10, a0b, 0)))), none, none, none, none, none, none, none, none, none]) sw_1 rfl h
set_option maxRecDepth 10000 in
set_option maxHeartbeats 400000 in
theorem fc_1_12 (x0b : Nat) (x1 : Int32) (μ : qz_M) (k : wz_K) (R : wz_R) (L : qz_L) (hL : qz_fg [true, true, false, false, false, false, false, false, false, false] L = [some (.inr (.inr (some (10, x0b, 0)))), some (.inl x1), none, none, none, none, none, none, none, none])
    (h : (wz_loop qb_1_2 65536 (wz_sk gc_1_11 k R) R ([some (.inr (.inr (some (10, x0b, 0)))), some (.inl x1), some (.inl (0 : Int32)), some (.inl (0 : Int32)), none, none, none, none, none, none], [], μ))) :
    gc_1_12 k R (L, [], μ) := wz_fgd hL h
set_option maxRecDepth 10000 in
set_option maxHeartbeats 400000 in
theorem fb_1_1 (x0b : Nat) (x1 : Int32) (x2 : Int32) (μ : qz_M) (k : wz_K) (R : wz_R) (L : qz_L) (hL : qz_fg [true, true, true, false, false, false, false, false, false, false] L = [some (.inr (.inr (some (10, x0b, 0)))), some (.inl x1), some (.inl x2), none, none, none, none, none, none, none])
    (h : (bif decide ((9 : Int32) < x2) then (k 0 ([some (.inr (.inr (some (10, x0b, 0)))), some (.inl x1), some (.inl x2), none, none, none, none, none, none, none], [], μ)) else (bif pz_out x2 10 then False else (k 1 ([some (.inr (.inr (some (10, x0b, 0)))), some (.inl (x1 + (qz_im μ 14 x0b 0 x2.toNatClampNeg))), some (.inl (x2 + (1 : Int32))), none, none, none, none, none, none, none], [], μ))))) :
    gb_1_1 k R (L, [], μ) := wz_fgd hL h
set_option maxRecDepth 10000 in
set_option maxHeartbeats 400000 in
theorem fc_1_11 (x0b : Nat) (x1 : Int32) (x2 : Int32) (μ : qz_M) (k : wz_K) (R : wz_R) (L : qz_L) (hL : qz_fg [true, true, true, false, false, false, false, false, false, false] L = [some (.inr (.inr (some (10, x0b, 0)))), some (.inl x1), some (.inl x2), none, none, none, none, none, none, none])
    (h : (wz_loop qb_1_3 65536 (wz_sk gc_1_10 k R) R ([some (.inr (.inr (some (10, x0b, 0)))), some (.inl x1), some (.inl x2), some (.inl (0 : Int32)), none, none, none, none, none, none], [], μ))) :
    gc_1_11 k R (L, [], μ) := wz_fgd hL h
set_option maxRecDepth 10000 in
set_option maxHeartbeats 400000 in
theorem fb_1_2 (x0b : Nat) (x1 : Int32) (x2 : Int32) (x3 : Int32) (μ : qz_M) (k : wz_K) (R : wz_R) (L : qz_L) (hL : qz_fg [true, true, true, true, false, false, false, false, false, false] L = [some (.inr (.inr (some (10, x0b, 0)))), some (.inl x1), some (.inl x2), some (.inl x3), none, none, none, none, none, none])
    (h : (bif decide ((qz_im μ 11 x0b 0 6) ≤ x3) then (k 0 ([some (.inr (.inr (some (10, x0b, 0)))), some (.inl x1), some (.inl x2), some (.inl x3), none, none, none, none, none, none], [], μ)) else (bif pz_out x3 60 then False else (k 1 ([some (.inr (.inr (some (10, x0b, 0)))), some (.inl x1), some (.inl (x2 + (qz_im μ 47 x0b x3.toNatClampNeg 19))), some (.inl (x3 + (1 : Int32))), none, none, none, none, none, none], [], μ))))) :
    gb_1_2 k R (L, [], μ) := wz_fgd hL h
set_option maxRecDepth 10000 in
set_option maxHeartbeats 400000 in
theorem fc_1_10 (x0b : Nat) (x1 : Int32) (x2 : Int32) (μ : qz_M) (k : wz_K) (R : wz_R) (L : qz_L) (hL : qz_fg [true, true, true, false, false, false, false, false, false, false] L = [some (.inr (.inr (some (10, x0b, 0)))), some (.inl x1), some (.inl x2), none, none, none, none, none, none, none])
    (h : (wz_loop qb_1_4 65536 (wz_sk gc_1_9 k R) R ([some (.inr (.inr (some (10, x0b, 0)))), some (.inl x1), some (.inl x2), some (.inl (0 : Int32)), some (.inl (0 : Int32)), none, none, none, none, none], [], μ))) :
    gc_1_10 k R (L, [], μ) := wz_fgd hL h
set_option maxRecDepth 10000 in
set_option maxHeartbeats 400000 in
theorem fb_1_3 (x0b : Nat) (x1 : Int32) (x2 : Int32) (x3 : Int32) (μ : qz_M) (k : wz_K) (R : wz_R) (L : qz_L) (hL : qz_fg [true, true, true, true, false, false, false, false, false, false] L = [some (.inr (.inr (some (10, x0b, 0)))), some (.inl x1), some (.inl x2), some (.inl x3), none, none, none, none, none, none])
    (h : (bif decide ((qz_im μ 11 x0b 0 4) ≤ x3) then (k 0 ([some (.inr (.inr (some (10, x0b, 0)))), some (.inl x1), some (.inl x2), some (.inl x3), none, none, none, none, none, none], [], μ)) else (bif pz_out x3 8 then False else (k 1 ([some (.inr (.inr (some (10, x0b, 0)))), some (.inl x1), some (.inl (x2 - (qz_im μ 45 x0b x3.toNatClampNeg 3))), some (.inl (x3 + (1 : Int32))), none, none, none, none, none, none], [], μ))))) :
    gb_1_3 k R (L, [], μ) := wz_fgd hL h
set_option maxRecDepth 10000 in
set_option maxHeartbeats 400000 in
theorem fc_1_9 (x0b : Nat) (x1 : Int32) (x2 : Int32) (x3 : Int32) (μ : qz_M) (k : wz_K) (R : wz_R) (L : qz_L) (hL : qz_fg [true, true, true, true, false, false, false, false, false, false] L = [some (.inr (.inr (some (10, x0b, 0)))), some (.inl x1), some (.inl x2), some (.inl x3), none, none, none, none, none, none])
    (h : (bif (!decide (x1 = 0)) then (wz_loop qb_1_7 65536 (wz_sk gc_1_8 k R) R ([some (.inr (.inr (some (10, x0b, 0)))), some (.inl x1), some (.inl x2), some (.inl x3), some (.inl (0 : Int32)), some (.inl (0 : Int32)), none, none, none, none], [], μ)) else (bif (!decide ((qz_im μ 14 x0b 0 1) = x2)) then (wz_loop qb_1_7 65536 (wz_sk gc_1_8 k R) R ([some (.inr (.inr (some (10, x0b, 0)))), some (.inl x1), some (.inl x2), some (.inl x3), some (.inl (0 : Int32)), some (.inl (0 : Int32)), none, none, none, none], [], μ)) else (bif (!decide (((qz_im μ 14 x0b 0 2) + x3) = 0)) then (wz_loop qb_1_7 65536 (wz_sk gc_1_8 k R) R ([some (.inr (.inr (some (10, x0b, 0)))), some (.inl x1), some (.inl x2), some (.inl x3), some (.inl (0 : Int32)), some (.inl (0 : Int32)), none, none, none, none], [], μ)) else (wz_loop qb_1_7 65536 (wz_sk gc_1_8 k R) R ([some (.inr (.inr (some (10, x0b, 0)))), some (.inl x1), some (.inl x2), some (.inl x3), some (.inl (1 : Int32)), some (.inl (0 : Int32)), none, none, none, none], [], μ)))))) :
    gc_1_9 k R (L, [], μ) := wz_fgd hL h
set_option maxRecDepth 10000 in
set_option maxHeartbeats 400000 in
theorem fb_1_4 (x0b : Nat) (x1 : Int32) (x2 : Int32) (x3 : Int32) (x4 : Int32) (μ : qz_M) (k : wz_K) (R : wz_R) (L : qz_L) (hL : qz_fg [true, true, true, true, true, false, false, false, false, false] L = [some (.inr (.inr (some (10, x0b, 0)))), some (.inl x1), some (.inl x2), some (.inl x3), some (.inl x4), none, none, none, none, none])
    (h : (bif decide ((qz_im μ 11 x0b 0 1) ≤ x4) then (k 0 ([some (.inr (.inr (some (10, x0b, 0)))), some (.inl x1), some (.inl x2), some (.inl x3), some (.inl x4), none, none, none, none, none], [], μ)) else (bif pz_out x4 6 then False else (k 1 ([some (.inr (.inr (some (10, x0b, 0)))), some (.inl x1), some (.inl x2), some (.inl (x3 + (qz_im μ 42 x0b x4.toNatClampNeg 2))), some (.inl (x4 + (1 : Int32))), none, none, none, none, none], [], μ))))) :
    gb_1_4 k R (L, [], μ) := wz_fgd hL h
set_option maxRecDepth 10000 in
set_option maxHeartbeats 400000 in
theorem fc_1_8 (x4 : Int32) (μ : qz_M) (k : wz_K) (R : wz_R) (L : qz_L) (hL : qz_fg [false, false, false, false, true, false, false, false, false, false] L = [none, none, none, none, some (.inl x4), none, none, none, none, none])
    (h : (bif decide (x4 = 0) || decide (x4 = 1) then (R μ (.inl (some (.inl x4)))) else False)) :
    gc_1_8 k R (L, [], μ) := wz_fgd hL h
set_option maxRecDepth 10000 in
set_option maxHeartbeats 400000 in
theorem fb_1_7 (x0b : Nat) (x4 : Int32) (x5 : Int32) (μ : qz_M) (k : wz_K) (R : wz_R) (L : qz_L) (hL : qz_fg [true, false, false, false, true, true, false, false, false, false] L = [some (.inr (.inr (some (10, x0b, 0)))), none, none, none, some (.inl x4), some (.inl x5), none, none, none, none])
    (h : (bif decide ((qz_im μ 11 x0b 0 10) ≤ x5) then (k 0 ([some (.inr (.inr (some (10, x0b, 0)))), none, none, none, some (.inl x4), some (.inl x5), none, none, none, none], [], μ)) else (bif decide (x4 = 0) then (k 0 ([some (.inr (.inr (some (10, x0b, 0)))), none, none, none, some (.inl x4), some (.inl x5), none, none, none, none], [], μ)) else (bif pz_out x5 12 then False else (wz_loop qb_1_5 65536 (wz_sk gc_1_6 (wz_kb k) R) R ([some (.inr (.inr (some (10, x0b, 0)))), none, none, none, some (.inl x4), some (.inl x5), some (.inr (.inr (some (54, x0b, x5.toNatClampNeg)))), some (.inl (0 : Int32)), some (.inl (1 : Int32)), some (.inl (0 : Int32))], [], μ)))))) :
    gb_1_7 k R (L, [], μ) := wz_fgd hL h
/- X0 canQuarrel -/
/- X0 enter -/
/- X5 stage -/
/- X0 share -/
set_option maxRecDepth 10000 in
set_option maxHeartbeats 400000 in
theorem fw_9 (a0 : Int32) (a1 : Int32) (a2 : Int32) (a3 : Int32) (a4 : qz_R) (μ : qz_M) (R : wz_R)
    (h : (wz_wr (qz_al μ 50 1 3 1 3) (fun μ1 => (bif Nat.beq (qz_tag μ1 (200, (qz_na μ), 0)) 50 then (bif pz_out (0 : Int32) (qz_len μ1 (200, (qz_na μ), 0)) then False else (wz_wr (qz_wI μ1 (200, (qz_na μ), 0) 0 a1) (fun μ2 => (bif Nat.beq (qz_tag μ2 (200, (qz_na μ), 0)) 50 then (bif pz_out (1 : Int32) (qz_len μ2 (200, (qz_na μ), 0)) then False else (wz_wr (qz_wI μ2 (200, (qz_na μ), 0) 1 a2) (fun μ3 => (bif Nat.beq (qz_tag μ3 (200, (qz_na μ), 0)) 50 then (bif pz_out (2 : Int32) (qz_len μ3 (200, (qz_na μ), 0)) then False else (wz_wr (qz_wI μ3 (200, (qz_na μ), 0) 2 a3) (fun μ4 => (bif decide (0 ≤ (lg_cmp ((a1 + a2) + a3).toInt64 (1 : Int64))) then (wz_wr (qz_al μ4 51 1 3 1 3) (fun μ5 => (wz_loop qb_9_1 65536 (wz_sk gc_9_6 wz_k0 R) R ([some (.inl a0), some (.inl a1), some (.inl a2), some (.inl a3), some (.inr (.inr (some a4))), some (.inr (.inr (some (200, (qz_na μ), 0)))), some (.inr (.inl ((a1 + a2) + a3).toInt64)), none, some (.inr (.inr (some (200, (qz_na μ4), 0)))), some (.inl a0), some (.inl (0 : Int32)), none, none], [], μ5)))) else (R μ4 (.inl none)))))) else False)))) else False)))) else False)))) :
    wz_call qf_9 [.inl a0, .inl a1, .inl a2, .inl a3, .inr (.inr (some a4))] μ R := wz_mt9 (L := [some (.inl a0), some (.inl a1), some (.inl a2), some (.inl a3), some (.inr (.inr (some a4))), none, none, none, none, none, none, none, none]) sw_9 rfl h
set_option maxRecDepth 10000 in
set_option maxHeartbeats 400000 in
theorem fc_9_6 (x4 : qz_R) (x8 : Nat) (x9 : Int32) (μ : qz_M) (k : wz_K) (R : wz_R) (L : qz_L) (hL : qz_fg [false, false, false, false, true, false, false, false, true, true, false, false, false] L = [none, none, none, none, some (.inr (.inr (some x4))), none, none, none, some (.inr (.inr (some (200, x8, 0)))), some (.inl x9), none, none, none])
    (h : (wz_loop qb_9_4 65536 (wz_sk gc_9_5 k R) R ([none, none, none, none, some (.inr (.inr (some x4))), none, none, none, some (.inr (.inr (some (200, x8, 0)))), some (.inl x9), some (.inl (0 : Int32)), none, none], [], μ))) :
    gc_9_6 k R (L, [], μ) := wz_fgd hL h
set_option maxRecDepth 10000 in
set_option maxHeartbeats 400000 in
theorem fb_9_1 (x0 : Int32) (x4 : qz_R) (x5 : Nat) (x6 : Int64) (x8 : Nat) (x9 : Int32) (x10 : Int32) (μ : qz_M) (k : wz_K) (R : wz_R) (L : qz_L) (hL : qz_fg [true, false, false, false, true, true, true, false, true, true, true, false, false] L = [some (.inl x0), none, none, none, some (.inr (.inr (some x4))), some (.inr (.inr (some (200, x5, 0)))), some (.inr (.inl x6)), none, some (.inr (.inr (some (200, x8, 0)))), some (.inl x9), some (.inl x10), none, none])
    (h : (bif decide ((3 : Int32) ≤ x10) then (k 0 ([some (.inl x0), none, none, none, some (.inr (.inr (some x4))), some (.inr (.inr (some (200, x5, 0)))), some (.inr (.inl x6)), none, some (.inr (.inr (some (200, x8, 0)))), some (.inl x9), some (.inl x10), none, none], [], μ)) else (bif Nat.beq (qz_tag μ (200, x5, 0)) 50 && true then (bif pz_out x10 (qz_len μ (200, x5, 0)) then False else (bif decide (x6 = 0) then False else (bif Nat.beq (qz_tag μ x4) 50 then (bif pz_out x10 (qz_len μ x4) then False else (wz_wr (qz_wI μ x4 x10.toNatClampNeg ((x0.toInt64 * (qz_im μ 200 x5 0 x10.toNatClampNeg).toInt64) / x6).toInt32) (fun μ1 => (bif decide (x6 = 0) then False else (bif Nat.beq (qz_tag μ1 (200, x8, 0)) 51 then (bif pz_out x10 (qz_len μ1 (200, x8, 0)) then False else (wz_wr (qz_wL μ1 (200, x8, 0) x10.toNatClampNeg ((x0.toInt64 * (qz_im μ 200 x5 0 x10.toNatClampNeg).toInt64) - (x0.toInt64 * (qz_im μ 200 x5 0 x10.toNatClampNeg).toInt64) / x6 * x6)) (fun μ2 => (bif Nat.beq (qz_tag μ2 x4) 50 && true then (bif pz_out x10 (qz_len μ2 x4) then False else (k 1 ([some (.inl x0), none, none, none, some (.inr (.inr (some x4))), some (.inr (.inr (some (200, x5, 0)))), some (.inr (.inl x6)), none, some (.inr (.inr (some (200, x8, 0)))), some (.inl (x9 - (qz_im μ2 x4.1 x4.2.1 x4.2.2 x10.toNatClampNeg))), some (.inl (x10 + (1 : Int32))), some (.inr (.inl (x0.toInt64 * (qz_im μ 200 x5 0 x10.toNatClampNeg).toInt64))), none], [], μ2))) else False)))) else False))))) else False))) else False))) :
    gb_9_1 k R (L, [], μ) := wz_fgd hL h
set_option maxRecDepth 10000 in
set_option maxHeartbeats 400000 in
theorem fc_9_5  (μ : qz_M) (k : wz_K) (R : wz_R) (L : qz_L) (hL : qz_fg [false, false, false, false, false, false, false, false, false, false, false, false, false] L = [none, none, none, none, none, none, none, none, none, none, none, none, none])
    (h : (R μ (.inl none))) :
    gc_9_5 k R (L, [], μ) := wz_fgd hL h
set_option maxRecDepth 10000 in
set_option maxHeartbeats 400000 in
theorem fb_9_4 (x4 : qz_R) (x8 : Nat) (x9 : Int32) (x10 : Int32) (μ : qz_M) (k : wz_K) (R : wz_R) (L : qz_L) (hL : qz_fg [false, false, false, false, true, false, false, false, true, true, true, false, false] L = [none, none, none, none, some (.inr (.inr (some x4))), none, none, none, some (.inr (.inr (some (200, x8, 0)))), some (.inl x9), some (.inl x10), none, none])
    (h : (bif decide ((3 : Int32) ≤ x10) then (k 0 ([none, none, none, none, some (.inr (.inr (some x4))), none, none, none, some (.inr (.inr (some (200, x8, 0)))), some (.inl x9), some (.inl x10), none, none], [], μ)) else (bif decide (x9 ≤ 0) then (k 0 ([none, none, none, none, some (.inr (.inr (some x4))), none, none, none, some (.inr (.inr (some (200, x8, 0)))), some (.inl x9), some (.inl x10), none, none], [], μ)) else (wz_loop qb_9_2 65536 (wz_sk gc_9_3 (wz_kb k) R) R ([none, none, none, none, some (.inr (.inr (some x4))), none, none, none, some (.inr (.inr (some (200, x8, 0)))), some (.inl x9), some (.inl x10), some (.inl (0 : Int32)), some (.inl (1 : Int32))], [], μ))))) :
    gb_9_4 k R (L, [], μ) := wz_fgd hL h
set_option maxRecDepth 10000 in
set_option maxHeartbeats 400000 in
theorem fc_9_3 (x4 : qz_R) (x8 : Nat) (x9 : Int32) (x10 : Int32) (x11 : Int32) (μ : qz_M) (k : wz_K) (R : wz_R) (L : qz_L) (hL : qz_fg [false, false, false, false, true, false, false, false, true, true, true, true, false] L = [none, none, none, none, some (.inr (.inr (some x4))), none, none, none, some (.inr (.inr (some (200, x8, 0)))), some (.inl x9), some (.inl x10), some (.inl x11), none])
    (h : (bif Nat.beq (qz_tag μ x4) 50 && true then (bif pz_out x11 (qz_len μ x4) then False else (bif Nat.beq (qz_tag μ x4) 50 then (bif pz_out x11 (qz_len μ x4) then False else (wz_wr (qz_wI μ x4 x11.toNatClampNeg ((qz_im μ x4.1 x4.2.1 x4.2.2 x11.toNatClampNeg) + (1 : Int32))) (fun μ1 => (bif Nat.beq (qz_tag μ1 (200, x8, 0)) 51 then (bif pz_out x11 (qz_len μ1 (200, x8, 0)) then False else (wz_wr (qz_wL μ1 (200, x8, 0) x11.toNatClampNeg (-1 : Int64)) (fun μ2 => (k 2 ([none, none, none, none, some (.inr (.inr (some x4))), none, none, none, some (.inr (.inr (some (200, x8, 0)))), some (.inl (x9 + (-1 : Int32))), some (.inl (x10 + (1 : Int32))), some (.inl x11), none], [], μ2))))) else False)))) else False)) else False)) :
    gc_9_3 k R (L, [], μ) := wz_fgd hL h
set_option maxRecDepth 10000 in
set_option maxHeartbeats 400000 in
theorem fb_9_2 (x4 : qz_R) (x8 : Nat) (x9 : Int32) (x10 : Int32) (x11 : Int32) (x12 : Int32) (μ : qz_M) (k : wz_K) (R : wz_R) (L : qz_L) (hL : qz_fg [false, false, false, false, true, false, false, false, true, true, true, true, true] L = [none, none, none, none, some (.inr (.inr (some x4))), none, none, none, some (.inr (.inr (some (200, x8, 0)))), some (.inl x9), some (.inl x10), some (.inl x11), some (.inl x12)])
    (h : (bif decide ((3 : Int32) ≤ x12) then (k 0 ([none, none, none, none, some (.inr (.inr (some x4))), none, none, none, some (.inr (.inr (some (200, x8, 0)))), some (.inl x9), some (.inl x10), some (.inl x11), some (.inl x12)], [], μ)) else (bif Nat.beq (qz_tag μ (200, x8, 0)) 51 then (bif pz_out x12 (qz_len μ (200, x8, 0)) then False else (bif Nat.beq (qz_tag μ (200, x8, 0)) 51 then (bif pz_out x11 (qz_len μ (200, x8, 0)) then False else (bif decide ((lg_cmp (qz_lm μ 200 x8 0 x12.toNatClampNeg) (qz_lm μ 200 x8 0 x11.toNatClampNeg)) ≤ 0) then (k 1 ([none, none, none, none, some (.inr (.inr (some x4))), none, none, none, some (.inr (.inr (some (200, x8, 0)))), some (.inl x9), some (.inl x10), some (.inl x11), some (.inl (x12 + (1 : Int32)))], [], μ)) else (k 1 ([none, none, none, none, some (.inr (.inr (some x4))), none, none, none, some (.inr (.inr (some (200, x8, 0)))), some (.inl x9), some (.inl x10), some (.inl x12), some (.inl (x12 + (1 : Int32)))], [], μ)))) else False)) else False))) :
    gb_9_2 k R (L, [], μ) := wz_fgd hL h
/- X0 shareAward -/
/- X1 giveBack -/
/- X0 judge -/
