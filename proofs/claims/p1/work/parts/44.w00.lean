/-! what the methods ask, 1 -/
/- X0 addQuarrel -/
/- X0 areSound -/
set_option maxRecDepth 10000 in
set_option maxHeartbeats 400000 in
theorem fw_1 (a0b : Nat) (μ : qz_M) (R : wz_R)
    (h : (wz_loop qb_1_1 65536 (wz_sk gc_1_12 wz_k0 R) R ([some (.inr (.inr (some (10, a0b, 0)))), some (.inl (0 : Int32)), some (.inl (0 : Int32)), none, none, none, none, none, none, none], [], μ))) :
    wz_call qf_1 [.inr (.inr (some (10, a0b, 0)))] μ R := wz_mt9 (L := [some (.inr (.inr (some (10, a0b, 0)))), none, none, none, none, none, none, none, none, none]) sw_1 rfl h
set_option maxRecDepth 10000 in
set_option maxHeartbeats 400000 in
theorem fc_1_12 (x0b : Nat) (x1 : Int32) (μ : qz_M) (k : wz_K) (R : wz_R) (L : qz_L) (hL : qz_fg [true, true, false, false, false, false, false, false, false, false] L = [some (.inr (.inr (some (10, x0b, 0)))), some (.inl x1), none, none, none, none, none, none, none, none])
    (h : (wz_loop qb_1_2 65536 (wz_sk gc_1_11 k R) R ([some (.inr (.inr (some (10, x0b, 0)))), some (.inl x1), some (.inl (0 : Int32)), some (.inl (0 : Int32)), none, none, none, none, none, none], [], μ))) :
    gc_1_12 k R (L, [], μ) := wz_fgd hL h
set_option maxRecDepth 10000 in
set_option maxHeartbeats 400000 in
theorem fb_1_1 (x0b : Nat) (x1 : Int32) (x2 : Int32) (μ : qz_M) (k : wz_K) (R : wz_R) (L : qz_L) (hL : qz_fg [true, true, true, false, false, false, false, false, false, false] L = [some (.inr (.inr (some (10, x0b, 0)))), some (.inl x1), some (.inl x2), none, none, none, none, none, none, none])
    (h : (bif decide ((9 : Int32) < x2) then (k 0 ([some (.inr (.inr (some (10, x0b, 0)))), some (.inl x1), some (.inl x2), none, none, none, none, none, none, none], [], μ)) else (bif pz_out x2 10 then False else (k 1 ([some (.inr (.inr (some (10, x0b, 0)))), some (.inl (x1 + (qz_im μ 14 x0b 0 x2.toNatClampNeg))), some (.inl (x2 + (1 : Int32))), none, none, none, none, none, none, none], [], μ))))) :
    gb_1_1 k R (L, [], μ) := wz_fgd hL h
set_option maxRecDepth 10000 in
set_option maxHeartbeats 400000 in
theorem fc_1_11 (x0b : Nat) (x1 : Int32) (x2 : Int32) (μ : qz_M) (k : wz_K) (R : wz_R) (L : qz_L) (hL : qz_fg [true, true, true, false, false, false, false, false, false, false] L = [some (.inr (.inr (some (10, x0b, 0)))), some (.inl x1), some (.inl x2), none, none, none, none, none, none, none])
    (h : (wz_loop qb_1_3 65536 (wz_sk gc_1_10 k R) R ([some (.inr (.inr (some (10, x0b, 0)))), some (.inl x1), some (.inl x2), some (.inl (0 : Int32)), none, none, none, none, none, none], [], μ))) :
    gc_1_11 k R (L, [], μ) := wz_fgd hL h
set_option maxRecDepth 10000 in
set_option maxHeartbeats 400000 in
theorem fb_1_2 (x0b : Nat) (x1 : Int32) (x2 : Int32) (x3 : Int32) (μ : qz_M) (k : wz_K) (R : wz_R) (L : qz_L) (hL : qz_fg [true, true, true, true, false, false, false, false, false, false] L = [some (.inr (.inr (some (10, x0b, 0)))), some (.inl x1), some (.inl x2), some (.inl x3), none, none, none, none, none, none])
    (h : (bif decide ((qz_im μ 11 x0b 0 6) ≤ x3) then (k 0 ([some (.inr (.inr (some (10, x0b, 0)))), some (.inl x1), some (.inl x2), some (.inl x3), none, none, none, none, none, none], [], μ)) else (bif pz_out x3 60 then False else (k 1 ([some (.inr (.inr (some (10, x0b, 0)))), some (.inl x1), some (.inl (x2 + (qz_im μ 47 x0b x3.toNatClampNeg 19))), some (.inl (x3 + (1 : Int32))), none, none, none, none, none, none], [], μ))))) :
    gb_1_2 k R (L, [], μ) := wz_fgd hL h
set_option maxRecDepth 10000 in
set_option maxHeartbeats 400000 in
theorem fc_1_10 (x0b : Nat) (x1 : Int32) (x2 : Int32) (μ : qz_M) (k : wz_K) (R : wz_R) (L : qz_L) (hL : qz_fg [true, true, true, false, false, false, false, false, false, false] L = [some (.inr (.inr (some (10, x0b, 0)))), some (.inl x1), some (.inl x2), none, none, none, none, none, none, none])
    (h : (wz_loop qb_1_4 65536 (wz_sk gc_1_9 k R) R ([some (.inr (.inr (some (10, x0b, 0)))), some (.inl x1), some (.inl x2), some (.inl (0 : Int32)), some (.inl (0 : Int32)), none, none, none, none, none], [], μ))) :
    gc_1_10 k R (L, [], μ) := wz_fgd hL h
set_option maxRecDepth 10000 in
set_option maxHeartbeats 400000 in
theorem fb_1_3 (x0b : Nat) (x1 : Int32) (x2 : Int32) (x3 : Int32) (μ : qz_M) (k : wz_K) (R : wz_R) (L : qz_L) (hL : qz_fg [true, true, true, true, false, false, false, false, false, false] L = [some (.inr (.inr (some (10, x0b, 0)))), some (.inl x1), some (.inl x2), some (.inl x3), none, none, none, none, none, none])
    (h : (bif decide ((qz_im μ 11 x0b 0 4) ≤ x3) then (k 0 ([some (.inr (.inr (some (10, x0b, 0)))), some (.inl x1), some (.inl x2), some (.inl x3), none, none, none, none, none, none], [], μ)) else (bif pz_out x3 8 then False else (k 1 ([some (.inr (.inr (some (10, x0b, 0)))), some (.inl x1), some (.inl (x2 - (qz_im μ 45 x0b x3.toNatClampNeg 3))), some (.inl (x3 + (1 : Int32))), none, none, none, none, none, none], [], μ))))) :
    gb_1_3 k R (L, [], μ) := wz_fgd hL h
set_option maxRecDepth 10000 in
set_option maxHeartbeats 400000 in
theorem fc_1_9 (x0b : Nat) (x1 : Int32) (x2 : Int32) (x3 : Int32) (μ : qz_M) (k : wz_K) (R : wz_R) (L : qz_L) (hL : qz_fg [true, true, true, true, false, false, false, false, false, false] L = [some (.inr (.inr (some (10, x0b, 0)))), some (.inl x1), some (.inl x2), some (.inl x3), none, none, none, none, none, none])
    (h : (bif (!decide (x1 = 0)) then (wz_loop qb_1_7 65536 (wz_sk gc_1_8 k R) R ([some (.inr (.inr (some (10, x0b, 0)))), some (.inl x1), some (.inl x2), some (.inl x3), some (.inl (0 : Int32)), some (.inl (0 : Int32)), none, none, none, none], [], μ)) else (bif (!decide ((qz_im μ 14 x0b 0 1) = x2)) then (wz_loop qb_1_7 65536 (wz_sk gc_1_8 k R) R ([some (.inr (.inr (some (10, x0b, 0)))), some (.inl x1), some (.inl x2), some (.inl x3), some (.inl (0 : Int32)), some (.inl (0 : Int32)), none, none, none, none], [], μ)) else (bif (!decide (((qz_im μ 14 x0b 0 2) + x3) = 0)) then (wz_loop qb_1_7 65536 (wz_sk gc_1_8 k R) R ([some (.inr (.inr (some (10, x0b, 0)))), some (.inl x1), some (.inl x2), some (.inl x3), some (.inl (0 : Int32)), some (.inl (0 : Int32)), none, none, none, none], [], μ)) else (wz_loop qb_1_7 65536 (wz_sk gc_1_8 k R) R ([some (.inr (.inr (some (10, x0b, 0)))), some (.inl x1), some (.inl x2), some (.inl x3), some (.inl (1 : Int32)), some (.inl (0 : Int32)), none, none, none, none], [], μ)))))) :
    gc_1_9 k R (L, [], μ) := wz_fgd hL h
set_option maxRecDepth 10000 in
set_option maxHeartbeats 400000 in
theorem fb_1_4 (x0b : Nat) (x1 : Int32) (x2 : Int32) (x3 : Int32) (x4 : Int32) (μ : qz_M) (k : wz_K) (R : wz_R) (L : qz_L) (hL : qz_fg [true, true, true, true, true, false, false, false, false, false] L = [some (.inr (.inr (some (10, x0b, 0)))), some (.inl x1), some (.inl x2), some (.inl x3), some (.inl x4), none, none, none, none, none])
    (h : (bif decide ((qz_im μ 11 x0b 0 1) ≤ x4) then (k 0 ([some (.inr (.inr (some (10, x0b, 0)))), some (.inl x1), some (.inl x2), some (.inl x3), some (.inl x4), none, none, none, none, none], [], μ)) else (bif pz_out x4 6 then False else (k 1 ([some (.inr (.inr (some (10, x0b, 0)))), some (.inl x1), some (.inl x2), some (.inl (x3 + (qz_im μ 42 x0b x4.toNatClampNeg 2))), some (.inl (x4 + (1 : Int32))), none, none, none, none, none], [], μ))))) :
    gb_1_4 k R (L, [], μ) := wz_fgd hL h
set_option maxRecDepth 10000 in
set_option maxHeartbeats 400000 in
theorem fc_1_8 (x4 : Int32) (μ : qz_M) (k : wz_K) (R : wz_R) (L : qz_L) (hL : qz_fg [false, false, false, false, true, false, false, false, false, false] L = [none, none, none, none, some (.inl x4), none, none, none, none, none])
    (h : (bif decide (x4 = 0) || decide (x4 = 1) then (R μ (.inl (some (.inl x4)))) else False)) :
    gc_1_8 k R (L, [], μ) := wz_fgd hL h
set_option maxRecDepth 10000 in
set_option maxHeartbeats 400000 in
theorem fb_1_7 (x0b : Nat) (x4 : Int32) (x5 : Int32) (μ : qz_M) (k : wz_K) (R : wz_R) (L : qz_L) (hL : qz_fg [true, false, false, false, true, true, false, false, false, false] L = [some (.inr (.inr (some (10, x0b, 0)))), none, none, none, some (.inl x4), some (.inl x5), none, none, none, none])
    (h : (bif decide ((qz_im μ 11 x0b 0 10) ≤ x5) then (k 0 ([some (.inr (.inr (some (10, x0b, 0)))), none, none, none, some (.inl x4), some (.inl x5), none, none, none, none], [], μ)) else (bif decide (x4 = 0) then (k 0 ([some (.inr (.inr (some (10, x0b, 0)))), none, none, none, some (.inl x4), some (.inl x5), none, none, none, none], [], μ)) else (bif pz_out x5 12 then False else (wz_loop qb_1_5 65536 (wz_sk gc_1_6 (wz_kb k) R) R ([some (.inr (.inr (some (10, x0b, 0)))), none, none, none, some (.inl x4), some (.inl x5), some (.inr (.inr (some (54, x0b, x5.toNatClampNeg)))), some (.inl (0 : Int32)), some (.inl (1 : Int32)), some (.inl (0 : Int32))], [], μ)))))) :
    gb_1_7 k R (L, [], μ) := wz_fgd hL h
/- X0 canQuarrel -/
/- X0 enter -/
/- X5 stage -/
/- X0 share -/
set_option maxRecDepth 10000 in
set_option maxHeartbeats 400000 in
theorem fw_9 (a0 : Int32) (a1 : Int32) (a2 : Int32) (a3 : Int32) (a4 : qz_R) (μ : qz_M) (R : wz_R)
    (h : (wz_wr (qz_al μ 50 1 3 1 3) (fun μ1 => (bif Nat.beq (qz_tag μ1 (200, (qz_na μ), 0)) 50 then (bif pz_out (0 : Int32) (qz_len μ1 (200, (qz_na μ), 0)) then False else (wz_wr (qz_wI μ1 (200, (qz_na μ), 0) 0 a1) (fun μ2 => (bif Nat.beq (qz_tag μ2 (200, (qz_na μ), 0)) 50 then (bif pz_out (1 : Int32) (qz_len μ2 (200, (qz_na μ), 0)) then False else (wz_wr (qz_wI μ2 (200, (qz_na μ), 0) 1 a2) (fun μ3 => (bif Nat.beq (qz_tag μ3 (200, (qz_na μ), 0)) 50 then (bif pz_out (2 : Int32) (qz_len μ3 (200, (qz_na μ), 0)) then False else (wz_wr (qz_wI μ3 (200, (qz_na μ), 0) 2 a3) (fun μ4 => (bif decide (0 ≤ (lg_cmp ((a1 + a2) + a3).toInt64 (1 : Int64))) then (wz_wr (qz_al μ4 51 1 3 1 3) (fun μ5 => (wz_loop qb_9_1 65536 (wz_sk gc_9_6 wz_k0 R) R ([some (.inl a0), some (.inl a1), some (.inl a2), some (.inl a3), some (.inr (.inr (some a4))), some (.inr (.inr (some (200, (qz_na μ), 0)))), some (.inr (.inl ((a1 + a2) + a3).toInt64)), none, some (.inr (.inr (some (200, (qz_na μ4), 0)))), some (.inl a0), some (.inl (0 : Int32)), none, none], [], μ5)))) else (R μ4 (.inl none)))))) else False)))) else False)))) else False)))) :
    wz_call qf_9 [.inl a0, .inl a1, .inl a2, .inl a3, .inr (.inr (some a4))] μ R := wz_mt9 (L := [some (.inl a0), some (.inl a1), some (.inl a2), some (.inl a3), some (.inr (.inr (some a4))), none, none, none, none, none, none, none, none]) sw_9 rfl h
set_option maxRecDepth 10000 in
set_option maxHeartbeats 400000 in
theorem fc_9_6 (x4 : qz_R) (x8 : Nat) (x9 : Int32) (μ : qz_M) (k : wz_K) (R : wz_R) (L : qz_L) (hL : qz_fg [false, false, false, false, true, false, false, false, true, true, false, false, false] L = [none, none, none, none, some (.inr (.inr (some x4))), none, none, none, some (.inr (.inr (some (200, x8, 0)))), some (.inl x9), none, none, none])
    (h : (wz_loop qb_9_4 65536 (wz_sk gc_9_5 k R) R ([none, none, none, none, some (.inr (.inr (some x4))), none, none, none, some (.inr (.inr (some (200, x8, 0)))), some (.inl x9), some (.inl (0 : Int32)), none, none], [], μ))) :
    gc_9_6 k R (L, [], μ) := wz_fgd hL h
set_option maxRecDepth 10000 in
set_option maxHeartbeats 400000 in
theorem fb_9_1 (x0 : Int32) (x4 : qz_R) (x5 : Nat) (x6 : Int64) (x8 : Nat) (x9 : Int32) (x10 : Int32) (μ : qz_M) (k : wz_K) (R : wz_R) (L : qz_L) (hL : qz_fg [true, false, false, false, true, true, true, false, true, true, true, false, false] L = [some (.inl x0), none, none, none, some (.inr (.inr (some x4))), some (.inr (.inr (some (200, x5, 0)))), some (.inr (.inl x6)), none, some (.inr (.inr (some (200, x8, 0)))), some (.inl x9), some (.inl x10), none, none])
    (h : (bif decide ((3 : Int32) ≤ x10) then (k 0 ([some (.inl x0), none, none, none, some (.inr (.inr (some x4))), some (.inr (.inr (some (200, x5, 0)))), some (.inr (.inl x6)), none, some (.inr (.inr (some (200, x8, 0)))), some (.inl x9), some (.inl x10), none, none], [], μ)) else (bif Nat.beq (qz_tag μ (200, x5, 0)) 50 && true then (bif pz_out x10 (qz_len μ (200, x5, 0)) then False else (bif decide (x6 = 0) then False else (bif Nat.beq (qz_tag μ x4) 50 then (bif pz_out x10 (qz_len μ x4) then False else (wz_wr (qz_wI μ x4 x10.toNatClampNeg ((x0.toInt64 * (qz_im μ 200 x5 0 x10.toNatClampNeg).toInt64) / x6).toInt32) (fun μ1 => (bif decide (x6 = 0) then False else (bif Nat.beq (qz_tag μ1 (200, x8, 0)) 51 then (bif pz_out x10 (qz_len μ1 (200, x8, 0)) then False else (wz_wr (qz_wL μ1 (200, x8, 0) x10.toNatClampNeg ((x0.toInt64 * (qz_im μ 200 x5 0 x10.toNatClampNeg).toInt64) - (x0.toInt64 * (qz_im μ 200 x5 0 x10.toNatClampNeg).toInt64) / x6 * x6)) (fun μ2 => (bif Nat.beq (qz_tag μ2 x4) 50 && true then (bif pz_out x10 (qz_len μ2 x4) then False else (k 1 ([some (.inl x0), none, none, none, some (.inr (.inr (some x4))), some (.inr (.inr (some (200, x5, 0)))), some (.inr (.inl x6)), none, some (.inr (.inr (some (200, x8, 0)))), some (.inl (x9 - (qz_im μ2 x4.1 x4.2.1 x4.2.2 x10.toNatClampNeg))), some (.inl (x10 + (1 : Int32))), some (.inr (.inl (x0.toInt64 * (qz_im μ 200 x5 0 x10.toNatClampNeg).toInt64))), none], [], μ2))) else False)))) else False))))) else False))) else False))) :
    gb_9_1 k R (L, [], μ) := wz_fgd hL h
set_option maxRecDepth 10000 in
set_option maxHeartbeats 400000 in
theorem fc_9_5  (μ : qz_M) (k : wz_K) (R : wz_R) (L : qz_L) (hL : qz_fg [false, false, false, false, false, false, false, false, false, false, false, false, false] L = [none, none, none, none, none, none, none, none, none, none, none, none, none])
    (h : (R μ (.inl none))) :
    gc_9_5 k R (L, [], μ) := wz_fgd hL h
set_option maxRecDepth 10000 in
set_option maxHeartbeats 400000 in
theorem fb_9_4 (x4 : qz_R) (x8 : Nat) (x9 : Int32) (x10 : Int32) (μ : qz_M) (k : wz_K) (R : wz_R) (L : qz_L) (hL : qz_fg [false, false, false, false, true, false, false, false, true, true, true, false, false] L = [none, none, none, none, some (.inr (.inr (some x4))), none, none, none, some (.inr (.inr (some (200, x8, 0)))), some (.inl x9), some (.inl x10), none, none])
    (h : (bif decide ((3 : Int32) ≤ x10) then (k 0 ([none, none, none, none, some (.inr (.inr (some x4))), none, none, none, some (.inr (.inr (some (200, x8, 0)))), some (.inl x9), some (.inl x10), none, none], [], μ)) else (bif decide (x9 ≤ 0) then (k 0 ([none, none, none, none, some (.inr (.inr (some x4))), none, none, none, some (.inr (.inr (some (200, x8, 0)))), some (.inl x9), some (.inl x10), none, none], [], μ)) else (wz_loop qb_9_2 65536 (wz_sk gc_9_3 (wz_kb k) R) R ([none, none, none, none, some (.inr (.inr (some x4))), none, none, none, some (.inr (.inr (some (200, x8, 0)))), some (.inl x9), some (.inl x10), some (.inl (0 : Int32)), some (.inl (1 : Int32))], [], μ))))) :
    gb_9_4 k R (L, [], μ) := wz_fgd hL h
set_option maxRecDepth 10000 in
set_option maxHeartbeats 400000 in
theorem fc_9_3 (x4 : qz_R) (x8 : Nat) (x9 : Int32) (x10 : Int32) (x11 : Int32) (μ : qz_M) (k : wz_K) (R : wz_R) (L : qz_L) (hL : qz_fg [false, false, false, false, true, false, false, false, true, true, true, true, false] L = [none, none, none, none, some (.inr (.inr (some x4))), none, none, none, some (.inr (.inr (some (200, x8, 0)))), some (.inl x9), some (.inl x10), some (.inl x11), none])
    (h : (bif Nat.beq (qz_tag μ x4) 50 && true then (bif pz_out x11 (qz_len μ x4) then False else (bif Nat.beq (qz_tag μ x4) 50 then (bif pz_out x11 (qz_len μ x4) then False else (wz_wr (qz_wI μ x4 x11.toNatClampNeg ((qz_im μ x4.1 x4.2.1 x4.2.2 x11.toNatClampNeg) + (1 : Int32))) (fun μ1 => (bif Nat.beq (qz_tag μ1 (200, x8, 0)) 51 then (bif pz_out x11 (qz_len μ1 (200, x8, 0)) then False else (wz_wr (qz_wL μ1 (200, x8, 0) x11.toNatClampNeg (-1 : Int64)) (fun μ2 => (k 2 ([none, none, none, none, some (.inr (.inr (some x4))), none, none, none, some (.inr (.inr (some (200, x8, 0)))), some (.inl (x9 + (-1 : Int32))), some (.inl (x10 + (1 : Int32))), some (.inl x11), none], [], μ2))))) else False)))) else False)) else False)) :
    gc_9_3 k R (L, [], μ) := wz_fgd hL h
set_option maxRecDepth 10000 in
set_option maxHeartbeats 400000 in
theorem fb_9_2 (x4 : qz_R) (x8 : Nat) (x9 : Int32) (x10 : Int32) (x11 : Int32) (x12 : Int32) (μ : qz_M) (k : wz_K) (R : wz_R) (L : qz_L) (hL : qz_fg [false, false, false, false, true, false, false, false, true, true, true, true, true] L = [none, none, none, none, some (.inr (.inr (some x4))), none, none, none, some (.inr (.inr (some (200, x8, 0)))), some (.inl x9), some (.inl x10), some (.inl x11), some (.inl x12)])
    (h : (bif decide ((3 : Int32) ≤ x12) then (k 0 ([none, none, none, none, some (.inr (.inr (some x4))), none, none, none, some (.inr (.inr (some (200, x8, 0)))), some (.inl x9), some (.inl x10), some (.inl x11), some (.inl x12)], [], μ)) else (bif Nat.beq (qz_tag μ (200, x8, 0)) 51 then (bif pz_out x12 (qz_len μ (200, x8, 0)) then False else (bif Nat.beq (qz_tag μ (200, x8, 0)) 51 then (bif pz_out x11 (qz_len μ (200, x8, 0)) then False else (bif decide ((lg_cmp (qz_lm μ 200 x8 0 x12.toNatClampNeg) (qz_lm μ 200 x8 0 x11.toNatClampNeg)) ≤ 0) then (k 1 ([none, none, none, none, some (.inr (.inr (some x4))), none, none, none, some (.inr (.inr (some (200, x8, 0)))), some (.inl x9), some (.inl x10), some (.inl x11), some (.inl (x12 + (1 : Int32)))], [], μ)) else (k 1 ([none, none, none, none, some (.inr (.inr (some x4))), none, none, none, some (.inr (.inr (some (200, x8, 0)))), some (.inl x9), some (.inl x10), some (.inl x12), some (.inl (x12 + (1 : Int32)))], [], μ)))) else False)) else False))) :
    gb_9_2 k R (L, [], μ) := wz_fgd hL h
/- X0 shareAward -/
/- X1 giveBack -/
/- X0 judge -/

/-! what the methods ask, 2 -/
/- X6 today -/
/- X0 payOut -/
set_option maxRecDepth 10000 in
set_option maxHeartbeats 400000 in
theorem fw_8 (a0b : Nat) (μ : qz_M) (R : wz_R)
    (h : (wz_loop qb_8_1 65536 (wz_sk gc_8_2 wz_k0 R) R ([some (.inr (.inr (some (10, a0b, 0)))), some (.inl (0 : Int32)), none], [], μ))) :
    wz_call qf_8 [.inr (.inr (some (10, a0b, 0)))] μ R := wz_mt9 (L := [some (.inr (.inr (some (10, a0b, 0)))), none, none]) sw_8 rfl h
set_option maxRecDepth 10000 in
set_option maxHeartbeats 400000 in
theorem fc_8_2  (μ : qz_M) (k : wz_K) (R : wz_R) (L : qz_L) (hL : qz_fg [false, false, false] L = [none, none, none])
    (h : (R μ (.inl none))) :
    gc_8_2 k R (L, [], μ) := wz_fgd hL h
set_option maxRecDepth 10000 in
set_option maxHeartbeats 400000 in
theorem fb_8_1 (x0b : Nat) (x1 : Int32) (μ : qz_M) (k : wz_K) (R : wz_R) (L : qz_L) (hL : qz_fg [true, true, false] L = [some (.inr (.inr (some (10, x0b, 0)))), some (.inl x1), none])
    (h : (bif decide ((qz_im μ 11 x0b 0 1) ≤ x1) then (k 0 ([some (.inr (.inr (some (10, x0b, 0)))), some (.inl x1), none], [], μ)) else (bif pz_out x1 6 then False else (bif decide ((qz_im μ 42 x0b x1.toNatClampNeg 2) ≤ 0) then (k 1 ([some (.inr (.inr (some (10, x0b, 0)))), some (.inl (x1 + (1 : Int32))), some (.inr (.inr (some (42, x0b, x1.toNatClampNeg))))], [], μ)) else (bif (!decide ((qz_im μ 42 x0b x1.toNatClampNeg 2) = 0)) then (wz_wr (qz_wI μ (14, x0b, 0) 0 ((qz_im μ 14 x0b 0 0) - (qz_im μ 42 x0b x1.toNatClampNeg 2))) (fun μ1 => (wz_wr (qz_wI μ1 (14, x0b, 0) 2 ((qz_im μ1 14 x0b 0 2) + (qz_im μ 42 x0b x1.toNatClampNeg 2))) (fun μ2 => (bif pz_out ((qz_im μ2 11 x0b 0 12) - (qz_im μ2 11 x0b 0 12) / (60 : Int32) * (60 : Int32)) 60 then False else (wz_wr (qz_wI μ2 (53, x0b, ((qz_im μ2 11 x0b 0 12) - (qz_im μ2 11 x0b 0 12) / (60 : Int32) * (60 : Int32)).toNatClampNeg) 0 (0 : Int32)) (fun μ3 => (wz_wr (qz_wI μ3 (53, x0b, ((qz_im μ2 11 x0b 0 12) - (qz_im μ2 11 x0b 0 12) / (60 : Int32) * (60 : Int32)).toNatClampNeg) 1 (2 : Int32)) (fun μ4 => (wz_wr (qz_wI μ4 (53, x0b, ((qz_im μ2 11 x0b 0 12) - (qz_im μ2 11 x0b 0 12) / (60 : Int32) * (60 : Int32)).toNatClampNeg) 2 (qz_im μ 42 x0b x1.toNatClampNeg 2)) (fun μ5 => (wz_wr (qz_wI μ5 (53, x0b, ((qz_im μ2 11 x0b 0 12) - (qz_im μ2 11 x0b 0 12) / (60 : Int32) * (60 : Int32)).toNatClampNeg) 3 (-1 : Int32)) (fun μ6 => (wz_wr (qz_wI μ6 (53, x0b, ((qz_im μ2 11 x0b 0 12) - (qz_im μ2 11 x0b 0 12) / (60 : Int32) * (60 : Int32)).toNatClampNeg) 4 (qz_im μ6 11 x0b 0 13)) (fun μ7 => (wz_wr (qz_wI μ7 (11, x0b, 0) 12 ((qz_im μ7 11 x0b 0 12) + (1 : Int32))) (fun μ8 => (wz_wr (qz_wI μ8 (42, x0b, x1.toNatClampNeg) 6 ((qz_im μ8 42 x0b x1.toNatClampNeg 6) + (qz_im μ8 42 x0b x1.toNatClampNeg 2))) (fun μ9 => (wz_wr (qz_wI μ9 (42, x0b, x1.toNatClampNeg) 2 (0 : Int32)) (fun μ10 => (k 1 ([some (.inr (.inr (some (10, x0b, 0)))), some (.inl (x1 + (1 : Int32))), some (.inr (.inr (some (42, x0b, x1.toNatClampNeg))))], [], μ10))))))))))))))))))))))) else (wz_wr (qz_wI μ (42, x0b, x1.toNatClampNeg) 6 ((qz_im μ 42 x0b x1.toNatClampNeg 6) + (qz_im μ 42 x0b x1.toNatClampNeg 2))) (fun μ11 => (wz_wr (qz_wI μ11 (42, x0b, x1.toNatClampNeg) 2 (0 : Int32)) (fun μ12 => (k 1 ([some (.inr (.inr (some (10, x0b, 0)))), some (.inl (x1 + (1 : Int32))), some (.inr (.inr (some (42, x0b, x1.toNatClampNeg))))], [], μ12))))))))))) :
    gb_8_1 k R (L, [], μ) := wz_fgd hL h
/- X0 closeDay -/
set_option maxRecDepth 10000 in
set_option maxHeartbeats 400000 in
theorem fw_4 (a0b : Nat) (μ : qz_M) (R : wz_R)
    (h : (wz_loop qb_4_1 65536 (wz_sk gc_4_6 wz_k0 R) R ([some (.inr (.inr (some (10, a0b, 0)))), some (.inl (0 : Int32)), some (.inl (0 : Int32)), none], [], μ))) :
    wz_call qf_4 [.inr (.inr (some (10, a0b, 0)))] μ R := wz_mt9 (L := [some (.inr (.inr (some (10, a0b, 0)))), none, none, none]) sw_4 rfl h
set_option maxRecDepth 10000 in
set_option maxHeartbeats 400000 in
theorem fc_4_6 (x0b : Nat) (x1 : Int32) (μ : qz_M) (k : wz_K) (R : wz_R) (L : qz_L) (hL : qz_fg [true, true, false, false] L = [some (.inr (.inr (some (10, x0b, 0)))), some (.inl x1), none, none])
    (h : (bif (!decide ((x1 * (qz_im μ 13 x0b 0 1)) = 0)) then (wz_wr (qz_wI μ (14, x0b, 0) 0 ((qz_im μ 14 x0b 0 0) - (x1 * (qz_im μ 13 x0b 0 1)))) (fun μ1 => (wz_wr (qz_wI μ1 (14, x0b, 0) 4 ((qz_im μ1 14 x0b 0 4) + (x1 * (qz_im μ 13 x0b 0 1)))) (fun μ2 => (bif pz_out ((qz_im μ2 11 x0b 0 12) - (qz_im μ2 11 x0b 0 12) / (60 : Int32) * (60 : Int32)) 60 then False else (wz_wr (qz_wI μ2 (53, x0b, ((qz_im μ2 11 x0b 0 12) - (qz_im μ2 11 x0b 0 12) / (60 : Int32) * (60 : Int32)).toNatClampNeg) 0 (0 : Int32)) (fun μ3 => (wz_wr (qz_wI μ3 (53, x0b, ((qz_im μ2 11 x0b 0 12) - (qz_im μ2 11 x0b 0 12) / (60 : Int32) * (60 : Int32)).toNatClampNeg) 1 (4 : Int32)) (fun μ4 => (wz_wr (qz_wI μ4 (53, x0b, ((qz_im μ2 11 x0b 0 12) - (qz_im μ2 11 x0b 0 12) / (60 : Int32) * (60 : Int32)).toNatClampNeg) 2 (x1 * (qz_im μ 13 x0b 0 1))) (fun μ5 => (wz_wr (qz_wI μ5 (53, x0b, ((qz_im μ2 11 x0b 0 12) - (qz_im μ2 11 x0b 0 12) / (60 : Int32) * (60 : Int32)).toNatClampNeg) 3 (-1 : Int32)) (fun μ6 => (wz_wr (qz_wI μ6 (53, x0b, ((qz_im μ2 11 x0b 0 12) - (qz_im μ2 11 x0b 0 12) / (60 : Int32) * (60 : Int32)).toNatClampNeg) 4 (qz_im μ6 11 x0b 0 13)) (fun μ7 => (wz_wr (qz_wI μ7 (11, x0b, 0) 12 ((qz_im μ7 11 x0b 0 12) + (1 : Int32))) (fun μ8 => (wz_loop qb_4_2 65536 (wz_sk gc_4_5 k R) R ([some (.inr (.inr (some (10, x0b, 0)))), some (.inl x1), some (.inl (0 : Int32)), none], [], μ8))))))))))))))))))) else (wz_loop qb_4_2 65536 (wz_sk gc_4_5 k R) R ([some (.inr (.inr (some (10, x0b, 0)))), some (.inl x1), some (.inl (0 : Int32)), none], [], μ)))) :
    gc_4_6 k R (L, [], μ) := wz_fgd hL h
set_option maxRecDepth 10000 in
set_option maxHeartbeats 400000 in
theorem fb_4_1 (x0b : Nat) (x1 : Int32) (x2 : Int32) (μ : qz_M) (k : wz_K) (R : wz_R) (L : qz_L) (hL : qz_fg [true, true, true, false] L = [some (.inr (.inr (some (10, x0b, 0)))), some (.inl x1), some (.inl x2), none])
    (h : (bif decide ((qz_im μ 11 x0b 0 2) ≤ x2) then (k 0 ([some (.inr (.inr (some (10, x0b, 0)))), some (.inl x1), some (.inl x2), none], [], μ)) else (bif pz_out x2 6 then False else (bif pz_out x2 6 then False else (wz_wr (qz_wI μ (43, x0b, x2.toNatClampNeg) 9 (0 : Int32)) (fun μ1 => (k 1 ([some (.inr (.inr (some (10, x0b, 0)))), some (.inl (x1 + (qz_im μ 43 x0b x2.toNatClampNeg 9))), some (.inl (x2 + (1 : Int32))), none], [], μ1)))))))) :
    gb_4_1 k R (L, [], μ) := wz_fgd hL h
set_option maxRecDepth 10000 in
set_option maxHeartbeats 400000 in
theorem fc_4_5 (x0b : Nat) (μ : qz_M) (k : wz_K) (R : wz_R) (L : qz_L) (hL : qz_fg [true, false, false, false] L = [some (.inr (.inr (some (10, x0b, 0)))), none, none, none])
    (h : (bif (!decide (((((qz_im μ 11 x0b 0 13) / (24 : Int32)) - (1 : Int32)) - (((qz_im μ 11 x0b 0 13) / (24 : Int32)) - (1 : Int32)) / (7 : Int32) * (7 : Int32)) = (6 : Int32))) then (wz_loop qb_4_3 65536 (wz_sk gc_4_4 k R) R ([some (.inr (.inr (some (10, x0b, 0)))), none, some (.inl (3 : Int32)), none], [], μ)) else (wz_cV qf_8 [.inr (.inr (some (10, x0b, 0)))] μ (fun μ1 => (wz_loop qb_4_3 65536 (wz_sk gc_4_4 k R) R ([some (.inr (.inr (some (10, x0b, 0)))), none, some (.inl (3 : Int32)), none], [], μ1))) (fun μ1 e => (R μ1 (.inr e)))))) :
    gc_4_5 k R (L, [], μ) := wz_fgd hL h
set_option maxRecDepth 10000 in
set_option maxHeartbeats 400000 in
theorem fb_4_2 (x0b : Nat) (x2 : Int32) (μ : qz_M) (k : wz_K) (R : wz_R) (L : qz_L) (hL : qz_fg [true, false, true, false] L = [some (.inr (.inr (some (10, x0b, 0)))), none, some (.inl x2), none])
    (h : (bif decide ((qz_im μ 11 x0b 0 10) ≤ x2) then (k 0 ([some (.inr (.inr (some (10, x0b, 0)))), none, some (.inl x2), none], [], μ)) else (bif pz_out x2 12 then False else (bif (!decide ((qz_im μ 54 x0b x2.toNatClampNeg 2) = 0)) then (k 1 ([some (.inr (.inr (some (10, x0b, 0)))), none, some (.inl (x2 + (1 : Int32))), none], [], μ)) else (bif pz_out x2 12 then False else (wz_cV qf_7 [.inr (.inr (some (10, x0b, 0))), .inr (.inr (some (54, x0b, x2.toNatClampNeg)))] μ (fun μ1 => (k 1 ([some (.inr (.inr (some (10, x0b, 0)))), none, some (.inl (x2 + (1 : Int32))), none], [], μ1))) (fun μ1 e => (R μ1 (.inr e))))))))) :
    gb_4_2 k R (L, [], μ) := wz_fgd hL h
set_option maxRecDepth 10000 in
set_option maxHeartbeats 400000 in
theorem fc_4_4  (μ : qz_M) (k : wz_K) (R : wz_R) (L : qz_L) (hL : qz_fg [false, false, false, false] L = [none, none, none, none])
    (h : (R μ (.inl none))) :
    gc_4_4 k R (L, [], μ) := wz_fgd hL h
set_option maxRecDepth 10000 in
set_option maxHeartbeats 400000 in
theorem fb_4_3 (x0b : Nat) (x2 : Int32) (μ : qz_M) (k : wz_K) (R : wz_R) (L : qz_L) (hL : qz_fg [true, false, true, false] L = [some (.inr (.inr (some (10, x0b, 0)))), none, some (.inl x2), none])
    (h : (bif decide ((8 : Int32) < x2) then (k 0 ([some (.inr (.inr (some (10, x0b, 0)))), none, some (.inl x2), none], [], μ)) else (bif pz_out x2 10 then False else (bif decide ((qz_im μ 14 x0b 0 x2.toNatClampNeg) ≤ 0) then (bif (!decide ((-(qz_im μ 14 x0b 0 x2.toNatClampNeg)) = 0)) then (wz_wr (qz_wI μ (14, x0b, 0) 9 ((qz_im μ 14 x0b 0 9) - (-(qz_im μ 14 x0b 0 x2.toNatClampNeg)))) (fun μ1 => (bif pz_out x2 10 then False else (bif pz_out x2 10 then False else (wz_wr (qz_wI μ1 (14, x0b, 0) x2.toNatClampNeg ((qz_im μ1 14 x0b 0 x2.toNatClampNeg) + (-(qz_im μ 14 x0b 0 x2.toNatClampNeg)))) (fun μ2 => (bif pz_out ((qz_im μ2 11 x0b 0 12) - (qz_im μ2 11 x0b 0 12) / (60 : Int32) * (60 : Int32)) 60 then False else (wz_wr (qz_wI μ2 (53, x0b, ((qz_im μ2 11 x0b 0 12) - (qz_im μ2 11 x0b 0 12) / (60 : Int32) * (60 : Int32)).toNatClampNeg) 0 (9 : Int32)) (fun μ3 => (wz_wr (qz_wI μ3 (53, x0b, ((qz_im μ2 11 x0b 0 12) - (qz_im μ2 11 x0b 0 12) / (60 : Int32) * (60 : Int32)).toNatClampNeg) 1 x2) (fun μ4 => (wz_wr (qz_wI μ4 (53, x0b, ((qz_im μ2 11 x0b 0 12) - (qz_im μ2 11 x0b 0 12) / (60 : Int32) * (60 : Int32)).toNatClampNeg) 2 (-(qz_im μ 14 x0b 0 x2.toNatClampNeg))) (fun μ5 => (wz_wr (qz_wI μ5 (53, x0b, ((qz_im μ2 11 x0b 0 12) - (qz_im μ2 11 x0b 0 12) / (60 : Int32) * (60 : Int32)).toNatClampNeg) 3 (-1 : Int32)) (fun μ6 => (wz_wr (qz_wI μ6 (53, x0b, ((qz_im μ2 11 x0b 0 12) - (qz_im μ2 11 x0b 0 12) / (60 : Int32) * (60 : Int32)).toNatClampNeg) 4 (qz_im μ6 11 x0b 0 13)) (fun μ7 => (wz_wr (qz_wI μ7 (11, x0b, 0) 12 ((qz_im μ7 11 x0b 0 12) + (1 : Int32))) (fun μ8 => (k 1 ([some (.inr (.inr (some (10, x0b, 0)))), none, some (.inl (x2 + (1 : Int32))), some (.inl (qz_im μ 14 x0b 0 x2.toNatClampNeg))], [], μ8))))))))))))))))))))) else (k 1 ([some (.inr (.inr (some (10, x0b, 0)))), none, some (.inl (x2 + (1 : Int32))), some (.inl (qz_im μ 14 x0b 0 x2.toNatClampNeg))], [], μ))) else (bif (!decide ((qz_im μ 14 x0b 0 x2.toNatClampNeg) = 0)) then (bif pz_out x2 10 then False else (bif pz_out x2 10 then False else (wz_wr (qz_wI μ (14, x0b, 0) x2.toNatClampNeg ((qz_im μ 14 x0b 0 x2.toNatClampNeg) - (qz_im μ 14 x0b 0 x2.toNatClampNeg))) (fun μ9 => (wz_wr (qz_wI μ9 (14, x0b, 0) 9 ((qz_im μ9 14 x0b 0 9) + (qz_im μ 14 x0b 0 x2.toNatClampNeg))) (fun μ10 => (bif pz_out ((qz_im μ10 11 x0b 0 12) - (qz_im μ10 11 x0b 0 12) / (60 : Int32) * (60 : Int32)) 60 then False else (wz_wr (qz_wI μ10 (53, x0b, ((qz_im μ10 11 x0b 0 12) - (qz_im μ10 11 x0b 0 12) / (60 : Int32) * (60 : Int32)).toNatClampNeg) 0 x2) (fun μ11 => (wz_wr (qz_wI μ11 (53, x0b, ((qz_im μ10 11 x0b 0 12) - (qz_im μ10 11 x0b 0 12) / (60 : Int32) * (60 : Int32)).toNatClampNeg) 1 (9 : Int32)) (fun μ12 => (wz_wr (qz_wI μ12 (53, x0b, ((qz_im μ10 11 x0b 0 12) - (qz_im μ10 11 x0b 0 12) / (60 : Int32) * (60 : Int32)).toNatClampNeg) 2 (qz_im μ 14 x0b 0 x2.toNatClampNeg)) (fun μ13 => (wz_wr (qz_wI μ13 (53, x0b, ((qz_im μ10 11 x0b 0 12) - (qz_im μ10 11 x0b 0 12) / (60 : Int32) * (60 : Int32)).toNatClampNeg) 3 (-1 : Int32)) (fun μ14 => (wz_wr (qz_wI μ14 (53, x0b, ((qz_im μ10 11 x0b 0 12) - (qz_im μ10 11 x0b 0 12) / (60 : Int32) * (60 : Int32)).toNatClampNeg) 4 (qz_im μ14 11 x0b 0 13)) (fun μ15 => (wz_wr (qz_wI μ15 (11, x0b, 0) 12 ((qz_im μ15 11 x0b 0 12) + (1 : Int32))) (fun μ16 => (k 1 ([some (.inr (.inr (some (10, x0b, 0)))), none, some (.inl (x2 + (1 : Int32))), some (.inl (qz_im μ 14 x0b 0 x2.toNatClampNeg))], [], μ16))))))))))))))))))))) else (k 1 ([some (.inr (.inr (some (10, x0b, 0)))), none, some (.inl (x2 + (1 : Int32))), some (.inl (qz_im μ 14 x0b 0 x2.toNatClampNeg))], [], μ))))))) :
    gb_4_3 k R (L, [], μ) := wz_fgd hL h
/- X0 enterSold -/
/- X1 addBuyer -/
/- X1 addOrder -/
/- X5 isFrom -/
/- X1 areSound -/
set_option maxRecDepth 10000 in
set_option maxHeartbeats 400000 in
theorem fw_13 (a0b : Nat) (μ : qz_M) (R : wz_R)
    (h : (wz_loop qb_13_3 65536 (wz_sk gc_13_8 wz_k0 R) R ([some (.inr (.inr (some (10, a0b, 0)))), some (.inl (1 : Int32)), some (.inl (0 : Int32)), none, none, none, none, none], [], μ))) :
    wz_call qf_13 [.inr (.inr (some (10, a0b, 0)))] μ R := wz_mt9 (L := [some (.inr (.inr (some (10, a0b, 0)))), none, none, none, none, none, none, none]) sw_13 rfl h
set_option maxRecDepth 10000 in
set_option maxHeartbeats 400000 in
theorem fc_13_8 (x0b : Nat) (x1 : Int32) (μ : qz_M) (k : wz_K) (R : wz_R) (L : qz_L) (hL : qz_fg [true, true, false, false, false, false, false, false] L = [some (.inr (.inr (some (10, x0b, 0)))), some (.inl x1), none, none, none, none, none, none])
    (h : (wz_loop qb_13_4 65536 (wz_sk gc_13_7 k R) R ([some (.inr (.inr (some (10, x0b, 0)))), some (.inl x1), some (.inl (0 : Int32)), none, none, none, none, none], [], μ))) :
    gc_13_8 k R (L, [], μ) := wz_fgd hL h
set_option maxRecDepth 10000 in
set_option maxHeartbeats 400000 in
theorem fb_13_3 (x0b : Nat) (x1 : Int32) (x2 : Int32) (μ : qz_M) (k : wz_K) (R : wz_R) (L : qz_L) (hL : qz_fg [true, true, true, false, false, false, false, false] L = [some (.inr (.inr (some (10, x0b, 0)))), some (.inl x1), some (.inl x2), none, none, none, none, none])
    (h : (bif decide ((qz_im μ 11 x0b 0 4) ≤ x2) then (k 0 ([some (.inr (.inr (some (10, x0b, 0)))), some (.inl x1), some (.inl x2), none, none, none, none, none], [], μ)) else (bif decide (x1 = 0) then (k 0 ([some (.inr (.inr (some (10, x0b, 0)))), some (.inl x1), some (.inl x2), none, none, none, none, none], [], μ)) else (bif pz_out x2 8 then False else (wz_loop qb_13_1 65536 (wz_sk gc_13_2 (wz_kb k) R) R ([some (.inr (.inr (some (10, x0b, 0)))), some (.inl x1), some (.inl x2), some (.inr (.inr (some (45, x0b, x2.toNatClampNeg)))), some (.inl (0 : Int32)), some (.inl (0 : Int32)), some (.inl (0 : Int32)), none], [], μ)))))) :
    gb_13_3 k R (L, [], μ) := wz_fgd hL h
set_option maxRecDepth 10000 in
set_option maxHeartbeats 400000 in
theorem fc_13_7 (x0b : Nat) (x1 : Int32) (μ : qz_M) (k : wz_K) (R : wz_R) (L : qz_L) (hL : qz_fg [true, true, false, false, false, false, false, false] L = [some (.inr (.inr (some (10, x0b, 0)))), some (.inl x1), none, none, none, none, none, none])
    (h : (wz_loop qb_13_5 65536 (wz_sk gc_13_6 k R) R ([some (.inr (.inr (some (10, x0b, 0)))), some (.inl x1), some (.inl (0 : Int32)), none, none, none, none, none], [], μ))) :
    gc_13_7 k R (L, [], μ) := wz_fgd hL h
set_option maxRecDepth 10000 in
set_option maxHeartbeats 400000 in
theorem fb_13_4 (x0b : Nat) (x1 : Int32) (x2 : Int32) (μ : qz_M) (k : wz_K) (R : wz_R) (L : qz_L) (hL : qz_fg [true, true, true, false, false, false, false, false] L = [some (.inr (.inr (some (10, x0b, 0)))), some (.inl x1), some (.inl x2), none, none, none, none, none])
    (h : (bif decide ((qz_im μ 11 x0b 0 6) ≤ x2) then (k 0 ([some (.inr (.inr (some (10, x0b, 0)))), some (.inl x1), some (.inl x2), none, none, none, none, none], [], μ)) else (bif decide (x1 = 0) then (k 0 ([some (.inr (.inr (some (10, x0b, 0)))), some (.inl x1), some (.inl x2), none, none, none, none, none], [], μ)) else (bif pz_out x2 60 then False else (bif (!decide ((qz_im μ 47 x0b x2.toNatClampNeg 9) = (3 : Int32))) then (bif decide ((qz_im μ 47 x0b x2.toNatClampNeg 19) < (0 : Int32)) then (k 1 ([some (.inr (.inr (some (10, x0b, 0)))), some (.inl (0 : Int32)), some (.inl (x2 + (1 : Int32))), some (.inr (.inr (some (47, x0b, x2.toNatClampNeg)))), some (.inl (qz_im μ 47 x0b x2.toNatClampNeg 18)), none, none, none], [], μ)) else (bif decide ((qz_im μ 47 x0b x2.toNatClampNeg 18) < (qz_im μ 47 x0b x2.toNatClampNeg 19)) then (k 1 ([some (.inr (.inr (some (10, x0b, 0)))), some (.inl (0 : Int32)), some (.inl (x2 + (1 : Int32))), some (.inr (.inr (some (47, x0b, x2.toNatClampNeg)))), some (.inl (qz_im μ 47 x0b x2.toNatClampNeg 18)), none, none, none], [], μ)) else (k 1 ([some (.inr (.inr (some (10, x0b, 0)))), some (.inl (1 : Int32)), some (.inl (x2 + (1 : Int32))), some (.inr (.inr (some (47, x0b, x2.toNatClampNeg)))), some (.inl (qz_im μ 47 x0b x2.toNatClampNeg 18)), none, none, none], [], μ)))) else (bif decide ((qz_im μ 47 x0b x2.toNatClampNeg 19) < (0 : Int32)) then (k 1 ([some (.inr (.inr (some (10, x0b, 0)))), some (.inl (0 : Int32)), some (.inl (x2 + (1 : Int32))), some (.inr (.inr (some (47, x0b, x2.toNatClampNeg)))), some (.inl (0 : Int32)), none, none, none], [], μ)) else (bif decide ((0 : Int32) < (qz_im μ 47 x0b x2.toNatClampNeg 19)) then (k 1 ([some (.inr (.inr (some (10, x0b, 0)))), some (.inl (0 : Int32)), some (.inl (x2 + (1 : Int32))), some (.inr (.inr (some (47, x0b, x2.toNatClampNeg)))), some (.inl (0 : Int32)), none, none, none], [], μ)) else (k 1 ([some (.inr (.inr (some (10, x0b, 0)))), some (.inl (1 : Int32)), some (.inl (x2 + (1 : Int32))), some (.inr (.inr (some (47, x0b, x2.toNatClampNeg)))), some (.inl (0 : Int32)), none, none, none], [], μ))))))))) :
    gb_13_4 k R (L, [], μ) := wz_fgd hL h
set_option maxRecDepth 10000 in
set_option maxHeartbeats 400000 in
theorem fc_13_6 (x1 : Int32) (μ : qz_M) (k : wz_K) (R : wz_R) (L : qz_L) (hL : qz_fg [false, true, false, false, false, false, false, false] L = [none, some (.inl x1), none, none, none, none, none, none])
    (h : (bif decide (x1 = 0) || decide (x1 = 1) then (R μ (.inl (some (.inl x1)))) else False)) :
    gc_13_6 k R (L, [], μ) := wz_fgd hL h
set_option maxRecDepth 10000 in
set_option maxHeartbeats 400000 in
theorem fb_13_5 (x0b : Nat) (x1 : Int32) (x2 : Int32) (μ : qz_M) (k : wz_K) (R : wz_R) (L : qz_L) (hL : qz_fg [true, true, true, false, false, false, false, false] L = [some (.inr (.inr (some (10, x0b, 0)))), some (.inl x1), some (.inl x2), none, none, none, none, none])
    (h : (bif decide ((qz_im μ 11 x0b 0 5) ≤ x2) then (k 0 ([some (.inr (.inr (some (10, x0b, 0)))), some (.inl x1), some (.inl x2), none, none, none, none, none], [], μ)) else (bif decide (x1 = 0) then (k 0 ([some (.inr (.inr (some (10, x0b, 0)))), some (.inl x1), some (.inl x2), none, none, none, none, none], [], μ)) else (bif pz_out x2 24 then False else (bif (!decide ((qz_im μ 46 x0b x2.toNatClampNeg 7) = (1 : Int32))) then (bif decide ((qz_im μ 46 x0b x2.toNatClampNeg 6) < (0 : Int32)) then (k 1 ([some (.inr (.inr (some (10, x0b, 0)))), some (.inl (0 : Int32)), some (.inl (x2 + (1 : Int32))), some (.inr (.inr (some (46, x0b, x2.toNatClampNeg)))), some (.inl (qz_im μ 46 x0b x2.toNatClampNeg 3)), none, none, none], [], μ)) else (bif decide ((qz_im μ 46 x0b x2.toNatClampNeg 3) < (qz_im μ 46 x0b x2.toNatClampNeg 6)) then (k 1 ([some (.inr (.inr (some (10, x0b, 0)))), some (.inl (0 : Int32)), some (.inl (x2 + (1 : Int32))), some (.inr (.inr (some (46, x0b, x2.toNatClampNeg)))), some (.inl (qz_im μ 46 x0b x2.toNatClampNeg 3)), none, none, none], [], μ)) else (k 1 ([some (.inr (.inr (some (10, x0b, 0)))), some (.inl (1 : Int32)), some (.inl (x2 + (1 : Int32))), some (.inr (.inr (some (46, x0b, x2.toNatClampNeg)))), some (.inl (qz_im μ 46 x0b x2.toNatClampNeg 3)), none, none, none], [], μ)))) else (bif decide ((qz_im μ 46 x0b x2.toNatClampNeg 6) < (0 : Int32)) then (k 1 ([some (.inr (.inr (some (10, x0b, 0)))), some (.inl (0 : Int32)), some (.inl (x2 + (1 : Int32))), some (.inr (.inr (some (46, x0b, x2.toNatClampNeg)))), some (.inl (0 : Int32)), none, none, none], [], μ)) else (bif decide ((0 : Int32) < (qz_im μ 46 x0b x2.toNatClampNeg 6)) then (k 1 ([some (.inr (.inr (some (10, x0b, 0)))), some (.inl (0 : Int32)), some (.inl (x2 + (1 : Int32))), some (.inr (.inr (some (46, x0b, x2.toNatClampNeg)))), some (.inl (0 : Int32)), none, none, none], [], μ)) else (k 1 ([some (.inr (.inr (some (10, x0b, 0)))), some (.inl (1 : Int32)), some (.inl (x2 + (1 : Int32))), some (.inr (.inr (some (46, x0b, x2.toNatClampNeg)))), some (.inl (0 : Int32)), none, none, none], [], μ))))))))) :
    gb_13_5 k R (L, [], μ) := wz_fgd hL h
/- X6 isToday -/
/- X1 asks -/
/- X1 cancelFault -/
/- X1 cancelOrder -/
/- X1 payBillsOf -/
/- X1 closeDay -/
set_option maxRecDepth 10000 in
set_option maxHeartbeats 400000 in
theorem fw_17 (a0b : Nat) (μ : qz_M) (R : wz_R)
    (h : (wz_loop qb_17_3 65536 (wz_sk gc_17_6 wz_k0 R) R ([some (.inr (.inr (some (10, a0b, 0)))), some (.inl (((qz_im μ 11 a0b 0 13) / (24 : Int32)) - (1 : Int32))), some (.inl (0 : Int32)), none], [], μ))) :
    wz_call qf_17 [.inr (.inr (some (10, a0b, 0)))] μ R := wz_mt9 (L := [some (.inr (.inr (some (10, a0b, 0)))), none, none, none]) sw_17 rfl h
set_option maxRecDepth 10000 in
set_option maxHeartbeats 400000 in
theorem fc_17_6 (x0b : Nat) (μ : qz_M) (k : wz_K) (R : wz_R) (L : qz_L) (hL : qz_fg [true, false, false, false] L = [some (.inr (.inr (some (10, x0b, 0)))), none, none, none])
    (h : (wz_loop qb_17_4 65536 (wz_sk gc_17_5 k R) R ([some (.inr (.inr (some (10, x0b, 0)))), none, some (.inl (0 : Int32)), none], [], μ))) :
    gc_17_6 k R (L, [], μ) := wz_fgd hL h
set_option maxRecDepth 10000 in
set_option maxHeartbeats 400000 in
theorem fb_17_3 (x0b : Nat) (x1 : Int32) (x2 : Int32) (μ : qz_M) (k : wz_K) (R : wz_R) (L : qz_L) (hL : qz_fg [true, true, true, false] L = [some (.inr (.inr (some (10, x0b, 0)))), some (.inl x1), some (.inl x2), none])
    (h : (bif decide ((qz_im μ 11 x0b 0 4) ≤ x2) then (k 0 ([some (.inr (.inr (some (10, x0b, 0)))), some (.inl x1), some (.inl x2), none], [], μ)) else (bif pz_out x2 8 then False else (wz_wr (qz_wI μ (45, x0b, x2.toNatClampNeg) 7 (0 : Int32)) (fun μ1 => (wz_loop qb_17_1 65536 (wz_sk gc_17_2 (wz_kb k) R) R ([some (.inr (.inr (some (10, x0b, 0)))), some (.inl x1), some (.inl x2), some (.inl (0 : Int32))], [], μ1))))))) :
    gb_17_3 k R (L, [], μ) := wz_fgd hL h
set_option maxRecDepth 10000 in
set_option maxHeartbeats 400000 in
theorem fc_17_5  (μ : qz_M) (k : wz_K) (R : wz_R) (L : qz_L) (hL : qz_fg [false, false, false, false] L = [none, none, none, none])
    (h : (R μ (.inl none))) :
    gc_17_5 k R (L, [], μ) := wz_fgd hL h
set_option maxRecDepth 10000 in
set_option maxHeartbeats 400000 in
theorem fb_17_4 (x0b : Nat) (x2 : Int32) (μ : qz_M) (k : wz_K) (R : wz_R) (L : qz_L) (hL : qz_fg [true, false, true, false] L = [some (.inr (.inr (some (10, x0b, 0)))), none, some (.inl x2), none])
    (h : (bif decide ((qz_im μ 11 x0b 0 5) ≤ x2) then (k 0 ([some (.inr (.inr (some (10, x0b, 0)))), none, some (.inl x2), none], [], μ)) else (bif pz_out x2 24 then False else (bif (!decide ((qz_im μ 46 x0b x2.toNatClampNeg 7) = 0)) then (k 1 ([some (.inr (.inr (some (10, x0b, 0)))), none, some (.inl (x2 + (1 : Int32))), some (.inr (.inr (some (46, x0b, x2.toNatClampNeg))))], [], μ)) else (bif (!decide ((((qz_im μ 46 x0b x2.toNatClampNeg 5) >>> ((((qz_im μ 11 x0b 0 13) / (24 : Int32)) - ((qz_im μ 11 x0b 0 13) / (24 : Int32)) / (7 : Int32) * (7 : Int32)) &&& 31)) &&& (1 : Int32)) = (1 : Int32))) then (k 1 ([some (.inr (.inr (some (10, x0b, 0)))), none, some (.inl (x2 + (1 : Int32))), some (.inr (.inr (some (46, x0b, x2.toNatClampNeg))))], [], μ)) else (wz_wr (qz_wI μ (46, x0b, x2.toNatClampNeg) 6 (qz_im μ 46 x0b x2.toNatClampNeg 3)) (fun μ1 => (k 1 ([some (.inr (.inr (some (10, x0b, 0)))), none, some (.inl (x2 + (1 : Int32))), some (.inr (.inr (some (46, x0b, x2.toNatClampNeg))))], [], μ1))))))))) :
    gb_17_4 k R (L, [], μ) := wz_fgd hL h
/- X1 come -/
/- X1 cratesGiven -/
set_option maxRecDepth 10000 in
set_option maxHeartbeats 400000 in
theorem fw_19 (a0b : Nat) (μ : qz_M) (R : wz_R)
    (h : (wz_loop qb_19_1 65536 (wz_sk gc_19_2 wz_k0 R) R ([some (.inr (.inr (some (10, a0b, 0)))), some (.inr (.inr (some (69, 0, 0)))), some (.inl (0 : Int32)), some (.inl (0 : Int32))], [], μ))) :
    wz_call qf_19 [.inr (.inr (some (10, a0b, 0))), .inr (.inr (some (69, 0, 0)))] μ R := wz_mt9 (L := [some (.inr (.inr (some (10, a0b, 0)))), some (.inr (.inr (some (69, 0, 0)))), none, none]) sw_19 rfl h
set_option maxRecDepth 10000 in
set_option maxHeartbeats 400000 in
theorem fc_19_2 (x2 : Int32) (μ : qz_M) (k : wz_K) (R : wz_R) (L : qz_L) (hL : qz_fg [false, false, true, false] L = [none, none, some (.inl x2), none])
    (h : (R μ (.inl (some (.inl x2))))) :
    gc_19_2 k R (L, [], μ) := wz_fgd hL h
set_option maxRecDepth 10000 in
set_option maxHeartbeats 400000 in
theorem fb_19_1 (x0b : Nat) (x2 : Int32) (x3 : Int32) (μ : qz_M) (k : wz_K) (R : wz_R) (L : qz_L) (hL : qz_fg [true, true, true, true] L = [some (.inr (.inr (some (10, x0b, 0)))), some (.inr (.inr (some (69, 0, 0)))), some (.inl x2), some (.inl x3)])
    (h : (bif decide ((qz_im μ 11 x0b 0 5) ≤ x3) then (k 0 ([some (.inr (.inr (some (10, x0b, 0)))), some (.inr (.inr (some (69, 0, 0)))), some (.inl x2), some (.inl x3)], [], μ)) else (bif pz_out x3 24 then False else (k 1 ([some (.inr (.inr (some (10, x0b, 0)))), some (.inr (.inr (some (69, 0, 0)))), some (.inl (x2 + (qz_im μ 69 0 0 x3.toNatClampNeg))), some (.inl (x3 + (1 : Int32)))], [], μ))))) :
    gb_19_1 k R (L, [], μ) := wz_fgd hL h
/- X1 enterLost -/
/- X1 findSupply -/
set_option maxRecDepth 10000 in
set_option maxHeartbeats 400000 in
theorem fw_22 (a0b : Nat) (a1 : qz_R) (μ : qz_M) (R : wz_R)
    (h : (wz_loop qb_22_3 65536 (wz_sk gc_22_4 wz_k0 R) R ([some (.inr (.inr (some (10, a0b, 0)))), some (.inr (.inr (some a1))), some (.inl (0 : Int32)), none, none, none], [], μ))) :
    wz_call qf_22 [.inr (.inr (some (10, a0b, 0))), .inr (.inr (some a1))] μ R := wz_mt9 (L := [some (.inr (.inr (some (10, a0b, 0)))), some (.inr (.inr (some a1))), none, none, none, none]) sw_22 rfl h
set_option maxRecDepth 10000 in
set_option maxHeartbeats 400000 in
theorem fc_22_4  (μ : qz_M) (k : wz_K) (R : wz_R) (L : qz_L) (hL : qz_fg [false, false, false, false, false, false] L = [none, none, none, none, none, none])
    (h : (R μ (.inl none))) :
    gc_22_4 k R (L, [], μ) := wz_fgd hL h
set_option maxRecDepth 10000 in
set_option maxHeartbeats 400000 in
theorem fb_22_3 (x0b : Nat) (x1 : qz_R) (x2 : Int32) (μ : qz_M) (k : wz_K) (R : wz_R) (L : qz_L) (hL : qz_fg [true, true, true, false, false, false] L = [some (.inr (.inr (some (10, x0b, 0)))), some (.inr (.inr (some x1))), some (.inl x2), none, none, none])
    (h : (bif decide ((qz_im μ 11 x0b 0 3) ≤ x2) then (k 0 ([some (.inr (.inr (some (10, x0b, 0)))), some (.inr (.inr (some x1))), some (.inl x2), none, none, none], [], μ)) else (bif pz_out x2 48 then False else (bif (!decide ((qz_im μ 44 x0b x2.toNatClampNeg 9) = (-1 : Int32))) then (wz_loop qb_22_1 65536 (wz_sk gc_22_2 (wz_kb k) R) R ([some (.inr (.inr (some (10, x0b, 0)))), some (.inr (.inr (some x1))), some (.inl x2), some (.inr (.inr (some (44, x0b, x2.toNatClampNeg)))), some (.inl (qz_im μ 44 x0b x2.toNatClampNeg 9)), some (.inl (qz_im μ 44 x0b x2.toNatClampNeg 9))], [], μ)) else (wz_loop qb_22_1 65536 (wz_sk gc_22_2 (wz_kb k) R) R ([some (.inr (.inr (some (10, x0b, 0)))), some (.inr (.inr (some x1))), some (.inl x2), some (.inr (.inr (some (44, x0b, x2.toNatClampNeg)))), some (.inl (4 : Int32)), some (.inl (4 : Int32))], [], μ)))))) :
    gb_22_3 k R (L, [], μ) := wz_fgd hL h
/- X1 nextToFill -/
set_option maxRecDepth 10000 in
set_option maxHeartbeats 400000 in
theorem fw_29 (a0b : Nat) (μ : qz_M) (R : wz_R)
    (h : (wz_loop qb_29_1 65536 (wz_sk gc_29_2 wz_k0 R) R ([some (.inr (.inr (some (10, a0b, 0)))), some (.inr (.inr (some (69, 0, 0)))), some (.inl (-1 : Int32)), some (.inl (0 : Int32))], [], μ))) :
    wz_call qf_29 [.inr (.inr (some (10, a0b, 0))), .inr (.inr (some (69, 0, 0)))] μ R := wz_mt9 (L := [some (.inr (.inr (some (10, a0b, 0)))), some (.inr (.inr (some (69, 0, 0)))), none, none]) sw_29 rfl h
set_option maxRecDepth 10000 in
set_option maxHeartbeats 400000 in
theorem fc_29_2 (x2 : Int32) (μ : qz_M) (k : wz_K) (R : wz_R) (L : qz_L) (hL : qz_fg [false, false, true, false] L = [none, none, some (.inl x2), none])
    (h : (R μ (.inl (some (.inl x2))))) :
    gc_29_2 k R (L, [], μ) := wz_fgd hL h
set_option maxRecDepth 10000 in
set_option maxHeartbeats 400000 in
theorem fb_29_1 (x0b : Nat) (x2 : Int32) (x3 : Int32) (μ : qz_M) (k : wz_K) (R : wz_R) (L : qz_L) (hL : qz_fg [true, true, true, true] L = [some (.inr (.inr (some (10, x0b, 0)))), some (.inr (.inr (some (69, 0, 0)))), some (.inl x2), some (.inl x3)])
    (h : (bif decide ((qz_im μ 11 x0b 0 5) ≤ x3) then (k 0 ([some (.inr (.inr (some (10, x0b, 0)))), some (.inr (.inr (some (69, 0, 0)))), some (.inl x2), some (.inl x3)], [], μ)) else (bif pz_out x3 24 then False else (bif (!decide ((qz_im μ 69 0 0 x3.toNatClampNeg) = (-1 : Int32))) then (k 1 ([some (.inr (.inr (some (10, x0b, 0)))), some (.inr (.inr (some (69, 0, 0)))), some (.inl x2), some (.inl (x3 + (1 : Int32)))], [], μ)) else (bif decide (x2 = (-1 : Int32)) then (k 1 ([some (.inr (.inr (some (10, x0b, 0)))), some (.inr (.inr (some (69, 0, 0)))), some (.inl x3), some (.inl (x3 + (1 : Int32)))], [], μ)) else (bif pz_out x3 24 then False else (bif pz_out x2 24 then False else (bif decide ((qz_im μ 46 x0b x3.toNatClampNeg 4) ≤ (qz_im μ 46 x0b x2.toNatClampNeg 4)) then (k 1 ([some (.inr (.inr (some (10, x0b, 0)))), some (.inr (.inr (some (69, 0, 0)))), some (.inl x2), some (.inl (x3 + (1 : Int32)))], [], μ)) else (k 1 ([some (.inr (.inr (some (10, x0b, 0)))), some (.inr (.inr (some (69, 0, 0)))), some (.inl x3), some (.inl (x3 + (1 : Int32)))], [], μ)))))))))) :
    gb_29_1 k R (L, [], μ) := wz_fgd hL h
/- X1 giveFrom -/
/- X1 fill -/
set_option maxRecDepth 10000 in
set_option maxHeartbeats 400000 in
theorem fw_21 (a0b : Nat) (μ : qz_M) (R : wz_R)
    (h : (wz_wr (qz_al μ 50 1 20 1 20) (fun μ1 => (wz_cV qf_22 [.inr (.inr (some (10, a0b, 0))), .inr (.inr (some (200, (qz_na μ), 0)))] μ1 (fun μ2 => (wz_loop qb_21_1 65536 (wz_sk gc_21_4 wz_k0 R) R ([some (.inr (.inr (some (10, a0b, 0)))), some (.inr (.inr (some (69, 0, 0)))), some (.inr (.inr (some (200, (qz_na μ), 0)))), some (.inl (0 : Int32)), none, none], [], μ2))) (fun μ2 e => (R μ2 (.inr e))))))) :
    wz_call qf_21 [.inr (.inr (some (10, a0b, 0))), .inr (.inr (some (69, 0, 0)))] μ R := wz_mt9 (L := [some (.inr (.inr (some (10, a0b, 0)))), some (.inr (.inr (some (69, 0, 0)))), none, none, none, none]) sw_21 rfl h
set_option maxRecDepth 10000 in
set_option maxHeartbeats 400000 in
theorem fc_21_4 (x0b : Nat) (x2 : Nat) (μ : qz_M) (k : wz_K) (R : wz_R) (L : qz_L) (hL : qz_fg [true, true, true, false, false, false] L = [some (.inr (.inr (some (10, x0b, 0)))), some (.inr (.inr (some (69, 0, 0)))), some (.inr (.inr (some (200, x2, 0)))), none, none, none])
    (h : (wz_loop qb_21_2 65536 (wz_sk gc_21_3 k R) R ([some (.inr (.inr (some (10, x0b, 0)))), some (.inr (.inr (some (69, 0, 0)))), some (.inr (.inr (some (200, x2, 0)))), some (.inl (0 : Int32)), some (.inl (0 : Int32)), none], [], μ))) :
    gc_21_4 k R (L, [], μ) := wz_fgd hL h
set_option maxRecDepth 10000 in
set_option maxHeartbeats 400000 in
theorem fb_21_1 (x0b : Nat) (x2 : Nat) (x3 : Int32) (μ : qz_M) (k : wz_K) (R : wz_R) (L : qz_L) (hL : qz_fg [true, true, true, true, false, false] L = [some (.inr (.inr (some (10, x0b, 0)))), some (.inr (.inr (some (69, 0, 0)))), some (.inr (.inr (some (200, x2, 0)))), some (.inl x3), none, none])
    (h : (bif decide ((24 : Int32) ≤ x3) then (k 0 ([some (.inr (.inr (some (10, x0b, 0)))), some (.inr (.inr (some (69, 0, 0)))), some (.inr (.inr (some (200, x2, 0)))), some (.inl x3), none, none], [], μ)) else (bif decide ((qz_im μ 11 x0b 0 5) ≤ x3) then (bif pz_out x3 24 then False else (wz_wr (qz_wI μ (69, 0, 0) x3.toNatClampNeg (0 : Int32)) (fun μ1 => (k 1 ([some (.inr (.inr (some (10, x0b, 0)))), some (.inr (.inr (some (69, 0, 0)))), some (.inr (.inr (some (200, x2, 0)))), some (.inl (x3 + (1 : Int32))), none, none], [], μ1))))) else (bif pz_out x3 24 then False else (wz_cI qf_14 [.inr (.inr (some (10, x0b, 0))), .inr (.inr (some (46, x0b, x3.toNatClampNeg)))] μ (fun μ2 v3 => (bif decide (v3 = 0) then (bif pz_out x3 24 then False else (wz_wr (qz_wI μ2 (69, 0, 0) x3.toNatClampNeg (0 : Int32)) (fun μ4 => (k 1 ([some (.inr (.inr (some (10, x0b, 0)))), some (.inr (.inr (some (69, 0, 0)))), some (.inr (.inr (some (200, x2, 0)))), some (.inl (x3 + (1 : Int32))), none, none], [], μ4))))) else (bif pz_out x3 24 then False else (wz_wr (qz_wI μ2 (69, 0, 0) x3.toNatClampNeg (-1 : Int32)) (fun μ5 => (k 1 ([some (.inr (.inr (some (10, x0b, 0)))), some (.inr (.inr (some (69, 0, 0)))), some (.inr (.inr (some (200, x2, 0)))), some (.inl (x3 + (1 : Int32))), none, none], [], μ5))))))) (fun μ2 e => (R μ2 (.inr e)))))))) :
    gb_21_1 k R (L, [], μ) := wz_fgd hL h
set_option maxRecDepth 10000 in
set_option maxHeartbeats 400000 in
theorem fc_21_3 (x3 : Int32) (μ : qz_M) (k : wz_K) (R : wz_R) (L : qz_L) (hL : qz_fg [false, false, false, true, false, false] L = [none, none, none, some (.inl x3), none, none])
    (h : (R μ (.inl (some (.inl x3))))) :
    gc_21_3 k R (L, [], μ) := wz_fgd hL h
set_option maxRecDepth 10000 in
set_option maxHeartbeats 400000 in
theorem fb_21_2 (x0b : Nat) (x2 : Nat) (x3 : Int32) (x4 : Int32) (μ : qz_M) (k : wz_K) (R : wz_R) (L : qz_L) (hL : qz_fg [true, true, true, true, true, false] L = [some (.inr (.inr (some (10, x0b, 0)))), some (.inr (.inr (some (69, 0, 0)))), some (.inr (.inr (some (200, x2, 0)))), some (.inl x3), some (.inl x4), none])
    (h : (bif decide ((24 : Int32) ≤ x4) then (k 0 ([some (.inr (.inr (some (10, x0b, 0)))), some (.inr (.inr (some (69, 0, 0)))), some (.inr (.inr (some (200, x2, 0)))), some (.inl x3), some (.inl x4), none], [], μ)) else (wz_cI qf_29 [.inr (.inr (some (10, x0b, 0))), .inr (.inr (some (69, 0, 0)))] μ (fun μ1 v2 => (bif decide (v2 = (-1 : Int32)) then (k 1 ([some (.inr (.inr (some (10, x0b, 0)))), some (.inr (.inr (some (69, 0, 0)))), some (.inr (.inr (some (200, x2, 0)))), some (.inl x3), some (.inl (x4 + (1 : Int32))), some (.inl v2)], [], μ1)) else (bif pz_out v2 24 then False else (wz_cI qf_24 [.inr (.inr (some (200, x2, 0))), .inr (.inr (some (46, x0b, v2.toNatClampNeg)))] μ1 (fun μ3 v4 => (bif pz_out v2 24 then False else (wz_wr (qz_wI μ3 (69, 0, 0) v2.toNatClampNeg v4) (fun μ5 => (bif pz_out v2 24 then False else (bif pz_out v2 24 then False else (k 1 ([some (.inr (.inr (some (10, x0b, 0)))), some (.inr (.inr (some (69, 0, 0)))), some (.inr (.inr (some (200, x2, 0)))), some (.inl (x3 + ((qz_im μ5 69 0 0 v2.toNatClampNeg) * (qz_im μ5 46 x0b v2.toNatClampNeg 4)))), some (.inl (x4 + (1 : Int32))), some (.inl v2)], [], μ5)))))))) (fun μ3 e => (R μ3 (.inr e))))))) (fun μ1 e => (R μ1 (.inr e)))))) :
    gb_21_2 k R (L, [], μ) := wz_fgd hL h

/-! what the methods ask, 3 -/
/- X1 suits -/
/- X1 left -/
/- X1 highestOf -/
/- X1 highestPrice -/
/- X1 howManyAsk -/
set_option maxRecDepth 10000 in
set_option maxHeartbeats 400000 in
theorem fw_27 (a0b : Nat) (μ : qz_M) (R : wz_R)
    (h : (wz_loop qb_27_1 65536 (wz_sk gc_27_2 wz_k0 R) R ([some (.inr (.inr (some (10, a0b, 0)))), some (.inl (0 : Int32)), some (.inl (0 : Int32))], [], μ))) :
    wz_call qf_27 [.inr (.inr (some (10, a0b, 0)))] μ R := wz_mt9 (L := [some (.inr (.inr (some (10, a0b, 0)))), none, none]) sw_27 rfl h
set_option maxRecDepth 10000 in
set_option maxHeartbeats 400000 in
theorem fc_27_2 (x1 : Int32) (μ : qz_M) (k : wz_K) (R : wz_R) (L : qz_L) (hL : qz_fg [false, true, false] L = [none, some (.inl x1), none])
    (h : (R μ (.inl (some (.inl x1))))) :
    gc_27_2 k R (L, [], μ) := wz_fgd hL h
set_option maxRecDepth 10000 in
set_option maxHeartbeats 400000 in
theorem fb_27_1 (x0b : Nat) (x1 : Int32) (x2 : Int32) (μ : qz_M) (k : wz_K) (R : wz_R) (L : qz_L) (hL : qz_fg [true, true, true] L = [some (.inr (.inr (some (10, x0b, 0)))), some (.inl x1), some (.inl x2)])
    (h : (bif decide ((qz_im μ 11 x0b 0 5) ≤ x2) then (k 0 ([some (.inr (.inr (some (10, x0b, 0)))), some (.inl x1), some (.inl x2)], [], μ)) else (bif pz_out x2 24 then False else (wz_cI qf_14 [.inr (.inr (some (10, x0b, 0))), .inr (.inr (some (46, x0b, x2.toNatClampNeg)))] μ (fun μ1 v2 => (bif decide (v2 = 0) then (k 1 ([some (.inr (.inr (some (10, x0b, 0)))), some (.inl (x1 + (0 : Int32))), some (.inl (x2 + (1 : Int32)))], [], μ1)) else (k 1 ([some (.inr (.inr (some (10, x0b, 0)))), some (.inl (x1 + (1 : Int32))), some (.inl (x2 + (1 : Int32)))], [], μ1)))) (fun μ1 e => (R μ1 (.inr e))))))) :
    gb_27_1 k R (L, [], μ) := wz_fgd hL h
/- X1 payIn -/
/- X1 sell -/
/- X1 takerOf -/
/- X1 tellBuyer -/
/- X1 tellParcel -/
/- X2 addTruck -/
/- X2 parcelsIn -/
/- X2 atDocks -/
set_option maxRecDepth 10000 in
set_option maxHeartbeats 400000 in
theorem fw_40 (a0b : Nat) (μ : qz_M) (R : wz_R)
    (h : (wz_loop qb_40_1 65536 (wz_sk gc_40_2 wz_k0 R) R ([some (.inr (.inr (some (10, a0b, 0)))), some (.inl (0 : Int32)), some (.inl (0 : Int32))], [], μ))) :
    wz_call qf_40 [.inr (.inr (some (10, a0b, 0)))] μ R := wz_mt9 (L := [some (.inr (.inr (some (10, a0b, 0)))), none, none]) sw_40 rfl h
set_option maxRecDepth 10000 in
set_option maxHeartbeats 400000 in
theorem fc_40_2 (x1 : Int32) (μ : qz_M) (k : wz_K) (R : wz_R) (L : qz_L) (hL : qz_fg [false, true, false] L = [none, some (.inl x1), none])
    (h : (R μ (.inl (some (.inl x1))))) :
    gc_40_2 k R (L, [], μ) := wz_fgd hL h
set_option maxRecDepth 10000 in
set_option maxHeartbeats 400000 in
theorem fb_40_1 (x0b : Nat) (x1 : Int32) (x2 : Int32) (μ : qz_M) (k : wz_K) (R : wz_R) (L : qz_L) (hL : qz_fg [true, true, true] L = [some (.inr (.inr (some (10, x0b, 0)))), some (.inl x1), some (.inl x2)])
    (h : (bif decide ((qz_im μ 11 x0b 0 8) ≤ x2) then (k 0 ([some (.inr (.inr (some (10, x0b, 0)))), some (.inl x1), some (.inl x2)], [], μ)) else (bif pz_out x2 4 then False else (bif (!decide ((qz_im μ 50 x0b x2.toNatClampNeg 2) = 0)) then (k 1 ([some (.inr (.inr (some (10, x0b, 0)))), some (.inl x1), some (.inl (x2 + (1 : Int32)))], [], μ)) else (wz_cI qf_53 [.inr (.inr (some (10, x0b, 0))), .inl x2] μ (fun μ1 v2 => (bif decide (v2 ≤ 0) then (k 1 ([some (.inr (.inr (some (10, x0b, 0)))), some (.inl x1), some (.inl (x2 + (1 : Int32)))], [], μ1)) else (k 1 ([some (.inr (.inr (some (10, x0b, 0)))), some (.inl (x1 + (1 : Int32))), some (.inl (x2 + (1 : Int32)))], [], μ1)))) (fun μ1 e => (R μ1 (.inr e)))))))) :
    gb_40_1 k R (L, [], μ) := wz_fgd hL h
/- X2 townOf -/
/- X2 isDue -/
/- X2 townsOf -/
/- X2 cratesIn -/
/- X2 hoursOf -/
/- X3 swap -/
/- X3 nextRow -/
/- X2 shortestTrip -/

/-! what the methods ask, 4 -/
/- X2 longBySets -/
/- X2 areSound -/
set_option maxRecDepth 10000 in
set_option maxHeartbeats 400000 in
theorem fw_38 (a0b : Nat) (μ : qz_M) (R : wz_R)
    (h : (wz_cI qf_40 [.inr (.inr (some (10, a0b, 0)))] μ (fun μ1 v2 => (bif decide ((qz_im μ1 11 a0b 0 14) < v2) then (wz_loop qb_38_1 65536 (wz_sk gc_38_4 wz_k0 R) R ([some (.inr (.inr (some (10, a0b, 0)))), some (.inl (0 : Int32)), some (.inl (0 : Int32)), none, none, none, none], [], μ1)) else (wz_loop qb_38_1 65536 (wz_sk gc_38_4 wz_k0 R) R ([some (.inr (.inr (some (10, a0b, 0)))), some (.inl (1 : Int32)), some (.inl (0 : Int32)), none, none, none, none], [], μ1)))) (fun μ1 e => (R μ1 (.inr e))))) :
    wz_call qf_38 [.inr (.inr (some (10, a0b, 0)))] μ R := wz_mt9 (L := [some (.inr (.inr (some (10, a0b, 0)))), none, none, none, none, none, none]) sw_38 rfl h
set_option maxRecDepth 10000 in
set_option maxHeartbeats 400000 in
theorem fc_38_4 (x0b : Nat) (x1 : Int32) (μ : qz_M) (k : wz_K) (R : wz_R) (L : qz_L) (hL : qz_fg [true, true, false, false, false, false, false] L = [some (.inr (.inr (some (10, x0b, 0)))), some (.inl x1), none, none, none, none, none])
    (h : (wz_loop qb_38_2 65536 (wz_sk gc_38_3 k R) R ([some (.inr (.inr (some (10, x0b, 0)))), some (.inl x1), some (.inl (0 : Int32)), none, none, none, none], [], μ))) :
    gc_38_4 k R (L, [], μ) := wz_fgd hL h
set_option maxRecDepth 10000 in
set_option maxHeartbeats 400000 in
theorem fb_38_1 (x0b : Nat) (x1 : Int32) (x2 : Int32) (μ : qz_M) (k : wz_K) (R : wz_R) (L : qz_L) (hL : qz_fg [true, true, true, false, false, false, false] L = [some (.inr (.inr (some (10, x0b, 0)))), some (.inl x1), some (.inl x2), none, none, none, none])
    (h : (bif decide ((qz_im μ 11 x0b 0 6) ≤ x2) then (k 0 ([some (.inr (.inr (some (10, x0b, 0)))), some (.inl x1), some (.inl x2), none, none, none, none], [], μ)) else (bif decide (x1 = 0) then (k 0 ([some (.inr (.inr (some (10, x0b, 0)))), some (.inl x1), some (.inl x2), none, none, none, none], [], μ)) else (bif pz_out x2 60 then False else (bif decide ((qz_im μ 47 x0b x2.toNatClampNeg 10) < (0 : Int32)) then (bif (!decide ((qz_im μ 47 x0b x2.toNatClampNeg 9) = (1 : Int32))) then (bif (!decide ((qz_im μ 47 x0b x2.toNatClampNeg 10) = (-1 : Int32))) then (k 1 ([some (.inr (.inr (some (10, x0b, 0)))), some (.inl (0 : Int32)), some (.inl (x2 + (1 : Int32))), some (.inr (.inr (some (47, x0b, x2.toNatClampNeg)))), some (.inl (0 : Int32)), none, none], [], μ)) else (k 1 ([some (.inr (.inr (some (10, x0b, 0)))), some (.inl (1 : Int32)), some (.inl (x2 + (1 : Int32))), some (.inr (.inr (some (47, x0b, x2.toNatClampNeg)))), some (.inl (0 : Int32)), none, none], [], μ))) else (k 1 ([some (.inr (.inr (some (10, x0b, 0)))), some (.inl (0 : Int32)), some (.inl (x2 + (1 : Int32))), some (.inr (.inr (some (47, x0b, x2.toNatClampNeg)))), some (.inl (0 : Int32)), none, none], [], μ))) else (bif decide (((qz_im μ 11 x0b 0 8) - (1 : Int32)) < (qz_im μ 47 x0b x2.toNatClampNeg 10)) then (bif (!decide ((qz_im μ 47 x0b x2.toNatClampNeg 9) = (1 : Int32))) then (bif (!decide ((qz_im μ 47 x0b x2.toNatClampNeg 10) = (-1 : Int32))) then (k 1 ([some (.inr (.inr (some (10, x0b, 0)))), some (.inl (0 : Int32)), some (.inl (x2 + (1 : Int32))), some (.inr (.inr (some (47, x0b, x2.toNatClampNeg)))), some (.inl (0 : Int32)), none, none], [], μ)) else (k 1 ([some (.inr (.inr (some (10, x0b, 0)))), some (.inl (1 : Int32)), some (.inl (x2 + (1 : Int32))), some (.inr (.inr (some (47, x0b, x2.toNatClampNeg)))), some (.inl (0 : Int32)), none, none], [], μ))) else (k 1 ([some (.inr (.inr (some (10, x0b, 0)))), some (.inl (0 : Int32)), some (.inl (x2 + (1 : Int32))), some (.inr (.inr (some (47, x0b, x2.toNatClampNeg)))), some (.inl (0 : Int32)), none, none], [], μ))) else (bif (!decide ((qz_im μ 47 x0b x2.toNatClampNeg 9) = (1 : Int32))) then (bif (!decide ((qz_im μ 47 x0b x2.toNatClampNeg 10) = (-1 : Int32))) then (k 1 ([some (.inr (.inr (some (10, x0b, 0)))), some (.inl (0 : Int32)), some (.inl (x2 + (1 : Int32))), some (.inr (.inr (some (47, x0b, x2.toNatClampNeg)))), some (.inl (1 : Int32)), none, none], [], μ)) else (k 1 ([some (.inr (.inr (some (10, x0b, 0)))), some (.inl (1 : Int32)), some (.inl (x2 + (1 : Int32))), some (.inr (.inr (some (47, x0b, x2.toNatClampNeg)))), some (.inl (1 : Int32)), none, none], [], μ))) else (wz_cI qf_48 [.inr (.inr (some (10, x0b, 0))), .inr (.inr (some (47, x0b, x2.toNatClampNeg)))] μ (fun μ1 v2 => (bif decide (v2 = 0) then (k 1 ([some (.inr (.inr (some (10, x0b, 0)))), some (.inl (0 : Int32)), some (.inl (x2 + (1 : Int32))), some (.inr (.inr (some (47, x0b, x2.toNatClampNeg)))), some (.inl (1 : Int32)), none, none], [], μ1)) else (k 1 ([some (.inr (.inr (some (10, x0b, 0)))), some (.inl (1 : Int32)), some (.inl (x2 + (1 : Int32))), some (.inr (.inr (some (47, x0b, x2.toNatClampNeg)))), some (.inl (1 : Int32)), none, none], [], μ1)))) (fun μ1 e => (R μ1 (.inr e))))))))))) :
    gb_38_1 k R (L, [], μ) := wz_fgd hL h
set_option maxRecDepth 10000 in
set_option maxHeartbeats 400000 in
theorem fc_38_3 (x1 : Int32) (μ : qz_M) (k : wz_K) (R : wz_R) (L : qz_L) (hL : qz_fg [false, true, false, false, false, false, false] L = [none, some (.inl x1), none, none, none, none, none])
    (h : (bif decide (x1 = 0) || decide (x1 = 1) then (R μ (.inl (some (.inl x1)))) else False)) :
    gc_38_3 k R (L, [], μ) := wz_fgd hL h
set_option maxRecDepth 10000 in
set_option maxHeartbeats 400000 in
theorem fb_38_2 (x0b : Nat) (x1 : Int32) (x2 : Int32) (μ : qz_M) (k : wz_K) (R : wz_R) (L : qz_L) (hL : qz_fg [true, true, true, false, false, false, false] L = [some (.inr (.inr (some (10, x0b, 0)))), some (.inl x1), some (.inl x2), none, none, none, none])
    (h : (bif decide ((qz_im μ 11 x0b 0 8) ≤ x2) then (k 0 ([some (.inr (.inr (some (10, x0b, 0)))), some (.inl x1), some (.inl x2), none, none, none, none], [], μ)) else (bif decide (x1 = 0) then (k 0 ([some (.inr (.inr (some (10, x0b, 0)))), some (.inl x1), some (.inl x2), none, none, none, none], [], μ)) else (bif pz_out x2 4 then False else (bif (!decide ((qz_im μ 50 x0b x2.toNatClampNeg 2) = (1 : Int32))) then (bif decide ((qz_im μ 11 x0b 0 13) < (qz_im μ 50 x0b x2.toNatClampNeg 7)) then (wz_cI qf_59 [.inr (.inr (some (10, x0b, 0))), .inl x2] μ (fun μ1 v2 => (wz_cI qf_43 [.inr (.inr (some (10, x0b, 0))), .inl x2] μ1 (fun μ3 v4 => (bif decide ((qz_im μ3 50 x0b x2.toNatClampNeg 0) < v4) then (k 1 ([some (.inr (.inr (some (10, x0b, 0)))), some (.inl (0 : Int32)), some (.inl (x2 + (1 : Int32))), some (.inr (.inr (some (50, x0b, x2.toNatClampNeg)))), some (.inl (0 : Int32)), some (.inl (0 : Int32)), some (.inl v2)], [], μ3)) else (wz_wr (qz_al μ3 50 1 5 1 5) (fun μ5 => (wz_cI qf_56 [.inr (.inr (some (10, x0b, 0))), .inl v2, .inr (.inr (some (200, (qz_na μ3), 0)))] μ5 (fun μ6 v7 => (wz_cI qf_51 [.inr (.inr (some (10, x0b, 0))), .inl v2] μ6 (fun μ8 v9 => (bif (!decide (v7 = v9)) then (k 1 ([some (.inr (.inr (some (10, x0b, 0)))), some (.inl (0 : Int32)), some (.inl (x2 + (1 : Int32))), some (.inr (.inr (some (50, x0b, x2.toNatClampNeg)))), some (.inl (0 : Int32)), some (.inl (0 : Int32)), some (.inl v2)], [], μ8)) else (k 1 ([some (.inr (.inr (some (10, x0b, 0)))), some (.inl (1 : Int32)), some (.inl (x2 + (1 : Int32))), some (.inr (.inr (some (50, x0b, x2.toNatClampNeg)))), some (.inl (0 : Int32)), some (.inl (0 : Int32)), some (.inl v2)], [], μ8)))) (fun μ8 e => (R μ8 (.inr e))))) (fun μ6 e => (R μ6 (.inr e)))))))) (fun μ3 e => (R μ3 (.inr e))))) (fun μ1 e => (R μ1 (.inr e)))) else (bif decide ((qz_im μ 50 x0b x2.toNatClampNeg 8) ≤ (qz_im μ 11 x0b 0 13)) then (wz_cI qf_59 [.inr (.inr (some (10, x0b, 0))), .inl x2] μ (fun μ10 v11 => (wz_cI qf_43 [.inr (.inr (some (10, x0b, 0))), .inl x2] μ10 (fun μ12 v13 => (bif decide ((qz_im μ12 50 x0b x2.toNatClampNeg 0) < v13) then (k 1 ([some (.inr (.inr (some (10, x0b, 0)))), some (.inl (0 : Int32)), some (.inl (x2 + (1 : Int32))), some (.inr (.inr (some (50, x0b, x2.toNatClampNeg)))), some (.inl (0 : Int32)), some (.inl (0 : Int32)), some (.inl v11)], [], μ12)) else (wz_wr (qz_al μ12 50 1 5 1 5) (fun μ14 => (wz_cI qf_56 [.inr (.inr (some (10, x0b, 0))), .inl v11, .inr (.inr (some (200, (qz_na μ12), 0)))] μ14 (fun μ15 v16 => (wz_cI qf_51 [.inr (.inr (some (10, x0b, 0))), .inl v11] μ15 (fun μ17 v18 => (bif (!decide (v16 = v18)) then (k 1 ([some (.inr (.inr (some (10, x0b, 0)))), some (.inl (0 : Int32)), some (.inl (x2 + (1 : Int32))), some (.inr (.inr (some (50, x0b, x2.toNatClampNeg)))), some (.inl (0 : Int32)), some (.inl (0 : Int32)), some (.inl v11)], [], μ17)) else (k 1 ([some (.inr (.inr (some (10, x0b, 0)))), some (.inl (1 : Int32)), some (.inl (x2 + (1 : Int32))), some (.inr (.inr (some (50, x0b, x2.toNatClampNeg)))), some (.inl (0 : Int32)), some (.inl (0 : Int32)), some (.inl v11)], [], μ17)))) (fun μ17 e => (R μ17 (.inr e))))) (fun μ15 e => (R μ15 (.inr e)))))))) (fun μ12 e => (R μ12 (.inr e))))) (fun μ10 e => (R μ10 (.inr e)))) else (wz_cI qf_59 [.inr (.inr (some (10, x0b, 0))), .inl x2] μ (fun μ19 v20 => (wz_cI qf_43 [.inr (.inr (some (10, x0b, 0))), .inl x2] μ19 (fun μ21 v22 => (bif decide ((qz_im μ21 50 x0b x2.toNatClampNeg 0) < v22) then (k 1 ([some (.inr (.inr (some (10, x0b, 0)))), some (.inl (0 : Int32)), some (.inl (x2 + (1 : Int32))), some (.inr (.inr (some (50, x0b, x2.toNatClampNeg)))), some (.inl (0 : Int32)), some (.inl (1 : Int32)), some (.inl v20)], [], μ21)) else (wz_wr (qz_al μ21 50 1 5 1 5) (fun μ23 => (wz_cI qf_56 [.inr (.inr (some (10, x0b, 0))), .inl v20, .inr (.inr (some (200, (qz_na μ21), 0)))] μ23 (fun μ24 v25 => (wz_cI qf_51 [.inr (.inr (some (10, x0b, 0))), .inl v20] μ24 (fun μ26 v27 => (bif (!decide (v25 = v27)) then (k 1 ([some (.inr (.inr (some (10, x0b, 0)))), some (.inl (0 : Int32)), some (.inl (x2 + (1 : Int32))), some (.inr (.inr (some (50, x0b, x2.toNatClampNeg)))), some (.inl (0 : Int32)), some (.inl (1 : Int32)), some (.inl v20)], [], μ26)) else (k 1 ([some (.inr (.inr (some (10, x0b, 0)))), some (.inl (1 : Int32)), some (.inl (x2 + (1 : Int32))), some (.inr (.inr (some (50, x0b, x2.toNatClampNeg)))), some (.inl (0 : Int32)), some (.inl (1 : Int32)), some (.inl v20)], [], μ26)))) (fun μ26 e => (R μ26 (.inr e))))) (fun μ24 e => (R μ24 (.inr e)))))))) (fun μ21 e => (R μ21 (.inr e))))) (fun μ19 e => (R μ19 (.inr e)))))) else (bif decide ((qz_im μ 11 x0b 0 13) < (qz_im μ 50 x0b x2.toNatClampNeg 7)) then (wz_cI qf_59 [.inr (.inr (some (10, x0b, 0))), .inl x2] μ (fun μ28 v29 => (wz_cI qf_43 [.inr (.inr (some (10, x0b, 0))), .inl x2] μ28 (fun μ30 v31 => (bif decide ((qz_im μ30 50 x0b x2.toNatClampNeg 0) < v31) then (k 1 ([some (.inr (.inr (some (10, x0b, 0)))), some (.inl (0 : Int32)), some (.inl (x2 + (1 : Int32))), some (.inr (.inr (some (50, x0b, x2.toNatClampNeg)))), some (.inl (1 : Int32)), some (.inl (0 : Int32)), some (.inl v29)], [], μ30)) else (k 1 ([some (.inr (.inr (some (10, x0b, 0)))), some (.inl (0 : Int32)), some (.inl (x2 + (1 : Int32))), some (.inr (.inr (some (50, x0b, x2.toNatClampNeg)))), some (.inl (1 : Int32)), some (.inl (0 : Int32)), some (.inl v29)], [], μ30)))) (fun μ30 e => (R μ30 (.inr e))))) (fun μ28 e => (R μ28 (.inr e)))) else (bif decide ((qz_im μ 50 x0b x2.toNatClampNeg 8) ≤ (qz_im μ 11 x0b 0 13)) then (wz_cI qf_59 [.inr (.inr (some (10, x0b, 0))), .inl x2] μ (fun μ32 v33 => (wz_cI qf_43 [.inr (.inr (some (10, x0b, 0))), .inl x2] μ32 (fun μ34 v35 => (bif decide ((qz_im μ34 50 x0b x2.toNatClampNeg 0) < v35) then (k 1 ([some (.inr (.inr (some (10, x0b, 0)))), some (.inl (0 : Int32)), some (.inl (x2 + (1 : Int32))), some (.inr (.inr (some (50, x0b, x2.toNatClampNeg)))), some (.inl (1 : Int32)), some (.inl (0 : Int32)), some (.inl v33)], [], μ34)) else (k 1 ([some (.inr (.inr (some (10, x0b, 0)))), some (.inl (0 : Int32)), some (.inl (x2 + (1 : Int32))), some (.inr (.inr (some (50, x0b, x2.toNatClampNeg)))), some (.inl (1 : Int32)), some (.inl (0 : Int32)), some (.inl v33)], [], μ34)))) (fun μ34 e => (R μ34 (.inr e))))) (fun μ32 e => (R μ32 (.inr e)))) else (wz_cI qf_59 [.inr (.inr (some (10, x0b, 0))), .inl x2] μ (fun μ36 v37 => (wz_cI qf_43 [.inr (.inr (some (10, x0b, 0))), .inl x2] μ36 (fun μ38 v39 => (bif decide ((qz_im μ38 50 x0b x2.toNatClampNeg 0) < v39) then (k 1 ([some (.inr (.inr (some (10, x0b, 0)))), some (.inl (0 : Int32)), some (.inl (x2 + (1 : Int32))), some (.inr (.inr (some (50, x0b, x2.toNatClampNeg)))), some (.inl (1 : Int32)), some (.inl (1 : Int32)), some (.inl v37)], [], μ38)) else (k 1 ([some (.inr (.inr (some (10, x0b, 0)))), some (.inl (1 : Int32)), some (.inl (x2 + (1 : Int32))), some (.inr (.inr (some (50, x0b, x2.toNatClampNeg)))), some (.inl (1 : Int32)), some (.inl (1 : Int32)), some (.inl v37)], [], μ38)))) (fun μ38 e => (R μ38 (.inr e))))) (fun μ36 e => (R μ36 (.inr e))))))))))) :
    gb_38_2 k R (L, [], μ) := wz_fgd hL h
/- X2 bring -/
/- X2 arrive -/
set_option maxRecDepth 10000 in
set_option maxHeartbeats 400000 in
theorem fw_39 (a0b : Nat) (μ : qz_M) (R : wz_R)
    (h : (wz_loop qb_39_4 65536 (wz_sk gc_39_5 wz_k0 R) R ([some (.inr (.inr (some (10, a0b, 0)))), some (.inl (0 : Int32)), none, none], [], μ))) :
    wz_call qf_39 [.inr (.inr (some (10, a0b, 0)))] μ R := wz_mt9 (L := [some (.inr (.inr (some (10, a0b, 0)))), none, none, none]) sw_39 rfl h
set_option maxRecDepth 10000 in
set_option maxHeartbeats 400000 in
theorem fc_39_5  (μ : qz_M) (k : wz_K) (R : wz_R) (L : qz_L) (hL : qz_fg [false, false, false, false] L = [none, none, none, none])
    (h : (R μ (.inl none))) :
    gc_39_5 k R (L, [], μ) := wz_fgd hL h
set_option maxRecDepth 10000 in
set_option maxHeartbeats 400000 in
theorem fb_39_4 (x0b : Nat) (x1 : Int32) (μ : qz_M) (k : wz_K) (R : wz_R) (L : qz_L) (hL : qz_fg [true, true, false, false] L = [some (.inr (.inr (some (10, x0b, 0)))), some (.inl x1), none, none])
    (h : (bif decide ((qz_im μ 11 x0b 0 8) ≤ x1) then (k 0 ([some (.inr (.inr (some (10, x0b, 0)))), some (.inl x1), none, none], [], μ)) else (bif pz_out x1 4 then False else (bif (!decide ((qz_im μ 50 x0b x1.toNatClampNeg 2) = (1 : Int32))) then (gc_39_3 (wz_kb k) R ([some (.inr (.inr (some (10, x0b, 0)))), some (.inl x1), some (.inr (.inr (some (50, x0b, x1.toNatClampNeg)))), none], [], μ)) else (wz_loop qb_39_1 65536 (wz_sk gc_39_2 (wz_kb (wz_sk gc_39_3 (wz_kb k) R)) R) R ([some (.inr (.inr (some (10, x0b, 0)))), some (.inl x1), some (.inr (.inr (some (50, x0b, x1.toNatClampNeg)))), some (.inl (0 : Int32))], [], μ)))))) :
    gb_39_4 k R (L, [], μ) := wz_fgd hL h
/- X2 changeWay -/
/- X2 fewestLoads -/
set_option maxRecDepth 10000 in
set_option maxHeartbeats 400000 in
theorem fw_44 (a1 : Int32) (a2 : Int32) (μ : qz_M) (R : wz_R)
    (h : (wz_wr (qz_wI μ (70, 0, 0) 0 a2) (fun μ1 => (wz_loop qb_44_3 65536 (wz_sk gc_44_4 wz_k0 R) R ([some (.inr (.inr (some (69, 0, 0)))), some (.inl a1), some (.inl a2), some (.inr (.inr (some (70, 0, 0)))), some (.inl (1 : Int32)), none, none, none, none], [], μ1))))) :
    wz_call qf_44 [.inr (.inr (some (69, 0, 0))), .inl a1, .inl a2, .inr (.inr (some (70, 0, 0)))] μ R := wz_mt9 (L := [some (.inr (.inr (some (69, 0, 0)))), some (.inl a1), some (.inl a2), some (.inr (.inr (some (70, 0, 0)))), none, none, none, none, none]) sw_44 rfl h
set_option maxRecDepth 10000 in
set_option maxHeartbeats 400000 in
theorem fc_44_4 (x1 : Int32) (μ : qz_M) (k : wz_K) (R : wz_R) (L : qz_L) (hL : qz_fg [false, true, false, true, false, false, false, false, false] L = [none, some (.inl x1), none, some (.inr (.inr (some (70, 0, 0)))), none, none, none, none, none])
    (h : (bif pz_out (((1 : Int32) <<< (x1 &&& 31)) - (1 : Int32)) 1024 then False else (R μ (.inl (some (.inl ((qz_im μ 70 0 0 (((1 : Int32) <<< (x1 &&& 31)) - (1 : Int32)).toNatClampNeg) / (1000 : Int32)))))))) :
    gc_44_4 k R (L, [], μ) := wz_fgd hL h
set_option maxRecDepth 10000 in
set_option maxHeartbeats 400000 in
theorem fb_44_3 (x1 : Int32) (x2 : Int32) (x4 : Int32) (μ : qz_M) (k : wz_K) (R : wz_R) (L : qz_L) (hL : qz_fg [true, true, true, true, true, false, false, false, false] L = [some (.inr (.inr (some (69, 0, 0)))), some (.inl x1), some (.inl x2), some (.inr (.inr (some (70, 0, 0)))), some (.inl x4), none, none, none, none])
    (h : (bif decide (((1 : Int32) <<< (x1 &&& 31)) ≤ x4) then (k 0 ([some (.inr (.inr (some (69, 0, 0)))), some (.inl x1), some (.inl x2), some (.inr (.inr (some (70, 0, 0)))), some (.inl x4), none, none, none, none], [], μ)) else (bif pz_out x4 1024 then False else (wz_wr (qz_wI μ (70, 0, 0) x4.toNatClampNeg ((x1 + (1 : Int32)) * (1000 : Int32))) (fun μ1 => (wz_loop qb_44_1 65536 (wz_sk gc_44_2 (wz_kb k) R) R ([some (.inr (.inr (some (69, 0, 0)))), some (.inl x1), some (.inl x2), some (.inr (.inr (some (70, 0, 0)))), some (.inl x4), some (.inl (0 : Int32)), none, none, none], [], μ1))))))) :
    gb_44_3 k R (L, [], μ) := wz_fgd hL h
/- X2 goIfDue -/
/- X2 greatest -/
set_option maxRecDepth 10000 in
set_option maxHeartbeats 400000 in
theorem fw_46 (a1 : Int32) (μ : qz_M) (R : wz_R)
    (h : (wz_loop qb_46_1 65536 (wz_sk gc_46_2 wz_k0 R) R ([some (.inr (.inr (some (69, 0, 0)))), some (.inl a1), some (.inl (0 : Int32)), some (.inl (0 : Int32))], [], μ))) :
    wz_call qf_46 [.inr (.inr (some (69, 0, 0))), .inl a1] μ R := wz_mt9 (L := [some (.inr (.inr (some (69, 0, 0)))), some (.inl a1), none, none]) sw_46 rfl h
set_option maxRecDepth 10000 in
set_option maxHeartbeats 400000 in
theorem fc_46_2 (x2 : Int32) (μ : qz_M) (k : wz_K) (R : wz_R) (L : qz_L) (hL : qz_fg [false, false, true, false] L = [none, none, some (.inl x2), none])
    (h : (R μ (.inl (some (.inl x2))))) :
    gc_46_2 k R (L, [], μ) := wz_fgd hL h
set_option maxRecDepth 10000 in
set_option maxHeartbeats 400000 in
theorem fb_46_1 (x1 : Int32) (x2 : Int32) (x3 : Int32) (μ : qz_M) (k : wz_K) (R : wz_R) (L : qz_L) (hL : qz_fg [true, true, true, true] L = [some (.inr (.inr (some (69, 0, 0)))), some (.inl x1), some (.inl x2), some (.inl x3)])
    (h : (bif decide (x1 ≤ x3) then (k 0 ([some (.inr (.inr (some (69, 0, 0)))), some (.inl x1), some (.inl x2), some (.inl x3)], [], μ)) else (bif pz_out x3 24 then False else (k 1 ([some (.inr (.inr (some (69, 0, 0)))), some (.inl x1), some (.inl (if x2 < (qz_im μ 69 0 0 x3.toNatClampNeg) then (qz_im μ 69 0 0 x3.toNatClampNeg) else x2)), some (.inl (x3 + (1 : Int32)))], [], μ))))) :
    gb_46_1 k R (L, [], μ) := wz_fgd hL h
/- X10 isShut -/
/- X2 loadFault -/
set_option maxRecDepth 10000 in
set_option maxHeartbeats 400000 in
theorem fw_49 (a0b : Nat) (a1 : Int32) (a2 : Int32) (μ : qz_M) (R : wz_R)
    (h : (bif decide (a1 < 0) then (R μ (.inl (some (.inl (1 : Int32))))) else (bif decide ((qz_im μ 11 a0b 0 6) ≤ a1) then (R μ (.inl (some (.inl (1 : Int32))))) else (bif decide (a2 < 0) then (R μ (.inl (some (.inl (1 : Int32))))) else (bif decide (a2 < (qz_im μ 11 a0b 0 8)) then (bif pz_out a1 60 then False else (bif pz_out a2 4 then False else (bif (!decide ((qz_im μ 47 a0b a1.toNatClampNeg 9) = 0)) then (R μ (.inl (some (.inl (3 : Int32))))) else (bif pz_out (qz_im μ 47 a0b a1.toNatClampNeg 0) 48 then False else (bif decide ((qz_im μ 44 a0b (qz_im μ 47 a0b a1.toNatClampNeg 0).toNatClampNeg 12) < 0) then (bif (!decide ((qz_im μ 50 a0b a2.toNatClampNeg 2) = 0)) then (R μ (.inl (some (.inl (3 : Int32))))) else (wz_cI qf_43 [.inr (.inr (some (10, a0b, 0))), .inl a2] μ (fun μ1 v2 => (bif decide ((qz_im μ1 50 a0b a2.toNatClampNeg 0) < (v2 + (qz_im μ1 47 a0b a1.toNatClampNeg 3))) then (R μ1 (.inl (some (.inl (3 : Int32))))) else (wz_cI qf_53 [.inr (.inr (some (10, a0b, 0))), .inl a2] μ1 (fun μ3 v4 => (bif decide (0 < v4) then (R μ3 (.inl (some (.inl (0 : Int32))))) else (wz_cI qf_40 [.inr (.inr (some (10, a0b, 0)))] μ3 (fun μ5 v6 => (bif decide ((qz_im μ5 11 a0b 0 14) ≤ v6) then (R μ5 (.inl (some (.inl (3 : Int32))))) else (R μ5 (.inl (some (.inl (0 : Int32))))))) (fun μ5 e => (R μ5 (.inr e)))))) (fun μ3 e => (R μ3 (.inr e)))))) (fun μ1 e => (R μ1 (.inr e))))) else (bif decide ((qz_im μ 11 a0b 0 2) ≤ (qz_im μ 44 a0b (qz_im μ 47 a0b a1.toNatClampNeg 0).toNatClampNeg 12)) then (bif (!decide ((qz_im μ 50 a0b a2.toNatClampNeg 2) = 0)) then (R μ (.inl (some (.inl (3 : Int32))))) else (wz_cI qf_43 [.inr (.inr (some (10, a0b, 0))), .inl a2] μ (fun μ7 v8 => (bif decide ((qz_im μ7 50 a0b a2.toNatClampNeg 0) < (v8 + (qz_im μ7 47 a0b a1.toNatClampNeg 3))) then (R μ7 (.inl (some (.inl (3 : Int32))))) else (wz_cI qf_53 [.inr (.inr (some (10, a0b, 0))), .inl a2] μ7 (fun μ9 v10 => (bif decide (0 < v10) then (R μ9 (.inl (some (.inl (0 : Int32))))) else (wz_cI qf_40 [.inr (.inr (some (10, a0b, 0)))] μ9 (fun μ11 v12 => (bif decide ((qz_im μ11 11 a0b 0 14) ≤ v12) then (R μ11 (.inl (some (.inl (3 : Int32))))) else (R μ11 (.inl (some (.inl (0 : Int32))))))) (fun μ11 e => (R μ11 (.inr e)))))) (fun μ9 e => (R μ9 (.inr e)))))) (fun μ7 e => (R μ7 (.inr e))))) else (bif pz_out (qz_im μ 44 a0b (qz_im μ 47 a0b a1.toNatClampNeg 0).toNatClampNeg 12) 6 then False else (bif decide ((qz_im μ 43 a0b (qz_im μ 44 a0b (qz_im μ 47 a0b a1.toNatClampNeg 0).toNatClampNeg 12).toNatClampNeg 10) ≤ (qz_im μ 11 a0b 0 13)) then (bif (!decide ((qz_im μ 50 a0b a2.toNatClampNeg 2) = 0)) then (R μ (.inl (some (.inl (3 : Int32))))) else (wz_cI qf_43 [.inr (.inr (some (10, a0b, 0))), .inl a2] μ (fun μ13 v14 => (bif decide ((qz_im μ13 50 a0b a2.toNatClampNeg 0) < (v14 + (qz_im μ13 47 a0b a1.toNatClampNeg 3))) then (R μ13 (.inl (some (.inl (3 : Int32))))) else (wz_cI qf_53 [.inr (.inr (some (10, a0b, 0))), .inl a2] μ13 (fun μ15 v16 => (bif decide (0 < v16) then (R μ15 (.inl (some (.inl (0 : Int32))))) else (wz_cI qf_40 [.inr (.inr (some (10, a0b, 0)))] μ15 (fun μ17 v18 => (bif decide ((qz_im μ17 11 a0b 0 14) ≤ v18) then (R μ17 (.inl (some (.inl (3 : Int32))))) else (R μ17 (.inl (some (.inl (0 : Int32))))))) (fun μ17 e => (R μ17 (.inr e)))))) (fun μ15 e => (R μ15 (.inr e)))))) (fun μ13 e => (R μ13 (.inr e))))) else (R μ (.inl (some (.inl (3 : Int32))))))))))))) else (R μ (.inl (some (.inl (1 : Int32)))))))))) :
    wz_call qf_49 [.inr (.inr (some (10, a0b, 0))), .inl a1, .inl a2] μ R := wz_mt9 (L := [some (.inr (.inr (some (10, a0b, 0)))), some (.inl a1), some (.inl a2), none, none, none]) sw_49 rfl h
/- X5 waitingOf -/
/- X10 move -/
set_option maxRecDepth 10000 in
set_option maxHeartbeats 400000 in
theorem fw_175 (a0b : Nat) (a1 : qz_R) (a2 : Int32) (μ : qz_M) (R : wz_R)
    (h : (bif Nat.beq (qz_tag μ a1) 50 && true then (bif pz_out (12 : Int32) (qz_len μ a1) then False else (bif decide ((qz_im μ a1.1 a1.2.1 a1.2.2 12) < 0) then (bif decide (a2 < 0) then (bif Nat.beq (qz_tag μ a1) 50 then (bif pz_out (12 : Int32) (qz_len μ a1) then False else (wz_wr (qz_wI μ a1 12 a2) (fun μ1 => (R μ1 (.inl none))))) else False) else (bif decide ((6 : Int32) ≤ a2) then (bif Nat.beq (qz_tag μ a1) 50 then (bif pz_out (12 : Int32) (qz_len μ a1) then False else (wz_wr (qz_wI μ a1 12 a2) (fun μ2 => (R μ2 (.inl none))))) else False) else (bif pz_out a2 6 then False else (wz_wr (qz_wI μ (43, a0b, a2.toNatClampNeg) 7 ((qz_im μ 43 a0b a2.toNatClampNeg 7) + (1 : Int32))) (fun μ3 => (bif Nat.beq (qz_tag μ3 a1) 50 then (bif pz_out (12 : Int32) (qz_len μ3 a1) then False else (wz_wr (qz_wI μ3 a1 12 a2) (fun μ4 => (R μ4 (.inl none))))) else False)))))) else (bif decide ((6 : Int32) ≤ (qz_im μ a1.1 a1.2.1 a1.2.2 12)) then (bif decide (a2 < 0) then (bif Nat.beq (qz_tag μ a1) 50 then (bif pz_out (12 : Int32) (qz_len μ a1) then False else (wz_wr (qz_wI μ a1 12 a2) (fun μ5 => (R μ5 (.inl none))))) else False) else (bif decide ((6 : Int32) ≤ a2) then (bif Nat.beq (qz_tag μ a1) 50 then (bif pz_out (12 : Int32) (qz_len μ a1) then False else (wz_wr (qz_wI μ a1 12 a2) (fun μ6 => (R μ6 (.inl none))))) else False) else (bif pz_out a2 6 then False else (wz_wr (qz_wI μ (43, a0b, a2.toNatClampNeg) 7 ((qz_im μ 43 a0b a2.toNatClampNeg 7) + (1 : Int32))) (fun μ7 => (bif Nat.beq (qz_tag μ7 a1) 50 then (bif pz_out (12 : Int32) (qz_len μ7 a1) then False else (wz_wr (qz_wI μ7 a1 12 a2) (fun μ8 => (R μ8 (.inl none))))) else False)))))) else (bif pz_out (qz_im μ a1.1 a1.2.1 a1.2.2 12) 6 then False else (wz_wr (qz_wI μ (43, a0b, (qz_im μ a1.1 a1.2.1 a1.2.2 12).toNatClampNeg) 7 ((qz_im μ 43 a0b (qz_im μ a1.1 a1.2.1 a1.2.2 12).toNatClampNeg 7) + (1 : Int32))) (fun μ9 => (bif decide (a2 < 0) then (bif Nat.beq (qz_tag μ9 a1) 50 then (bif pz_out (12 : Int32) (qz_len μ9 a1) then False else (wz_wr (qz_wI μ9 a1 12 a2) (fun μ10 => (R μ10 (.inl none))))) else False) else (bif decide ((6 : Int32) ≤ a2) then (bif Nat.beq (qz_tag μ9 a1) 50 then (bif pz_out (12 : Int32) (qz_len μ9 a1) then False else (wz_wr (qz_wI μ9 a1 12 a2) (fun μ11 => (R μ11 (.inl none))))) else False) else (bif pz_out a2 6 then False else (wz_wr (qz_wI μ9 (43, a0b, a2.toNatClampNeg) 7 ((qz_im μ9 43 a0b a2.toNatClampNeg 7) + (1 : Int32))) (fun μ12 => (bif Nat.beq (qz_tag μ12 a1) 50 then (bif pz_out (12 : Int32) (qz_len μ12 a1) then False else (wz_wr (qz_wI μ12 a1 12 a2) (fun μ13 => (R μ13 (.inl none))))) else False)))))))))))) else False)) :
    wz_call qf_175 [.inr (.inr (some (10, a0b, 0))), .inr (.inr (some a1)), .inl a2] μ R := wz_mt9 (L := [some (.inr (.inr (some (10, a0b, 0)))), some (.inr (.inr (some a1))), some (.inl a2), none]) sw_175 rfl h
/- X5 clearIfDone -/
/- X2 loadParcel -/
/- X2 nextDue -/
/- X2 partedFor -/
set_option maxRecDepth 10000 in
set_option maxHeartbeats 400000 in
theorem fw_54 (a0b : Nat) (a1 : Int32) (μ : qz_M) (R : wz_R)
    (h : (wz_loop qb_54_1 65536 (wz_sk gc_54_2 wz_k0 R) R ([some (.inr (.inr (some (10, a0b, 0)))), some (.inl a1), some (.inr (.inr (some (69, 0, 0)))), some (.inl (0 : Int32)), some (.inl (0 : Int32)), none], [], μ))) :
    wz_call qf_54 [.inr (.inr (some (10, a0b, 0))), .inl a1, .inr (.inr (some (69, 0, 0)))] μ R := wz_mt9 (L := [some (.inr (.inr (some (10, a0b, 0)))), some (.inl a1), some (.inr (.inr (some (69, 0, 0)))), none, none, none]) sw_54 rfl h
set_option maxRecDepth 10000 in
set_option maxHeartbeats 400000 in
theorem fc_54_2 (x3 : Int32) (μ : qz_M) (k : wz_K) (R : wz_R) (L : qz_L) (hL : qz_fg [false, false, false, true, false, false] L = [none, none, none, some (.inl x3), none, none])
    (h : (R μ (.inl (some (.inl x3))))) :
    gc_54_2 k R (L, [], μ) := wz_fgd hL h
set_option maxRecDepth 10000 in
set_option maxHeartbeats 400000 in
theorem fb_54_1 (x0b : Nat) (x1 : Int32) (x3 : Int32) (x4 : Int32) (μ : qz_M) (k : wz_K) (R : wz_R) (L : qz_L) (hL : qz_fg [true, true, true, true, true, false] L = [some (.inr (.inr (some (10, x0b, 0)))), some (.inl x1), some (.inr (.inr (some (69, 0, 0)))), some (.inl x3), some (.inl x4), none])
    (h : (bif decide ((qz_im μ 11 x0b 0 6) ≤ x4) then (k 0 ([some (.inr (.inr (some (10, x0b, 0)))), some (.inl x1), some (.inr (.inr (some (69, 0, 0)))), some (.inl x3), some (.inl x4), none], [], μ)) else (bif pz_out x4 60 then False else (bif (!decide ((qz_im μ 47 x0b x4.toNatClampNeg 9) = 0)) then (k 1 ([some (.inr (.inr (some (10, x0b, 0)))), some (.inl x1), some (.inr (.inr (some (69, 0, 0)))), some (.inl x3), some (.inl (x4 + (1 : Int32))), some (.inr (.inr (some (47, x0b, x4.toNatClampNeg))))], [], μ)) else (bif decide (x1 = (5 : Int32)) then (bif decide ((10 : Int32) ≤ x3) then (k 1 ([some (.inr (.inr (some (10, x0b, 0)))), some (.inl x1), some (.inr (.inr (some (69, 0, 0)))), some (.inl (x3 + (1 : Int32))), some (.inl (x4 + (1 : Int32))), some (.inr (.inr (some (47, x0b, x4.toNatClampNeg))))], [], μ)) else (bif pz_out x3 24 then False else (wz_wr (qz_wI μ (69, 0, 0) x3.toNatClampNeg (qz_im μ 47 x0b x4.toNatClampNeg 3)) (fun μ1 => (k 1 ([some (.inr (.inr (some (10, x0b, 0)))), some (.inl x1), some (.inr (.inr (some (69, 0, 0)))), some (.inl (x3 + (1 : Int32))), some (.inl (x4 + (1 : Int32))), some (.inr (.inr (some (47, x0b, x4.toNatClampNeg))))], [], μ1)))))) else (bif pz_out (qz_im μ 47 x0b x4.toNatClampNeg 1) 8 then False else (bif (!decide ((qz_im μ 45 x0b (qz_im μ 47 x0b x4.toNatClampNeg 1).toNatClampNeg 0) = x1)) then (k 1 ([some (.inr (.inr (some (10, x0b, 0)))), some (.inl x1), some (.inr (.inr (some (69, 0, 0)))), some (.inl x3), some (.inl (x4 + (1 : Int32))), some (.inr (.inr (some (47, x0b, x4.toNatClampNeg))))], [], μ)) else (bif decide ((10 : Int32) ≤ x3) then (k 1 ([some (.inr (.inr (some (10, x0b, 0)))), some (.inl x1), some (.inr (.inr (some (69, 0, 0)))), some (.inl (x3 + (1 : Int32))), some (.inl (x4 + (1 : Int32))), some (.inr (.inr (some (47, x0b, x4.toNatClampNeg))))], [], μ)) else (bif pz_out x3 24 then False else (wz_wr (qz_wI μ (69, 0, 0) x3.toNatClampNeg (qz_im μ 47 x0b x4.toNatClampNeg 3)) (fun μ2 => (k 1 ([some (.inr (.inr (some (10, x0b, 0)))), some (.inl x1), some (.inr (.inr (some (69, 0, 0)))), some (.inl (x3 + (1 : Int32))), some (.inl (x4 + (1 : Int32))), some (.inr (.inr (some (47, x0b, x4.toNatClampNeg))))], [], μ2))))))))))))) :
    gb_54_1 k R (L, [], μ) := wz_fgd hL h
/- X2 sendFault -/
set_option maxRecDepth 10000 in
set_option maxHeartbeats 400000 in
theorem fw_55 (a0b : Nat) (a1 : Int32) (a2 : Int32) (μ : qz_M) (R : wz_R)
    (h : (bif decide (a1 < 0) then (R μ (.inl (some (.inl (1 : Int32))))) else (bif decide (a1 < (qz_im μ 11 a0b 0 8)) then (bif decide (a2 = (-1 : Int32)) then (bif pz_out a1 4 then False else (bif (!decide ((qz_im μ 50 a0b a1.toNatClampNeg 2) = 0)) then (R μ (.inl (some (.inl (3 : Int32))))) else (R μ (.inl (some (.inl (0 : Int32))))))) else (bif decide (a2 ≤ (qz_im μ 11 a0b 0 13)) then (R μ (.inl (some (.inl (2 : Int32))))) else (bif decide (a2 ≤ (671 : Int32)) then (bif pz_out a1 4 then False else (bif (!decide ((qz_im μ 50 a0b a1.toNatClampNeg 2) = 0)) then (R μ (.inl (some (.inl (3 : Int32))))) else (R μ (.inl (some (.inl (0 : Int32))))))) else (R μ (.inl (some (.inl (2 : Int32)))))))) else (R μ (.inl (some (.inl (1 : Int32)))))))) :
    wz_call qf_55 [.inr (.inr (some (10, a0b, 0))), .inl a1, .inl a2] μ R := wz_mt9 (L := [some (.inr (.inr (some (10, a0b, 0)))), some (.inl a1), some (.inl a2)]) sw_55 rfl h
/- X2 tellTruck -/

/-! what the methods ask, 5 -/
/- X3 addClock -/
/- X3 lotsOf -/
/- X6 copyRow -/
set_option maxRecDepth 10000 in
set_option maxHeartbeats 400000 in
theorem fw_112 (a0 : qz_R) (a1 : qz_R) (μ : qz_M) (R : wz_R)
    (h : (bif pz_arr (qz_tag μ a0) then (bif pz_arr (qz_tag μ a1) then (bif Nat.beq (qz_tag μ a0) 50 && Nat.beq (qz_tag μ a1) 50 then ((¬ (0 : Int32) < 0 ∧ ¬ (0 : Int32) < 0 ∧ ¬ (if (Int32.ofNat (qz_len μ a1)) < (Int32.ofNat (qz_len μ a0)) then (Int32.ofNat (qz_len μ a1)) else (Int32.ofNat (qz_len μ a0))) < 0 ∧ (0 : Int32).toNatClampNeg + (if (Int32.ofNat (qz_len μ a1)) < (Int32.ofNat (qz_len μ a0)) then (Int32.ofNat (qz_len μ a1)) else (Int32.ofNat (qz_len μ a0))).toNatClampNeg ≤ (qz_len μ a0) ∧ (0 : Int32).toNatClampNeg + (if (Int32.ofNat (qz_len μ a1)) < (Int32.ofNat (qz_len μ a0)) then (Int32.ofNat (qz_len μ a1)) else (Int32.ofNat (qz_len μ a0))).toNatClampNeg ≤ (qz_len μ a1)) ∧ (wz_wr (qz_wC μ a1 (va_cpy (qz_im μ a0.1 a0.2.1 a0.2.2) (qz_im μ a1.1 a1.2.1 a1.2.2) (0 : Int32).toNatClampNeg (0 : Int32).toNatClampNeg (if (Int32.ofNat (qz_len μ a1)) < (Int32.ofNat (qz_len μ a0)) then (Int32.ofNat (qz_len μ a1)) else (Int32.ofNat (qz_len μ a0))).toNatClampNeg)) (fun μ1 => (R μ1 (.inl none))))) else False) else False) else False)) :
    wz_call qf_112 [.inr (.inr (some a0)), .inr (.inr (some a1))] μ R := wz_mt9 (L := [some (.inr (.inr (some a0))), some (.inr (.inr (some a1)))]) sw_112 rfl h
/- X6 copyRows -/
set_option maxRecDepth 10000 in
set_option maxHeartbeats 400000 in
theorem fw_113 (a0 : qz_R) (a1 : qz_R) (μ : qz_M) (R : wz_R)
    (h : (wz_loop qb_113_1 65536 (wz_sk gc_113_2 wz_k0 R) R ([some (.inr (.inr (some a0))), some (.inr (.inr (some a1))), some (.inl (0 : Int32))], [], μ))) :
    wz_call qf_113 [.inr (.inr (some a0)), .inr (.inr (some a1))] μ R := wz_mt9 (L := [some (.inr (.inr (some a0))), some (.inr (.inr (some a1))), none]) sw_113 rfl h
set_option maxRecDepth 10000 in
set_option maxHeartbeats 400000 in
theorem fc_113_2  (μ : qz_M) (k : wz_K) (R : wz_R) (L : qz_L) (hL : qz_fg [false, false, false] L = [none, none, none])
    (h : (R μ (.inl none))) :
    gc_113_2 k R (L, [], μ) := wz_fgd hL h
set_option maxRecDepth 10000 in
set_option maxHeartbeats 400000 in
theorem fb_113_1 (x0 : qz_R) (x1 : qz_R) (x2 : Int32) (μ : qz_M) (k : wz_K) (R : wz_R) (L : qz_L) (hL : qz_fg [true, true, true] L = [some (.inr (.inr (some x0))), some (.inr (.inr (some x1))), some (.inl x2)])
    (h : (bif pz_arr (qz_tag μ x0) then (bif decide ((Int32.ofNat (qz_len μ x0)) ≤ x2) then (k 0 ([some (.inr (.inr (some x0))), some (.inr (.inr (some x1))), some (.inl x2)], [], μ)) else (bif pz_arr (qz_tag μ x1) then (bif decide ((Int32.ofNat (qz_len μ x1)) ≤ x2) then (k 0 ([some (.inr (.inr (some x0))), some (.inr (.inr (some x1))), some (.inl x2)], [], μ)) else (bif Nat.beq (qz_tag μ x0) 53 || Nat.beq (qz_tag μ x0) 54 then (bif pz_out x2 (qz_len μ x0) then False else (wz_rk (qz_rf μ x0 x2.toNatClampNeg) (fun r1 => (bif Nat.beq (qz_tag μ x1) 53 || Nat.beq (qz_tag μ x1) 54 then (bif pz_out x2 (qz_len μ x1) then False else (wz_rk (qz_rf μ x1 x2.toNatClampNeg) (fun r2 => (bif pz_arr (qz_tag μ r1) then (bif pz_arr (qz_tag μ r2) then (bif Nat.beq (qz_tag μ r1) 50 && Nat.beq (qz_tag μ r2) 50 then ((¬ (0 : Int32) < 0 ∧ ¬ (0 : Int32) < 0 ∧ ¬ (if (Int32.ofNat (qz_len μ r2)) < (Int32.ofNat (qz_len μ r1)) then (Int32.ofNat (qz_len μ r2)) else (Int32.ofNat (qz_len μ r1))) < 0 ∧ (0 : Int32).toNatClampNeg + (if (Int32.ofNat (qz_len μ r2)) < (Int32.ofNat (qz_len μ r1)) then (Int32.ofNat (qz_len μ r2)) else (Int32.ofNat (qz_len μ r1))).toNatClampNeg ≤ (qz_len μ r1) ∧ (0 : Int32).toNatClampNeg + (if (Int32.ofNat (qz_len μ r2)) < (Int32.ofNat (qz_len μ r1)) then (Int32.ofNat (qz_len μ r2)) else (Int32.ofNat (qz_len μ r1))).toNatClampNeg ≤ (qz_len μ r2)) ∧ (wz_wr (qz_wC μ r2 (va_cpy (qz_im μ r1.1 r1.2.1 r1.2.2) (qz_im μ r2.1 r2.2.1 r2.2.2) (0 : Int32).toNatClampNeg (0 : Int32).toNatClampNeg (if (Int32.ofNat (qz_len μ r2)) < (Int32.ofNat (qz_len μ r1)) then (Int32.ofNat (qz_len μ r2)) else (Int32.ofNat (qz_len μ r1))).toNatClampNeg)) (fun μ3 => (k 1 ([some (.inr (.inr (some x0))), some (.inr (.inr (some x1))), some (.inl (x2 + (1 : Int32)))], [], μ3))))) else False) else False) else False)))) else False)))) else False)) else False)) else False)) :
    gb_113_1 k R (L, [], μ) := wz_fgd hL h
/- X6 copy -/
set_option maxRecDepth 10000 in
set_option maxHeartbeats 400000 in
theorem fw_111 (hb : Nat) (a1b : Nat) (μ : qz_M) (R : wz_R)
    (h : ((¬ (0 : Int32) < 0 ∧ ¬ (0 : Int32) < 0 ∧ ¬ (17 : Int32) < 0 ∧ (0 : Int32).toNatClampNeg + (17 : Int32).toNatClampNeg ≤ 17 ∧ (0 : Int32).toNatClampNeg + (17 : Int32).toNatClampNeg ≤ 17) ∧ (wz_wr (qz_wC μ (11, hb, 0) (va_cpy (qz_im μ 11 a1b 0) (qz_im μ 11 hb 0) (0 : Int32).toNatClampNeg (0 : Int32).toNatClampNeg (17 : Int32).toNatClampNeg)) (fun μ1 => ((¬ (0 : Int32) < 0 ∧ ¬ (0 : Int32) < 0 ∧ ¬ (28 : Int32) < 0 ∧ (0 : Int32).toNatClampNeg + (28 : Int32).toNatClampNeg ≤ 28 ∧ (0 : Int32).toNatClampNeg + (28 : Int32).toNatClampNeg ≤ 28) ∧ (wz_wr (qz_wC μ1 (12, hb, 0) (va_cpy (qz_im μ1 12 a1b 0) (qz_im μ1 12 hb 0) (0 : Int32).toNatClampNeg (0 : Int32).toNatClampNeg (28 : Int32).toNatClampNeg)) (fun μ2 => ((¬ (0 : Int32) < 0 ∧ ¬ (0 : Int32) < 0 ∧ ¬ (4 : Int32) < 0 ∧ (0 : Int32).toNatClampNeg + (4 : Int32).toNatClampNeg ≤ 4 ∧ (0 : Int32).toNatClampNeg + (4 : Int32).toNatClampNeg ≤ 4) ∧ (wz_wr (qz_wC μ2 (13, hb, 0) (va_cpy (qz_im μ2 13 a1b 0) (qz_im μ2 13 hb 0) (0 : Int32).toNatClampNeg (0 : Int32).toNatClampNeg (4 : Int32).toNatClampNeg)) (fun μ3 => ((¬ (0 : Int32) < 0 ∧ ¬ (0 : Int32) < 0 ∧ ¬ (10 : Int32) < 0 ∧ (0 : Int32).toNatClampNeg + (10 : Int32).toNatClampNeg ≤ 10 ∧ (0 : Int32).toNatClampNeg + (10 : Int32).toNatClampNeg ≤ 10) ∧ (wz_wr (qz_wC μ3 (14, hb, 0) (va_cpy (qz_im μ3 14 a1b 0) (qz_im μ3 14 hb 0) (0 : Int32).toNatClampNeg (0 : Int32).toNatClampNeg (10 : Int32).toNatClampNeg)) (fun μ4 => (wz_cV qf_113 [.inr (.inr (some (20, a1b, 0))), .inr (.inr (some (20, hb, 0)))] μ4 (fun μ5 => (wz_cV qf_113 [.inr (.inr (some (21, a1b, 0))), .inr (.inr (some (21, hb, 0)))] μ5 (fun μ6 => (wz_cV qf_113 [.inr (.inr (some (22, a1b, 0))), .inr (.inr (some (22, hb, 0)))] μ6 (fun μ7 => (wz_cV qf_113 [.inr (.inr (some (23, a1b, 0))), .inr (.inr (some (23, hb, 0)))] μ7 (fun μ8 => (wz_cV qf_113 [.inr (.inr (some (24, a1b, 0))), .inr (.inr (some (24, hb, 0)))] μ8 (fun μ9 => (wz_cV qf_113 [.inr (.inr (some (25, a1b, 0))), .inr (.inr (some (25, hb, 0)))] μ9 (fun μ10 => (wz_cV qf_113 [.inr (.inr (some (26, a1b, 0))), .inr (.inr (some (26, hb, 0)))] μ10 (fun μ11 => (wz_cV qf_113 [.inr (.inr (some (27, a1b, 0))), .inr (.inr (some (27, hb, 0)))] μ11 (fun μ12 => (wz_cV qf_113 [.inr (.inr (some (28, a1b, 0))), .inr (.inr (some (28, hb, 0)))] μ12 (fun μ13 => (wz_cV qf_113 [.inr (.inr (some (29, a1b, 0))), .inr (.inr (some (29, hb, 0)))] μ13 (fun μ14 => (wz_cV qf_113 [.inr (.inr (some (30, a1b, 0))), .inr (.inr (some (30, hb, 0)))] μ14 (fun μ15 => (wz_cV qf_113 [.inr (.inr (some (31, a1b, 0))), .inr (.inr (some (31, hb, 0)))] μ15 (fun μ16 => (wz_cV qf_113 [.inr (.inr (some (32, a1b, 0))), .inr (.inr (some (32, hb, 0)))] μ16 (fun μ17 => (wz_cV qf_113 [.inr (.inr (some (33, a1b, 0))), .inr (.inr (some (33, hb, 0)))] μ17 (fun μ18 => (wz_cV qf_113 [.inr (.inr (some (34, a1b, 0))), .inr (.inr (some (34, hb, 0)))] μ18 (fun μ19 => (R μ19 (.inl none))) (fun μ19 e => (R μ19 (.inr e))))) (fun μ18 e => (R μ18 (.inr e))))) (fun μ17 e => (R μ17 (.inr e))))) (fun μ16 e => (R μ16 (.inr e))))) (fun μ15 e => (R μ15 (.inr e))))) (fun μ14 e => (R μ14 (.inr e))))) (fun μ13 e => (R μ13 (.inr e))))) (fun μ12 e => (R μ12 (.inr e))))) (fun μ11 e => (R μ11 (.inr e))))) (fun μ10 e => (R μ10 (.inr e))))) (fun μ9 e => (R μ9 (.inr e))))) (fun μ8 e => (R μ8 (.inr e))))) (fun μ7 e => (R μ7 (.inr e))))) (fun μ6 e => (R μ6 (.inr e))))) (fun μ5 e => (R μ5 (.inr e))))))))))))))))) :
    wz_call qf_111 [.inr (.inr (some (10, hb, 0))), .inr (.inr (some (10, a1b, 0)))] μ R := wz_mt9 (L := [some (.inr (.inr (some (10, hb, 0)))), some (.inr (.inr (some (10, a1b, 0))))]) sw_111 rfl h
/- X3 moveUp -/
/- X3 sellFirst -/
/- X3 sellOn -/
/- X3 tellTakings -/
/- X3 insert -/
/- X3 lotOf -/
/- X3 writeLot -/
/- X3 bestRowOf -/
/- X3 areSound -/
set_option maxRecDepth 10000 in
set_option maxHeartbeats 400000 in
theorem fw_61 (a0b : Nat) (a1b : Nat) (μ : qz_M) (R : wz_R)
    (h : (wz_loop qb_61_1 65536 (wz_sk gc_61_6 wz_k0 R) R ([some (.inr (.inr (some (10, a0b, 0)))), some (.inr (.inr (some (10, a1b, 0)))), some (.inr (.inr (some (69, 0, 0)))), some (.inl (1 : Int32)), some (.inl (0 : Int32)), none, none, none, none], [], μ))) :
    wz_call qf_61 [.inr (.inr (some (10, a0b, 0))), .inr (.inr (some (10, a1b, 0))), .inr (.inr (some (69, 0, 0)))] μ R := wz_mt9 (L := [some (.inr (.inr (some (10, a0b, 0)))), some (.inr (.inr (some (10, a1b, 0)))), some (.inr (.inr (some (69, 0, 0)))), none, none, none, none, none, none]) sw_61 rfl h
set_option maxRecDepth 10000 in
set_option maxHeartbeats 400000 in
theorem fc_61_6 (x0b : Nat) (x1b : Nat) (x3 : Int32) (μ : qz_M) (k : wz_K) (R : wz_R) (L : qz_L) (hL : qz_fg [true, true, true, true, false, false, false, false, false] L = [some (.inr (.inr (some (10, x0b, 0)))), some (.inr (.inr (some (10, x1b, 0)))), some (.inr (.inr (some (69, 0, 0)))), some (.inl x3), none, none, none, none, none])
    (h : (wz_loop qb_61_2 65536 (wz_sk gc_61_5 k R) R ([some (.inr (.inr (some (10, x0b, 0)))), some (.inr (.inr (some (10, x1b, 0)))), some (.inr (.inr (some (69, 0, 0)))), some (.inl x3), some (.inl (0 : Int32)), some (.inl (0 : Int32)), none, none, none], [], μ))) :
    gc_61_6 k R (L, [], μ) := wz_fgd hL h
set_option maxRecDepth 10000 in
set_option maxHeartbeats 400000 in
theorem fb_61_1 (x0b : Nat) (x1b : Nat) (x3 : Int32) (x4 : Int32) (μ : qz_M) (k : wz_K) (R : wz_R) (L : qz_L) (hL : qz_fg [true, true, true, true, true, false, false, false, false] L = [some (.inr (.inr (some (10, x0b, 0)))), some (.inr (.inr (some (10, x1b, 0)))), some (.inr (.inr (some (69, 0, 0)))), some (.inl x3), some (.inl x4), none, none, none, none])
    (h : (bif decide ((qz_im μ 11 x0b 0 3) ≤ x4) then (k 0 ([some (.inr (.inr (some (10, x0b, 0)))), some (.inr (.inr (some (10, x1b, 0)))), some (.inr (.inr (some (69, 0, 0)))), some (.inl x3), some (.inl x4), none, none, none, none], [], μ)) else (bif decide (x3 = 0) then (k 0 ([some (.inr (.inr (some (10, x0b, 0)))), some (.inr (.inr (some (10, x1b, 0)))), some (.inr (.inr (some (69, 0, 0)))), some (.inl x3), some (.inl x4), none, none, none, none], [], μ)) else (bif pz_out x4 48 then False else (bif (!decide ((qz_im μ 44 x0b x4.toNatClampNeg 10) = (1 : Int32))) then (wz_cI qf_68 [.inr (.inr (some (10, x0b, 0))), .inl x4] μ (fun μ1 v2 => (bif (!decide (v2 = (0 : Int32))) then (k 1 ([some (.inr (.inr (some (10, x0b, 0)))), some (.inr (.inr (some (10, x1b, 0)))), some (.inr (.inr (some (69, 0, 0)))), some (.inl (0 : Int32)), some (.inl (x4 + (1 : Int32))), some (.inl (0 : Int32)), none, none, none], [], μ1)) else (k 1 ([some (.inr (.inr (some (10, x0b, 0)))), some (.inr (.inr (some (10, x1b, 0)))), some (.inr (.inr (some (69, 0, 0)))), some (.inl (1 : Int32)), some (.inl (x4 + (1 : Int32))), some (.inl (0 : Int32)), none, none, none], [], μ1)))) (fun μ1 e => (R μ1 (.inr e)))) else (wz_cI qf_68 [.inr (.inr (some (10, x0b, 0))), .inl x4] μ (fun μ3 v4 => (bif (!decide (v4 = (1 : Int32))) then (k 1 ([some (.inr (.inr (some (10, x0b, 0)))), some (.inr (.inr (some (10, x1b, 0)))), some (.inr (.inr (some (69, 0, 0)))), some (.inl (0 : Int32)), some (.inl (x4 + (1 : Int32))), some (.inl (1 : Int32)), none, none, none], [], μ3)) else (bif pz_out x4 48 then False else (bif decide ((qz_im μ3 44 x0b x4.toNatClampNeg 4) ≤ 0) then (k 1 ([some (.inr (.inr (some (10, x0b, 0)))), some (.inr (.inr (some (10, x1b, 0)))), some (.inr (.inr (some (69, 0, 0)))), some (.inl (0 : Int32)), some (.inl (x4 + (1 : Int32))), some (.inl (1 : Int32)), none, none, none], [], μ3)) else (k 1 ([some (.inr (.inr (some (10, x0b, 0)))), some (.inr (.inr (some (10, x1b, 0)))), some (.inr (.inr (some (69, 0, 0)))), some (.inl (1 : Int32)), some (.inl (x4 + (1 : Int32))), some (.inl (1 : Int32)), none, none, none], [], μ3)))))) (fun μ3 e => (R μ3 (.inr e))))))))) :
    gb_61_1 k R (L, [], μ) := wz_fgd hL h
set_option maxRecDepth 10000 in
set_option maxHeartbeats 400000 in
theorem fc_61_5 (x0b : Nat) (x1b : Nat) (x3 : Int32) (x4 : Int32) (μ : qz_M) (k : wz_K) (R : wz_R) (L : qz_L) (hL : qz_fg [true, true, true, true, true, false, false, false, false] L = [some (.inr (.inr (some (10, x0b, 0)))), some (.inr (.inr (some (10, x1b, 0)))), some (.inr (.inr (some (69, 0, 0)))), some (.inl x3), some (.inl x4), none, none, none, none])
    (h : (wz_cI qf_21 [.inr (.inr (some (10, x0b, 0))), .inr (.inr (some (69, 0, 0)))] μ (fun μ1 v2 => (wz_loop qb_61_3 65536 (wz_sk gc_61_4 k R) R ([some (.inr (.inr (some (10, x0b, 0)))), some (.inr (.inr (some (10, x1b, 0)))), some (.inr (.inr (some (69, 0, 0)))), some (.inl x3), some (.inl x4), some (.inl v2), some (.inl (0 : Int32)), none, none], [], μ1))) (fun μ1 e => (R μ1 (.inr e))))) :
    gc_61_5 k R (L, [], μ) := wz_fgd hL h
set_option maxRecDepth 10000 in
set_option maxHeartbeats 400000 in
theorem fb_61_2 (x0b : Nat) (x1b : Nat) (x3 : Int32) (x4 : Int32) (x5 : Int32) (μ : qz_M) (k : wz_K) (R : wz_R) (L : qz_L) (hL : qz_fg [true, true, true, true, true, true, false, false, false] L = [some (.inr (.inr (some (10, x0b, 0)))), some (.inr (.inr (some (10, x1b, 0)))), some (.inr (.inr (some (69, 0, 0)))), some (.inl x3), some (.inl x4), some (.inl x5), none, none, none])
    (h : (bif decide ((qz_im μ 11 x0b 0 6) ≤ x5) then (k 0 ([some (.inr (.inr (some (10, x0b, 0)))), some (.inr (.inr (some (10, x1b, 0)))), some (.inr (.inr (some (69, 0, 0)))), some (.inl x3), some (.inl x4), some (.inl x5), none, none, none], [], μ)) else (bif pz_out x5 60 then False else (k 1 ([some (.inr (.inr (some (10, x0b, 0)))), some (.inr (.inr (some (10, x1b, 0)))), some (.inr (.inr (some (69, 0, 0)))), some (.inl x3), some (.inl (x4 + (qz_im μ 47 x0b x5.toNatClampNeg 18))), some (.inl (x5 + (1 : Int32))), none, none, none], [], μ))))) :
    gb_61_2 k R (L, [], μ) := wz_fgd hL h
set_option maxRecDepth 10000 in
set_option maxHeartbeats 400000 in
theorem fc_61_4 (x3 : Int32) (x4 : Int32) (μ : qz_M) (k : wz_K) (R : wz_R) (L : qz_L) (hL : qz_fg [false, false, false, true, true, false, false, false, false] L = [none, none, none, some (.inl x3), some (.inl x4), none, none, none, none])
    (h : (bif decide (x3 = 0) then (R μ (.inl (some (.inl (0 : Int32))))) else (bif (!decide (x4 = 0)) then (R μ (.inl (some (.inl (0 : Int32))))) else (R μ (.inl (some (.inl (1 : Int32)))))))) :
    gc_61_4 k R (L, [], μ) := wz_fgd hL h
set_option maxRecDepth 10000 in
set_option maxHeartbeats 400000 in
theorem fb_61_3 (x0b : Nat) (x1b : Nat) (x3 : Int32) (x4 : Int32) (x5 : Int32) (x6 : Int32) (μ : qz_M) (k : wz_K) (R : wz_R) (L : qz_L) (hL : qz_fg [true, true, true, true, true, true, true, false, false] L = [some (.inr (.inr (some (10, x0b, 0)))), some (.inr (.inr (some (10, x1b, 0)))), some (.inr (.inr (some (69, 0, 0)))), some (.inl x3), some (.inl x4), some (.inl x5), some (.inl x6), none, none])
    (h : (bif decide ((qz_im μ 11 x0b 0 7) ≤ x6) then (k 0 ([some (.inr (.inr (some (10, x0b, 0)))), some (.inr (.inr (some (10, x1b, 0)))), some (.inr (.inr (some (69, 0, 0)))), some (.inl x3), some (.inl x4), some (.inl x5), some (.inl x6), none, none], [], μ)) else (bif decide (x3 = 0) then (k 0 ([some (.inr (.inr (some (10, x0b, 0)))), some (.inr (.inr (some (10, x1b, 0)))), some (.inr (.inr (some (69, 0, 0)))), some (.inl x3), some (.inl x4), some (.inl x5), some (.inl x6), none, none], [], μ)) else (bif pz_out x6 2 then False else (wz_cI qf_77 [.inr (.inr (some (10, x0b, 0))), .inr (.inr (some (10, x1b, 0))), .inl x6, .inl (qz_im μ 48 x0b x6.toNatClampNeg 5), .inl (0 : Int32)] μ (fun μ1 v2 => (bif pz_out x6 2 then False else (bif decide (x5 < v2) then (k 1 ([some (.inr (.inr (some (10, x0b, 0)))), some (.inr (.inr (some (10, x1b, 0)))), some (.inr (.inr (some (69, 0, 0)))), some (.inl (0 : Int32)), some (.inl (x4 - (qz_im μ1 48 x0b x6.toNatClampNeg 11))), some (.inl x5), some (.inl (x6 + (1 : Int32))), some (.inl (qz_im μ 48 x0b x6.toNatClampNeg 5)), some (.inl v2)], [], μ1)) else (bif decide ((qz_im μ 48 x0b x6.toNatClampNeg 5) < (1 : Int32)) then (k 1 ([some (.inr (.inr (some (10, x0b, 0)))), some (.inr (.inr (some (10, x1b, 0)))), some (.inr (.inr (some (69, 0, 0)))), some (.inl (1 : Int32)), some (.inl (x4 - (qz_im μ1 48 x0b x6.toNatClampNeg 11))), some (.inl x5), some (.inl (x6 + (1 : Int32))), some (.inl (qz_im μ 48 x0b x6.toNatClampNeg 5)), some (.inl v2)], [], μ1)) else (bif decide ((3 : Int32) < (qz_im μ 48 x0b x6.toNatClampNeg 5)) then (k 1 ([some (.inr (.inr (some (10, x0b, 0)))), some (.inr (.inr (some (10, x1b, 0)))), some (.inr (.inr (some (69, 0, 0)))), some (.inl (1 : Int32)), some (.inl (x4 - (qz_im μ1 48 x0b x6.toNatClampNeg 11))), some (.inl x5), some (.inl (x6 + (1 : Int32))), some (.inl (qz_im μ 48 x0b x6.toNatClampNeg 5)), some (.inl v2)], [], μ1)) else (wz_cI qf_62 [.inr (.inr (some (10, x0b, 0))), .inr (.inr (some (10, x1b, 0))), .inl x6, .inr (.inr (some (69, 0, 0)))] μ1 (fun μ3 v4 => (bif decide (v4 < v2) then (k 1 ([some (.inr (.inr (some (10, x0b, 0)))), some (.inr (.inr (some (10, x1b, 0)))), some (.inr (.inr (some (69, 0, 0)))), some (.inl (0 : Int32)), some (.inl (x4 - (qz_im μ1 48 x0b x6.toNatClampNeg 11))), some (.inl x5), some (.inl (x6 + (1 : Int32))), some (.inl (qz_im μ 48 x0b x6.toNatClampNeg 5)), some (.inl v2)], [], μ3)) else (k 1 ([some (.inr (.inr (some (10, x0b, 0)))), some (.inr (.inr (some (10, x1b, 0)))), some (.inr (.inr (some (69, 0, 0)))), some (.inl (1 : Int32)), some (.inl (x4 - (qz_im μ1 48 x0b x6.toNatClampNeg 11))), some (.inl x5), some (.inl (x6 + (1 : Int32))), some (.inl (qz_im μ 48 x0b x6.toNatClampNeg 5)), some (.inl v2)], [], μ3)))) (fun μ3 e => (R μ3 (.inr e))))))))) (fun μ1 e => (R μ1 (.inr e)))))))) :
    gb_61_3 k R (L, [], μ) := wz_fgd hL h

/-! what the methods ask, 6 -/
/- X3 bestStartOf -/
/- X3 isOpen -/
/- X3 lotsDue -/
/- X3 queueFault -/
set_option maxRecDepth 10000 in
set_option maxHeartbeats 400000 in
theorem fw_71 (a0b : Nat) (a1 : Int32) (a2 : Int32) (a3 : Int32) (a4 : Int32) (μ : qz_M) (R : wz_R)
    (h : (bif decide (a1 < 0) then (R μ (.inl (some (.inl (1 : Int32))))) else (bif decide ((qz_im μ 11 a0b 0 7) ≤ a1) then (R μ (.inl (some (.inl (1 : Int32))))) else (bif decide (a2 < 0) then (R μ (.inl (some (.inl (1 : Int32))))) else (bif decide (a2 < (qz_im μ 11 a0b 0 3)) then (bif decide (a3 < (1 : Int32)) then (R μ (.inl (some (.inl (2 : Int32))))) else (bif decide ((9999 : Int32) < a3) then (R μ (.inl (some (.inl (2 : Int32))))) else (bif decide (a4 < (1 : Int32)) then (R μ (.inl (some (.inl (2 : Int32))))) else (bif decide (a3 < a4) then (R μ (.inl (some (.inl (2 : Int32))))) else (bif pz_out a1 2 then False else (bif decide (a3 ≤ (a4 + ((200 : Int32) * (qz_im μ 48 a0b a1.toNatClampNeg 3)))) then (bif pz_out a2 48 then False else (bif (!decide ((qz_im μ 44 a0b a2.toNatClampNeg 10) = 0)) then (R μ (.inl (some (.inl (3 : Int32))))) else (bif decide ((qz_im μ 44 a0b a2.toNatClampNeg 4) ≤ 0) then (R μ (.inl (some (.inl (3 : Int32))))) else (bif decide ((qz_im μ 44 a0b a2.toNatClampNeg 12) < 0) then (bif pz_out a1 2 then False else (bif decide ((12 : Int32) ≤ (qz_im μ 48 a0b a1.toNatClampNeg 5)) then (R μ (.inl (some (.inl (3 : Int32))))) else (R μ (.inl (some (.inl (0 : Int32))))))) else (bif decide ((qz_im μ 11 a0b 0 2) ≤ (qz_im μ 44 a0b a2.toNatClampNeg 12)) then (bif pz_out a1 2 then False else (bif decide ((12 : Int32) ≤ (qz_im μ 48 a0b a1.toNatClampNeg 5)) then (R μ (.inl (some (.inl (3 : Int32))))) else (R μ (.inl (some (.inl (0 : Int32))))))) else (bif pz_out (qz_im μ 44 a0b a2.toNatClampNeg 12) 6 then False else (bif decide ((qz_im μ 43 a0b (qz_im μ 44 a0b a2.toNatClampNeg 12).toNatClampNeg 10) ≤ (qz_im μ 11 a0b 0 13)) then (bif pz_out a1 2 then False else (bif decide ((12 : Int32) ≤ (qz_im μ 48 a0b a1.toNatClampNeg 5)) then (R μ (.inl (some (.inl (3 : Int32))))) else (R μ (.inl (some (.inl (0 : Int32))))))) else (R μ (.inl (some (.inl (3 : Int32)))))))))))) else (R μ (.inl (some (.inl (2 : Int32))))))))))) else (R μ (.inl (some (.inl (1 : Int32)))))))))) :
    wz_call qf_71 [.inr (.inr (some (10, a0b, 0))), .inl a1, .inl a2, .inl a3, .inl a4] μ R := wz_mt9 (L := [some (.inr (.inr (some (10, a0b, 0)))), some (.inl a1), some (.inl a2), some (.inl a3), some (.inl a4), none, none]) sw_71 rfl h
/- X3 queuePallet -/
/- X3 takeOut -/
/- X3 withdrawFault -/
/- X4 begin -/
/- X4 goOnFrom -/
/- X6 init -/
set_option maxRecDepth 10000 in
set_option maxHeartbeats 400000 in
theorem fw_115 (sn : Nat) (μ : qz_M) (R : wz_R)
    (h : (wz_wr (qz_al μ 50 1 17 1 17) (fun μ1 => (bif (Nat.beq (qz_tag μ1 (200, sn, 0)) 1 && true) && (true && (true && qz_dy (200, sn, 0) 0)) then (wz_wr (qz_wR μ1 (200, sn, 0) 0 (some (200, (qz_na μ), 0))) (fun μ2 => (wz_wr (qz_al μ2 50 1 28 1 28) (fun μ3 => (bif (Nat.beq (qz_tag μ3 (200, sn, 0)) 1 && true) && (true && (true && qz_dy (200, sn, 0) 1)) then (wz_wr (qz_wR μ3 (200, sn, 0) 1 (some (200, (qz_na μ2), 0))) (fun μ4 => (wz_wr (qz_al μ4 50 1 4 1 4) (fun μ5 => (bif Nat.beq (qz_tag μ5 (200, (qz_na μ4), 0)) 50 then (bif pz_out (0 : Int32) (qz_len μ5 (200, (qz_na μ4), 0)) then False else (wz_wr (qz_wI μ5 (200, (qz_na μ4), 0) 0 (50 : Int32)) (fun μ6 => (bif Nat.beq (qz_tag μ6 (200, (qz_na μ4), 0)) 50 then (bif pz_out (1 : Int32) (qz_len μ6 (200, (qz_na μ4), 0)) then False else (wz_wr (qz_wI μ6 (200, (qz_na μ4), 0) 1 (120 : Int32)) (fun μ7 => (bif Nat.beq (qz_tag μ7 (200, (qz_na μ4), 0)) 50 then (bif pz_out (2 : Int32) (qz_len μ7 (200, (qz_na μ4), 0)) then False else (wz_wr (qz_wI μ7 (200, (qz_na μ4), 0) 2 (400 : Int32)) (fun μ8 => (bif Nat.beq (qz_tag μ8 (200, (qz_na μ4), 0)) 50 then (bif pz_out (3 : Int32) (qz_len μ8 (200, (qz_na μ4), 0)) then False else (wz_wr (qz_wI μ8 (200, (qz_na μ4), 0) 3 (2500 : Int32)) (fun μ9 => (bif (Nat.beq (qz_tag μ9 (200, sn, 0)) 1 && true) && (true && (true && qz_dy (200, sn, 0) 2)) then (wz_wr (qz_wR μ9 (200, sn, 0) 2 (some (200, (qz_na μ4), 0))) (fun μ10 => (wz_wr (qz_al μ10 50 1 10 1 10) (fun μ11 => (bif (Nat.beq (qz_tag μ11 (200, sn, 0)) 1 && true) && (true && (true && qz_dy (200, sn, 0) 3)) then (wz_wr (qz_wR μ11 (200, sn, 0) 3 (some (200, (qz_na μ10), 0))) (fun μ12 => (wz_wr (qz_alr (qz_al μ12 50 6 6 6 (6 * 6)) 53 1 6 1 6 (fun j => if j < 6 then some (200, qz_na μ12, j) else none)) (fun μ13 => (bif (Nat.beq (qz_tag μ13 (200, sn, 0)) 1 && true) && (true && (true && qz_dy (200, sn, 0) 4)) then (wz_wr (qz_wR μ13 (200, sn, 0) 4 (some (200, (qz_na μ12 + 1), 0))) (fun μ14 => (wz_wr (qz_alr (qz_al μ14 50 5 5 5 (5 * 5)) 53 1 5 1 5 (fun j => if j < 5 then some (200, qz_na μ14, j) else none)) (fun μ15 => (bif (Nat.beq (qz_tag μ15 (200, sn, 0)) 1 && true) && (true && (true && qz_dy (200, sn, 0) 5)) then (wz_wr (qz_wR μ15 (200, sn, 0) 5 (some (200, (qz_na μ14 + 1), 0))) (fun μ16 => (wz_wr (qz_alr (qz_al μ16 50 6 7 6 (6 * 7)) 53 1 6 1 6 (fun j => if j < 6 then some (200, qz_na μ16, j) else none)) (fun μ17 => (bif (Nat.beq (qz_tag μ17 (200, sn, 0)) 1 && true) && (true && (true && qz_dy (200, sn, 0) 6)) then (wz_wr (qz_wR μ17 (200, sn, 0) 6 (some (200, (qz_na μ16 + 1), 0))) (fun μ18 => (wz_wr (qz_alr (qz_al μ18 50 6 11 6 (6 * 11)) 53 1 6 1 6 (fun j => if j < 6 then some (200, qz_na μ18, j) else none)) (fun μ19 => (bif (Nat.beq (qz_tag μ19 (200, sn, 0)) 1 && true) && (true && (true && qz_dy (200, sn, 0) 7)) then (wz_wr (qz_wR μ19 (200, sn, 0) 7 (some (200, (qz_na μ18 + 1), 0))) (fun μ20 => (wz_wr (qz_alr (qz_al μ20 50 48 16 48 (48 * 16)) 53 1 48 1 48 (fun j => if j < 48 then some (200, qz_na μ20, j) else none)) (fun μ21 => (bif (Nat.beq (qz_tag μ21 (200, sn, 0)) 1 && true) && (true && (true && qz_dy (200, sn, 0) 8)) then (wz_wr (qz_wR μ21 (200, sn, 0) 8 (some (200, (qz_na μ20 + 1), 0))) (fun μ22 => (wz_wr (qz_alr (qz_al μ22 50 8 15 8 (8 * 15)) 53 1 8 1 8 (fun j => if j < 8 then some (200, qz_na μ22, j) else none)) (fun μ23 => (bif (Nat.beq (qz_tag μ23 (200, sn, 0)) 1 && true) && (true && (true && qz_dy (200, sn, 0) 9)) then (wz_wr (qz_wR μ23 (200, sn, 0) 9 (some (200, (qz_na μ22 + 1), 0))) (fun μ24 => (wz_wr (qz_alr (qz_al μ24 50 24 10 24 (24 * 10)) 53 1 24 1 24 (fun j => if j < 24 then some (200, qz_na μ24, j) else none)) (fun μ25 => (bif (Nat.beq (qz_tag μ25 (200, sn, 0)) 1 && true) && (true && (true && qz_dy (200, sn, 0) 10)) then (wz_wr (qz_wR μ25 (200, sn, 0) 10 (some (200, (qz_na μ24 + 1), 0))) (fun μ26 => (wz_wr (qz_alr (qz_al μ26 50 60 21 60 (60 * 21)) 53 1 60 1 60 (fun j => if j < 60 then some (200, qz_na μ26, j) else none)) (fun μ27 => (bif (Nat.beq (qz_tag μ27 (200, sn, 0)) 1 && true) && (true && (true && qz_dy (200, sn, 0) 11)) then (wz_wr (qz_wR μ27 (200, sn, 0) 11 (some (200, (qz_na μ26 + 1), 0))) (fun μ28 => (wz_wr (qz_alr (qz_al μ28 50 2 12 2 (2 * 12)) 53 1 2 1 2 (fun j => if j < 2 then some (200, qz_na μ28, j) else none)) (fun μ29 => (bif (Nat.beq (qz_tag μ29 (200, sn, 0)) 1 && true) && (true && (true && qz_dy (200, sn, 0) 12)) then (wz_wr (qz_wR μ29 (200, sn, 0) 12 (some (200, (qz_na μ28 + 1), 0))) (fun μ30 => (wz_wr (qz_alr (qz_al μ30 50 24 3 24 (24 * 3)) 53 1 24 1 24 (fun j => if j < 24 then some (200, qz_na μ30, j) else none)) (fun μ31 => (bif (Nat.beq (qz_tag μ31 (200, sn, 0)) 1 && true) && (true && (true && qz_dy (200, sn, 0) 13)) then (wz_wr (qz_wR μ31 (200, sn, 0) 13 (some (200, (qz_na μ30 + 1), 0))) (fun μ32 => (wz_wr (qz_alr (qz_al μ32 50 4 22 4 (4 * 22)) 53 1 4 1 4 (fun j => if j < 4 then some (200, qz_na μ32, j) else none)) (fun μ33 => (bif (Nat.beq (qz_tag μ33 (200, sn, 0)) 1 && true) && (true && (true && qz_dy (200, sn, 0) 14)) then (wz_wr (qz_wR μ33 (200, sn, 0) 14 (some (200, (qz_na μ32 + 1), 0))) (fun μ34 => (wz_wr (qz_alr (qz_al μ34 50 2 8 2 (2 * 8)) 53 1 2 1 2 (fun j => if j < 2 then some (200, qz_na μ34, j) else none)) (fun μ35 => (bif (Nat.beq (qz_tag μ35 (200, sn, 0)) 1 && true) && (true && (true && qz_dy (200, sn, 0) 15)) then (wz_wr (qz_wR μ35 (200, sn, 0) 15 (some (200, (qz_na μ34 + 1), 0))) (fun μ36 => (wz_wr (qz_alr (qz_al μ36 50 24 6 24 (24 * 6)) 53 1 24 1 24 (fun j => if j < 24 then some (200, qz_na μ36, j) else none)) (fun μ37 => (bif (Nat.beq (qz_tag μ37 (200, sn, 0)) 1 && true) && (true && (true && qz_dy (200, sn, 0) 16)) then (wz_wr (qz_wR μ37 (200, sn, 0) 16 (some (200, (qz_na μ36 + 1), 0))) (fun μ38 => (wz_wr (qz_alr (qz_al μ38 50 60 5 60 (60 * 5)) 53 1 60 1 60 (fun j => if j < 60 then some (200, qz_na μ38, j) else none)) (fun μ39 => (bif (Nat.beq (qz_tag μ39 (200, sn, 0)) 1 && true) && (true && (true && qz_dy (200, sn, 0) 17)) then (wz_wr (qz_wR μ39 (200, sn, 0) 17 (some (200, (qz_na μ38 + 1), 0))) (fun μ40 => (wz_wr (qz_alr (qz_al μ40 50 12 8 12 (12 * 8)) 53 1 12 1 12 (fun j => if j < 12 then some (200, qz_na μ40, j) else none)) (fun μ41 => (bif (Nat.beq (qz_tag μ41 (200, sn, 0)) 1 && true) && (true && (true && qz_dy (200, sn, 0) 18)) then (wz_wr (qz_wR μ41 (200, sn, 0) 18 (some (200, (qz_na μ40 + 1), 0))) (fun μ42 => (bif Nat.beq (qz_tag μ42 (200, sn, 0)) 1 && true then (wz_rk (qz_rm μ42 200 sn 0 0) (fun r43 => (bif Nat.beq (qz_tag μ42 r43) 50 then (bif pz_out (14 : Int32) (qz_len μ42 r43) then False else (wz_wr (qz_wI μ42 r43 14 (2 : Int32)) (fun μ44 => (bif Nat.beq (qz_tag μ44 (200, sn, 0)) 1 && true then (wz_rk (qz_rm μ44 200 sn 0 0) (fun r45 => (bif Nat.beq (qz_tag μ44 r45) 50 then (bif pz_out (16 : Int32) (qz_len μ44 r45) then False else (wz_wr (qz_wI μ44 r45 16 (-1 : Int32)) (fun μ46 => (wz_loop qb_115_1 65536 (wz_sk gc_115_6 wz_k0 R) R ([some (.inr (.inr (some (200, sn, 0)))), some (.inl (0 : Int32)), none], [], μ46))))) else False))) else False)))) else False))) else False))) else False))))) else False))))) else False))))) else False))))) else False))))) else False))))) else False))))) else False))))) else False))))) else False))))) else False))))) else False))))) else False))))) else False))))) else False))))) else False))))) else False)))) else False)))) else False)))) else False)))) else False))))) else False))))) else False)))) :
    wz_call qf_115 [.inr (.inr (some (200, sn, 0)))] μ R := wz_mt9 (L := [some (.inr (.inr (some (200, sn, 0)))), none, none]) sw_115 rfl h
set_option maxRecDepth 10000 in
set_option maxHeartbeats 400000 in
theorem fc_115_6 (x0 : Nat) (μ : qz_M) (k : wz_K) (R : wz_R) (L : qz_L) (hL : qz_fg [true, false, false] L = [some (.inr (.inr (some (200, x0, 0)))), none, none])
    (h : (wz_loop qb_115_4 65536 (wz_sk gc_115_5 k R) R ([some (.inr (.inr (some (200, x0, 0)))), some (.inl (0 : Int32)), none], [], μ))) :
    gc_115_6 k R (L, [], μ) := wz_fgd hL h
set_option maxRecDepth 10000 in
set_option maxHeartbeats 400000 in
theorem fb_115_1 (x0 : Nat) (x1 : Int32) (μ : qz_M) (k : wz_K) (R : wz_R) (L : qz_L) (hL : qz_fg [true, true, false] L = [some (.inr (.inr (some (200, x0, 0)))), some (.inl x1), none])
    (h : (bif decide ((28 : Int32) ≤ x1) then (k 0 ([some (.inr (.inr (some (200, x0, 0)))), some (.inl x1), none], [], μ)) else (bif Nat.beq (qz_tag μ (200, x0, 0)) 1 && true then (wz_rk (qz_rm μ 200 x0 0 1) (fun r1 => (bif Nat.beq (qz_tag μ r1) 50 then (bif pz_out x1 (qz_len μ r1) then False else (wz_wr (qz_wI μ r1 x1.toNatClampNeg (18 : Int32)) (fun μ2 => (k 1 ([some (.inr (.inr (some (200, x0, 0)))), some (.inl (x1 + (1 : Int32))), none], [], μ2))))) else False))) else False))) :
    gb_115_1 k R (L, [], μ) := wz_fgd hL h
set_option maxRecDepth 10000 in
set_option maxHeartbeats 400000 in
theorem fc_115_5  (μ : qz_M) (k : wz_K) (R : wz_R) (L : qz_L) (hL : qz_fg [false, false, false] L = [none, none, none])
    (h : (R μ (.inl none))) :
    gc_115_5 k R (L, [], μ) := wz_fgd hL h
set_option maxRecDepth 10000 in
set_option maxHeartbeats 400000 in
theorem fb_115_4 (x0 : Nat) (x1 : Int32) (μ : qz_M) (k : wz_K) (R : wz_R) (L : qz_L) (hL : qz_fg [true, true, false] L = [some (.inr (.inr (some (200, x0, 0)))), some (.inl x1), none])
    (h : (bif decide ((5 : Int32) < x1) then (k 0 ([some (.inr (.inr (some (200, x0, 0)))), some (.inl x1), none], [], μ)) else (wz_loop qb_115_2 65536 (wz_sk gc_115_3 (wz_kb k) R) R ([some (.inr (.inr (some (200, x0, 0)))), some (.inl x1), some (.inl (0 : Int32))], [], μ)))) :
    gb_115_4 k R (L, [], μ) := wz_fgd hL h
set_option maxRecDepth 10000 in
set_option maxHeartbeats 400000 in
theorem fc_115_3 (x0 : Nat) (x1 : Int32) (μ : qz_M) (k : wz_K) (R : wz_R) (L : qz_L) (hL : qz_fg [true, true, false] L = [some (.inr (.inr (some (200, x0, 0)))), some (.inl x1), none])
    (h : (k 2 ([some (.inr (.inr (some (200, x0, 0)))), some (.inl (x1 + (1 : Int32))), none], [], μ))) :
    gc_115_3 k R (L, [], μ) := wz_fgd hL h
set_option maxRecDepth 10000 in
set_option maxHeartbeats 400000 in
theorem fb_115_2 (x0 : Nat) (x1 : Int32) (x2 : Int32) (μ : qz_M) (k : wz_K) (R : wz_R) (L : qz_L) (hL : qz_fg [true, true, true] L = [some (.inr (.inr (some (200, x0, 0)))), some (.inl x1), some (.inl x2)])
    (h : (bif decide ((5 : Int32) < x2) then (k 0 ([some (.inr (.inr (some (200, x0, 0)))), some (.inl x1), some (.inl x2)], [], μ)) else (bif Nat.beq (qz_tag μ (200, x0, 0)) 1 && true then (wz_rk (qz_rm μ 200 x0 0 4) (fun r1 => (bif Nat.beq (qz_tag μ r1) 53 || Nat.beq (qz_tag μ r1) 54 then (bif pz_out x1 (qz_len μ r1) then False else (wz_rk (qz_rf μ r1 x1.toNatClampNeg) (fun r2 => (bif (!decide (x1 = x2)) then (bif Nat.beq (qz_tag μ r2) 50 then (bif pz_out x2 (qz_len μ r2) then False else (wz_wr (qz_wI μ r2 x2.toNatClampNeg (3 : Int32)) (fun μ3 => (k 1 ([some (.inr (.inr (some (200, x0, 0)))), some (.inl x1), some (.inl (x2 + (1 : Int32)))], [], μ3))))) else False) else (bif Nat.beq (qz_tag μ r2) 50 then (bif pz_out x2 (qz_len μ r2) then False else (wz_wr (qz_wI μ r2 x2.toNatClampNeg (0 : Int32)) (fun μ4 => (k 1 ([some (.inr (.inr (some (200, x0, 0)))), some (.inl x1), some (.inl (x2 + (1 : Int32)))], [], μ4))))) else False))))) else False))) else False))) :
    gb_115_2 k R (L, [], μ) := wz_fgd hL h
/- X4 init -/
set_option maxRecDepth 10000 in
set_option maxHeartbeats 400000 in
theorem fw_82 (sn : Nat) (μ : qz_M) (R : wz_R)
    (h : (wz_wr (qz_alr (qz_al μ 50 520 8 520 (520 * 8)) 53 1 520 1 520 (fun j => if j < 520 then some (200, qz_na μ, j) else none)) (fun μ1 => (bif (Nat.beq (qz_tag μ1 (200, sn, 0)) 0 && true) && (true && (true && qz_dy (200, sn, 0) 0)) then (wz_wr (qz_wR μ1 (200, sn, 0) 0 (some (200, (qz_na μ + 1), 0))) (fun μ2 => (wz_wr (qz_al μ2 50 1 520 1 520) (fun μ3 => (bif (Nat.beq (qz_tag μ3 (200, sn, 0)) 0 && true) && (true && (true && qz_dy (200, sn, 0) 1)) then (wz_wr (qz_wR μ3 (200, sn, 0) 1 (some (200, (qz_na μ2), 0))) (fun μ4 => (wz_wr (qz_al μ4 1 1 0 1 19) (fun μ5 => (bif Nat.beq (qz_tag μ5 (200, (qz_na μ4), 0)) 1 && true then (wz_cV qf_115 [.inr (.inr (some (200, (qz_na μ4), 0)))] μ5 (fun μ6 => (bif (Nat.beq (qz_tag μ6 (200, sn, 0)) 0 && true) && (true && (true && qz_dy (200, sn, 0) 2)) then (wz_wr (qz_wR μ6 (200, sn, 0) 2 (some (200, (qz_na μ4), 0))) (fun μ7 => (wz_wr (qz_al μ7 54 1 8 1 8) (fun μ8 => (wz_wr (qz_al μ8 1 1 0 1 19) (fun μ9 => (bif Nat.beq (qz_tag μ9 (200, (qz_na μ8), 0)) 1 && true then (wz_cV qf_115 [.inr (.inr (some (200, (qz_na μ8), 0)))] μ9 (fun μ10 => (bif Nat.beq (qz_tag μ10 (200, (qz_na μ7), 0)) 54 && (Nat.beq (qz_tag μ10 (200, (qz_na μ8), 0)) 1 && true) then (bif pz_out (0 : Int32) (qz_len μ10 (200, (qz_na μ7), 0)) then False else (wz_wr (qz_wR μ10 (200, (qz_na μ7), 0) 0 (some (200, (qz_na μ8), 0))) (fun μ11 => (wz_wr (qz_al μ11 1 1 0 1 19) (fun μ12 => (bif Nat.beq (qz_tag μ12 (200, (qz_na μ11), 0)) 1 && true then (wz_cV qf_115 [.inr (.inr (some (200, (qz_na μ11), 0)))] μ12 (fun μ13 => (bif Nat.beq (qz_tag μ13 (200, (qz_na μ7), 0)) 54 && (Nat.beq (qz_tag μ13 (200, (qz_na μ11), 0)) 1 && true) then (bif pz_out (1 : Int32) (qz_len μ13 (200, (qz_na μ7), 0)) then False else (wz_wr (qz_wR μ13 (200, (qz_na μ7), 0) 1 (some (200, (qz_na μ11), 0))) (fun μ14 => (wz_wr (qz_al μ14 1 1 0 1 19) (fun μ15 => (bif Nat.beq (qz_tag μ15 (200, (qz_na μ14), 0)) 1 && true then (wz_cV qf_115 [.inr (.inr (some (200, (qz_na μ14), 0)))] μ15 (fun μ16 => (bif Nat.beq (qz_tag μ16 (200, (qz_na μ7), 0)) 54 && (Nat.beq (qz_tag μ16 (200, (qz_na μ14), 0)) 1 && true) then (bif pz_out (2 : Int32) (qz_len μ16 (200, (qz_na μ7), 0)) then False else (wz_wr (qz_wR μ16 (200, (qz_na μ7), 0) 2 (some (200, (qz_na μ14), 0))) (fun μ17 => (wz_wr (qz_al μ17 1 1 0 1 19) (fun μ18 => (bif Nat.beq (qz_tag μ18 (200, (qz_na μ17), 0)) 1 && true then (wz_cV qf_115 [.inr (.inr (some (200, (qz_na μ17), 0)))] μ18 (fun μ19 => (bif Nat.beq (qz_tag μ19 (200, (qz_na μ7), 0)) 54 && (Nat.beq (qz_tag μ19 (200, (qz_na μ17), 0)) 1 && true) then (bif pz_out (3 : Int32) (qz_len μ19 (200, (qz_na μ7), 0)) then False else (wz_wr (qz_wR μ19 (200, (qz_na μ7), 0) 3 (some (200, (qz_na μ17), 0))) (fun μ20 => (wz_wr (qz_al μ20 1 1 0 1 19) (fun μ21 => (bif Nat.beq (qz_tag μ21 (200, (qz_na μ20), 0)) 1 && true then (wz_cV qf_115 [.inr (.inr (some (200, (qz_na μ20), 0)))] μ21 (fun μ22 => (bif Nat.beq (qz_tag μ22 (200, (qz_na μ7), 0)) 54 && (Nat.beq (qz_tag μ22 (200, (qz_na μ20), 0)) 1 && true) then (bif pz_out (4 : Int32) (qz_len μ22 (200, (qz_na μ7), 0)) then False else (wz_wr (qz_wR μ22 (200, (qz_na μ7), 0) 4 (some (200, (qz_na μ20), 0))) (fun μ23 => (wz_wr (qz_al μ23 1 1 0 1 19) (fun μ24 => (bif Nat.beq (qz_tag μ24 (200, (qz_na μ23), 0)) 1 && true then (wz_cV qf_115 [.inr (.inr (some (200, (qz_na μ23), 0)))] μ24 (fun μ25 => (bif Nat.beq (qz_tag μ25 (200, (qz_na μ7), 0)) 54 && (Nat.beq (qz_tag μ25 (200, (qz_na μ23), 0)) 1 && true) then (bif pz_out (5 : Int32) (qz_len μ25 (200, (qz_na μ7), 0)) then False else (wz_wr (qz_wR μ25 (200, (qz_na μ7), 0) 5 (some (200, (qz_na μ23), 0))) (fun μ26 => (wz_wr (qz_al μ26 1 1 0 1 19) (fun μ27 => (bif Nat.beq (qz_tag μ27 (200, (qz_na μ26), 0)) 1 && true then (wz_cV qf_115 [.inr (.inr (some (200, (qz_na μ26), 0)))] μ27 (fun μ28 => (bif Nat.beq (qz_tag μ28 (200, (qz_na μ7), 0)) 54 && (Nat.beq (qz_tag μ28 (200, (qz_na μ26), 0)) 1 && true) then (bif pz_out (6 : Int32) (qz_len μ28 (200, (qz_na μ7), 0)) then False else (wz_wr (qz_wR μ28 (200, (qz_na μ7), 0) 6 (some (200, (qz_na μ26), 0))) (fun μ29 => (wz_wr (qz_al μ29 1 1 0 1 19) (fun μ30 => (bif Nat.beq (qz_tag μ30 (200, (qz_na μ29), 0)) 1 && true then (wz_cV qf_115 [.inr (.inr (some (200, (qz_na μ29), 0)))] μ30 (fun μ31 => (bif Nat.beq (qz_tag μ31 (200, (qz_na μ7), 0)) 54 && (Nat.beq (qz_tag μ31 (200, (qz_na μ29), 0)) 1 && true) then (bif pz_out (7 : Int32) (qz_len μ31 (200, (qz_na μ7), 0)) then False else (wz_wr (qz_wR μ31 (200, (qz_na μ7), 0) 7 (some (200, (qz_na μ29), 0))) (fun μ32 => (bif (Nat.beq (qz_tag μ32 (200, sn, 0)) 0 && true) && (true && (true && qz_dy (200, sn, 0) 3)) then (wz_wr (qz_wR μ32 (200, sn, 0) 3 (some (200, (qz_na μ7), 0))) (fun μ33 => (wz_wr (qz_al μ33 54 1 2 1 2) (fun μ34 => (wz_wr (qz_al μ34 1 1 0 1 19) (fun μ35 => (bif Nat.beq (qz_tag μ35 (200, (qz_na μ34), 0)) 1 && true then (wz_cV qf_115 [.inr (.inr (some (200, (qz_na μ34), 0)))] μ35 (fun μ36 => (bif Nat.beq (qz_tag μ36 (200, (qz_na μ33), 0)) 54 && (Nat.beq (qz_tag μ36 (200, (qz_na μ34), 0)) 1 && true) then (bif pz_out (0 : Int32) (qz_len μ36 (200, (qz_na μ33), 0)) then False else (wz_wr (qz_wR μ36 (200, (qz_na μ33), 0) 0 (some (200, (qz_na μ34), 0))) (fun μ37 => (wz_wr (qz_al μ37 1 1 0 1 19) (fun μ38 => (bif Nat.beq (qz_tag μ38 (200, (qz_na μ37), 0)) 1 && true then (wz_cV qf_115 [.inr (.inr (some (200, (qz_na μ37), 0)))] μ38 (fun μ39 => (bif Nat.beq (qz_tag μ39 (200, (qz_na μ33), 0)) 54 && (Nat.beq (qz_tag μ39 (200, (qz_na μ37), 0)) 1 && true) then (bif pz_out (1 : Int32) (qz_len μ39 (200, (qz_na μ33), 0)) then False else (wz_wr (qz_wR μ39 (200, (qz_na μ33), 0) 1 (some (200, (qz_na μ37), 0))) (fun μ40 => (bif (Nat.beq (qz_tag μ40 (200, sn, 0)) 0 && true) && (true && (true && qz_dy (200, sn, 0) 4)) then (wz_wr (qz_wR μ40 (200, sn, 0) 4 (some (200, (qz_na μ33), 0))) (fun μ41 => (wz_wr (qz_al μ41 52 1 2 1 2) (fun μ42 => (bif (Nat.beq (qz_tag μ42 (200, sn, 0)) 0 && true) && (true && (true && qz_dy (200, sn, 0) 5)) then (wz_wr (qz_wR μ42 (200, sn, 0) 5 (some (200, (qz_na μ41), 0))) (fun μ43 => (bif (Nat.beq (qz_tag μ43 (200, sn, 0)) 0 && true) && true then (wz_wr (qz_wI μ43 (200, sn, 0) 6 (0 : Int32)) (fun μ44 => (bif (Nat.beq (qz_tag μ44 (200, sn, 0)) 0 && true) && true then (wz_wr (qz_wI μ44 (200, sn, 0) 7 (0 : Int32)) (fun μ45 => (bif (Nat.beq (qz_tag μ45 (200, sn, 0)) 0 && true) && true then (wz_wr (qz_wI μ45 (200, sn, 0) 8 (0 : Int32)) (fun μ46 => (R μ46 (.inl none)))) else False))) else False))) else False))) else False))))) else False)))) else False)) (fun μ39 e => False)) else False)))))) else False)) (fun μ36 e => False)) else False))))))) else False)))) else False)) (fun μ31 e => False)) else False)))))) else False)) (fun μ28 e => False)) else False)))))) else False)) (fun μ25 e => False)) else False)))))) else False)) (fun μ22 e => False)) else False)))))) else False)) (fun μ19 e => False)) else False)))))) else False)) (fun μ16 e => False)) else False)))))) else False)) (fun μ13 e => False)) else False)))))) else False)) (fun μ10 e => False)) else False))))))) else False)) (fun μ6 e => False)) else False))))) else False))))) else False)))) :
    wz_call qf_82 [.inr (.inr (some (200, sn, 0)))] μ R := wz_mt9 (L := [some (.inr (.inr (some (200, sn, 0))))]) sw_82 rfl h
/- X4 keepImage -/
/- X5 addSort -/
/- X5 addGrower -/
/- X5 addPallet -/
/- X5 nextSeed -/
/- X5 gradeBy -/
/- X5 least -/
/- X5 gradePallet -/
/- X10 addRoom -/
/- X6 swap -/
/- X10 standing -/
set_option maxRecDepth 10000 in
set_option maxHeartbeats 400000 in
theorem fw_182 (a0b : Nat) (a1 : Int32) (μ : qz_M) (R : wz_R)
    (h : (wz_loop qb_182_1 65536 (wz_sk gc_182_2 wz_k0 R) R ([some (.inr (.inr (some (10, a0b, 0)))), some (.inl a1), some (.inl (0 : Int32)), some (.inl (0 : Int32))], [], μ))) :
    wz_call qf_182 [.inr (.inr (some (10, a0b, 0))), .inl a1] μ R := wz_mt9 (L := [some (.inr (.inr (some (10, a0b, 0)))), some (.inl a1), none, none]) sw_182 rfl h
set_option maxRecDepth 10000 in
set_option maxHeartbeats 400000 in
theorem fc_182_2 (x2 : Int32) (μ : qz_M) (k : wz_K) (R : wz_R) (L : qz_L) (hL : qz_fg [false, false, true, false] L = [none, none, some (.inl x2), none])
    (h : (R μ (.inl (some (.inl x2))))) :
    gc_182_2 k R (L, [], μ) := wz_fgd hL h
set_option maxRecDepth 10000 in
set_option maxHeartbeats 400000 in
theorem fb_182_1 (x0b : Nat) (x1 : Int32) (x2 : Int32) (x3 : Int32) (μ : qz_M) (k : wz_K) (R : wz_R) (L : qz_L) (hL : qz_fg [true, true, true, true] L = [some (.inr (.inr (some (10, x0b, 0)))), some (.inl x1), some (.inl x2), some (.inl x3)])
    (h : (bif decide ((qz_im μ 11 x0b 0 3) ≤ x3) then (k 0 ([some (.inr (.inr (some (10, x0b, 0)))), some (.inl x1), some (.inl x2), some (.inl x3)], [], μ)) else (bif pz_out x3 48 then False else (bif (!decide ((qz_im μ 44 x0b x3.toNatClampNeg 12) = x1)) then (k 1 ([some (.inr (.inr (some (10, x0b, 0)))), some (.inl x1), some (.inl x2), some (.inl (x3 + (1 : Int32)))], [], μ)) else (k 1 ([some (.inr (.inr (some (10, x0b, 0)))), some (.inl x1), some (.inl (x2 + (1 : Int32))), some (.inl (x3 + (1 : Int32)))], [], μ)))))) :
    gb_182_1 k R (L, [], μ) := wz_fgd hL h
/- X10 placesLeft -/
/- X10 putPallet -/
/- X5 takeAway -/
