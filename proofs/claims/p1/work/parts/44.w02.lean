/-! what the methods ask, 3 -/
/- X1 suits -/
/- X1 left -/
/- X1 highestOf -/
/- X1 highestPrice -/
/- X1 howManyAsk -/
set_option maxRecDepth 10000 in
set_option maxHeartbeats 400000 in
theorem fw_27 (a0b : Nat) (μ : qz_M) (R : wz_R)
    (h : (wz_loop qb_27_1 65536 (wz_sk gc_27_2 wz_k0 R) R ([some (.inr (.inr (some (10, a0b, 0)))), some (.inl (0 : Int32)), some (.inl (0 : Int32))], [], μ))) :
    wz_call qf_27 [.inr (.inr (some (10, a0b, 0)))] μ R := wz_mt9 (L := [some (.inr (.inr (some (10, a0b, 0)))), none, none]) sw_27 rfl h
set_option maxRecDepth 10000 in
set_option maxHeartbeats 400000 in
theorem fc_27_2 (x1 : Int32) (μ : qz_M) (k : wz_K) (R : wz_R) (L : qz_L) (hL : qz_fg [false, true, false] L = [none, some (.inl x1), none])
    (h : (R μ (.inl (some (.inl x1))))) :
    gc_27_2 k R (L, [], μ) := wz_fgd hL h
set_option maxRecDepth 10000 in
set_option maxHeartbeats 400000 in
theorem fb_27_1 (x0b : Nat) (x1 : Int32) (x2 : Int32) (μ : qz_M) (k : wz_K) (R : wz_R) (L : qz_L) (hL : qz_fg [true, true, true] L = [some (.inr (.inr (some (10, x0b, 0)))), some (.inl x1), some (.inl x2)])
    (h : (bif decide ((qz_im μ 11 x0b 0 5) ≤ x2) then (k 0 ([some (.inr (.inr (some (10, x0b, 0)))), some (.inl x1), some (.inl x2)], [], μ)) else (bif pz_out x2 24 then False else (wz_cI qf_14 [.inr (.inr (some (10, x0b, 0))), .inr (.inr (some (46, x0b, x2.toNatClampNeg)))] μ (fun μ1 v2 => (bif decide (v2 = 0) then (k 1 ([some (.inr (.inr (some (10, x0b, 0)))), some (.inl (x1 + (0 : Int32))), some (.inl (x2 + (1 : Int32)))], [], μ1)) else (k 1 ([some (.inr (.inr (some (10, x0b, 0)))), some (.inl (x1 + (1 : Int32))), some (.inl (x2 + (1 : Int32)))], [], μ1)))) (fun μ1 e => (R μ1 (.inr e))))))) :
    gb_27_1 k R (L, [], μ) := wz_fgd hL h
/- X1 payIn -/
/- X1 sell -/
/- X1 takerOf -/
/- X1 tellBuyer -/
/- X1 tellParcel -/
/- X2 addTruck -/
/- X2 parcelsIn -/
/- X2 atDocks -/
set_option maxRecDepth 10000 in
set_option maxHeartbeats 400000 in
theorem fw_40 (a0b : Nat) (μ : qz_M) (R : wz_R)
    (h : (wz_loop qb_40_1 65536 (wz_sk gc_40_2 wz_k0 R) R ([some (.inr (.inr (some (10, a0b, 0)))), some (.inl (0 : Int32)), some (.inl (0 : Int32))], [], μ))) :
    wz_call qf_40 [.inr (.inr (some (10, a0b, 0)))] μ R := wz_mt9 (L := [some (.inr (.inr (some (10, a0b, 0)))), none, none]) sw_40 rfl h
set_option maxRecDepth 10000 in
set_option maxHeartbeats 400000 in
theorem fc_40_2 (x1 : Int32) (μ : qz_M) (k : wz_K) (R : wz_R) (L : qz_L) (hL : qz_fg [false, true, false] L = [none, some (.inl x1), none])
    (h : (R μ (.inl (some (.inl x1))))) :
    gc_40_2 k R (L, [], μ) := wz_fgd hL h
set_option maxRecDepth 10000 in
set_option maxHeartbeats 400000 in
theorem fb_40_1 (x0b : Nat) (x1 : Int32) (x2 : Int32) (μ : qz_M) (k : wz_K) (R : wz_R) (L : qz_L) (hL : qz_fg [true, true, true] L = [some (.inr (.inr (some (10, x0b, 0)))), some (.inl x1), some (.inl x2)])
    (h : (bif decide ((qz_im μ 11 x0b 0 8) ≤ x2) then (k 0 ([some (.inr (.inr (some (10, x0b, 0)))), some (.inl x1), some (.inl x2)], [], μ)) else (bif pz_out x2 4 then False else (bif (!decide ((qz_im μ 50 x0b x2.toNatClampNeg 2) = 0)) then (k 1 ([some (.inr (.inr (some (10, x0b, 0)))), some (.inl x1), some (.inl (x2 + (1 : Int32)))], [], μ)) else (wz_cI qf_53 [.inr (.inr (some (10, x0b, 0))), .inl x2] μ (fun μ1 v2 => (bif decide (v2 ≤ 0) then (k 1 ([some (.inr (.inr (some (10, x0b, 0)))), some (.inl x1), some (.inl (x2 + (1 : Int32)))], [], μ1)) else (k 1 ([some (.inr (.inr (some (10, x0b, 0)))), some (.inl (x1 + (1 : Int32))), some (.inl (x2 + (1 : Int32)))], [], μ1)))) (fun μ1 e => (R μ1 (.inr e)))))))) :
    gb_40_1 k R (L, [], μ) := wz_fgd hL h
/- X2 townOf -/
/- X2 isDue -/
/- X2 townsOf -/
/- X2 cratesIn -/
/- X2 hoursOf -/
/- X3 swap -/
/- X3 nextRow -/
/- X2 shortestTrip -/
