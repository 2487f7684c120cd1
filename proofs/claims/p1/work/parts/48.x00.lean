/-! with this of kind 200, 1 -/
set_option maxRecDepth 10000 in
theorem fx_290 (sn : Nat) (μ : qz_M) (R : wz_R)
    (h : (wz_loop qb_290_1 65536 (wz_sk gc_290_2 wz_k0 R) R ([some (.inr (.inr (some (200, sn, 0)))), some (.inl (0 : Int32))], [], μ))) :
    wz_call qf_290 [.inr (.inr (some (200, sn, 0)))] μ R := wz_mt9 (L := [some (.inr (.inr (some (200, sn, 0)))), none]) sw_290 rfl h
set_option maxRecDepth 10000 in
theorem fxc_290_2 (x0 : Nat) (μ : qz_M) (k : wz_K) (R : wz_R) (L : qz_L) (hL : qz_fg [true, false] L = [some (.inr (.inr (some (200, x0, 0)))), none])
    (h : (bif Nat.beq (qz_tag μ (200, x0, 0)) 5 && true then (bif Nat.beq (qz_tag μ (200, x0, 0)) 5 && true then (wz_rk (qz_rm μ 200 x0 0 0) (fun r1 => (bif Nat.beq (qz_tag μ r1) 50 then (bif pz_out (100 : Int32) (qz_len μ r1) then False else (wz_wr (qz_wI μ r1 100 (0 : Int32)) (fun μ2 => (bif Nat.beq (qz_tag μ2 (200, x0, 0)) 5 && true then (wz_cV qf_462 [.inr (.inr (some (200, x0, 0)))] μ2 (fun μ3 => (bif Nat.beq (qz_tag μ3 (200, x0, 0)) 5 && true then (bif Nat.beq (qz_tag μ3 (200, x0, 0)) 5 && true then (wz_rk (qz_rm μ3 200 x0 0 0) (fun r4 => (bif Nat.beq (qz_tag μ3 r4) 50 then (bif pz_out (1400 : Int32) (qz_len μ3 r4) then False else (wz_wr (qz_wI μ3 r4 1400 (0 : Int32)) (fun μ5 => (bif Nat.beq (qz_tag μ5 (200, x0, 0)) 5 && true then (wz_rk (qz_rm μ5 200 x0 0 0) (fun r6 => (bif Nat.beq (qz_tag μ5 r6) 50 then (bif pz_out (1401 : Int32) (qz_len μ5 r6) then False else (wz_wr (qz_wI μ5 r6 1401 (0 : Int32)) (fun μ7 => (bif Nat.beq (qz_tag μ7 (200, x0, 0)) 5 && true then (wz_cV qf_509 [.inr (.inr (some (200, x0, 0)))] μ7 (fun μ8 => (bif Nat.beq (qz_tag μ8 (200, x0, 0)) 5 && true then (bif Nat.beq (qz_tag μ8 (200, x0, 0)) 5 && true then (wz_rk (qz_rm μ8 200 x0 0 0) (fun r9 => (bif Nat.beq (qz_tag μ8 r9) 50 then (bif pz_out (3500 : Int32) (qz_len μ8 r9) then False else (wz_wr (qz_wI μ8 r9 3500 (0 : Int32)) (fun μ10 => (bif Nat.beq (qz_tag μ10 (200, x0, 0)) 5 && true then (bif Nat.beq (qz_tag μ10 (200, x0, 0)) 5 && true then (wz_rk (qz_rm μ10 200 x0 0 0) (fun r11 => (bif Nat.beq (qz_tag μ10 r11) 50 then (bif pz_out (3810 : Int32) (qz_len μ10 r11) then False else (wz_wr (qz_wI μ10 r11 3810 (50 : Int32)) (fun μ12 => (bif Nat.beq (qz_tag μ12 (200, x0, 0)) 5 && true then (wz_rk (qz_rm μ12 200 x0 0 0) (fun r13 => (bif Nat.beq (qz_tag μ12 r13) 50 then (bif pz_out (3811 : Int32) (qz_len μ12 r13) then False else (wz_wr (qz_wI μ12 r13 3811 (120 : Int32)) (fun μ14 => (bif Nat.beq (qz_tag μ14 (200, x0, 0)) 5 && true then (wz_rk (qz_rm μ14 200 x0 0 0) (fun r15 => (bif Nat.beq (qz_tag μ14 r15) 50 then (bif pz_out (3812 : Int32) (qz_len μ14 r15) then False else (wz_wr (qz_wI μ14 r15 3812 (400 : Int32)) (fun μ16 => (bif Nat.beq (qz_tag μ16 (200, x0, 0)) 5 && true then (wz_rk (qz_rm μ16 200 x0 0 0) (fun r17 => (bif Nat.beq (qz_tag μ16 r17) 50 then (bif pz_out (3813 : Int32) (qz_len μ16 r17) then False else (wz_wr (qz_wI μ16 r17 3813 (2500 : Int32)) (fun μ18 => (R μ18 (.inl none))))) else False))) else False)))) else False))) else False)))) else False))) else False)))) else False))) else False) else False)))) else False))) else False) else False)) (fun μ8 e => (R μ8 (.inr e)))) else False)))) else False))) else False)))) else False))) else False) else False)) (fun μ3 e => (R μ3 (.inr e)))) else False)))) else False))) else False) else False)) :
    gc_290_2 k R (L, [], μ) := wz_fgd hL h
set_option maxRecDepth 10000 in
theorem fxb_290_1 (x0 : Nat) (x1 : Int32) (μ : qz_M) (k : wz_K) (R : wz_R) (L : qz_L) (hL : qz_fg [true, true] L = [some (.inr (.inr (some (200, x0, 0)))), some (.inl x1)])
    (h : (bif decide ((4400 : Int32) ≤ x1) then (k 0 ([some (.inr (.inr (some (200, x0, 0)))), some (.inl x1)], [], μ)) else (bif Nat.beq (qz_tag μ (200, x0, 0)) 5 && true then (wz_rk (qz_rm μ 200 x0 0 0) (fun r1 => (bif Nat.beq (qz_tag μ r1) 50 then (bif pz_out x1 (qz_len μ r1) then False else (wz_wr (qz_wI μ r1 x1.toNatClampNeg (0 : Int32)) (fun μ2 => (k 1 ([some (.inr (.inr (some (200, x0, 0)))), some (.inl (x1 + (1 : Int32)))], [], μ2))))) else False))) else False))) :
    gb_290_1 k R (L, [], μ) := wz_fgd hL h
set_option maxRecDepth 10000 in
theorem fx_462 (sn : Nat) (μ : qz_M) (R : wz_R)
    (h : (wz_loop qb_462_1 65536 (wz_sk gc_462_2 wz_k0 R) R ([some (.inr (.inr (some (200, sn, 0)))), some (.inl (0 : Int32))], [], μ))) :
    wz_call qf_462 [.inr (.inr (some (200, sn, 0)))] μ R := wz_mt9 (L := [some (.inr (.inr (some (200, sn, 0)))), none]) sw_462 rfl h
set_option maxRecDepth 10000 in
theorem fxc_462_2  (μ : qz_M) (k : wz_K) (R : wz_R) (L : qz_L) (hL : qz_fg [false, false] L = [none, none])
    (h : (R μ (.inl none))) :
    gc_462_2 k R (L, [], μ) := wz_fgd hL h
set_option maxRecDepth 10000 in
theorem fxb_462_1 (x0 : Nat) (x1 : Int32) (μ : qz_M) (k : wz_K) (R : wz_R) (L : qz_L) (hL : qz_fg [true, true] L = [some (.inr (.inr (some (200, x0, 0)))), some (.inl x1)])
    (h : (bif decide ((28 : Int32) ≤ x1) then (k 0 ([some (.inr (.inr (some (200, x0, 0)))), some (.inl x1)], [], μ)) else (bif Nat.beq (qz_tag μ (200, x0, 0)) 5 && true then (wz_rk (qz_rm μ 200 x0 0 0) (fun r1 => (bif Nat.beq (qz_tag μ r1) 50 then (bif pz_out ((1300 : Int32) + x1) (qz_len μ r1) then False else (wz_wr (qz_wI μ r1 ((1300 : Int32) + x1).toNatClampNeg (18 : Int32)) (fun μ2 => (k 1 ([some (.inr (.inr (some (200, x0, 0)))), some (.inl (x1 + (1 : Int32)))], [], μ2))))) else False))) else False))) :
    gb_462_1 k R (L, [], μ) := wz_fgd hL h
set_option maxRecDepth 10000 in
theorem fx_509 (sn : Nat) (μ : qz_M) (R : wz_R)
    (h : (wz_loop qb_509_1 65536 (wz_sk gc_509_2 wz_k0 R) R ([some (.inr (.inr (some (200, sn, 0)))), some (.inl (0 : Int32))], [], μ))) :
    wz_call qf_509 [.inr (.inr (some (200, sn, 0)))] μ R := wz_mt9 (L := [some (.inr (.inr (some (200, sn, 0)))), none]) sw_509 rfl h
set_option maxRecDepth 10000 in
theorem fxc_509_2 (x0 : Nat) (μ : qz_M) (k : wz_K) (R : wz_R) (L : qz_L) (hL : qz_fg [true, false] L = [some (.inr (.inr (some (200, x0, 0)))), none])
    (h : (bif Nat.beq (qz_tag μ (200, x0, 0)) 5 && true then (wz_rk (qz_rm μ 200 x0 0 0) (fun r1 => (bif Nat.beq (qz_tag μ r1) 50 then (bif pz_out (3201 : Int32) (qz_len μ r1) then False else (wz_wr (qz_wI μ r1 3201 (2 : Int32)) (fun μ2 => (R μ2 (.inl none))))) else False))) else False)) :
    gc_509_2 k R (L, [], μ) := wz_fgd hL h
set_option maxRecDepth 10000 in
theorem fxb_509_1 (x0 : Nat) (x1 : Int32) (μ : qz_M) (k : wz_K) (R : wz_R) (L : qz_L) (hL : qz_fg [true, true] L = [some (.inr (.inr (some (200, x0, 0)))), some (.inl x1)])
    (h : (bif decide ((36 : Int32) ≤ x1) then (k 0 ([some (.inr (.inr (some (200, x0, 0)))), some (.inl x1)], [], μ)) else (bif Nat.beq (qz_tag μ (200, x0, 0)) 5 && true then (wz_rk (qz_rm μ 200 x0 0 0) (fun r1 => (bif Nat.beq (qz_tag μ r1) 50 then (bif pz_out ((3210 : Int32) + x1) (qz_len μ r1) then False else (wz_wr (qz_wI μ r1 ((3210 : Int32) + x1).toNatClampNeg (3 : Int32)) (fun μ2 => (k 1 ([some (.inr (.inr (some (200, x0, 0)))), some (.inl (x1 + (1 : Int32)))], [], μ2))))) else False))) else False))) :
    gb_509_1 k R (L, [], μ) := wz_fgd hL h
