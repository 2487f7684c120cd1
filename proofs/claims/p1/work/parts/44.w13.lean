/-! what the methods ask, 14 -/
/- X11 room -/
set_option maxRecDepth 10000 in
set_option maxHeartbeats 400000 in
theorem fw_236 (a1 : Int32) (a2 : Int32) (a3 : Int32) (μ : qz_M) (R : wz_R)
    (h : (wz_cV qf_208 [.inl a1, .inl (1 : Int32), .inl (12 : Int32)] μ (fun μ1 => (wz_cV qf_208 [.inl a2, .inl (0 : Int32), .inl (9 : Int32)] μ1 (fun μ2 => (wz_cV qf_208 [.inl a3, .inl (0 : Int32), .inl (9 : Int32)] μ2 (fun μ3 => (bif decide ((6 : Int32) ≤ (qz_im μ3 11 0 0 2)) then (wz_cV qf_209 [.inl (0 : Int32)] μ3 (fun μ4 => (wz_cI qf_194 [.inr (.inr (some (0, 0, 0))), .inl (4 : Int32), .inl a1, .inl a2, .inl a3, .inl (0 : Int32), .inl (0 : Int32), .inl (0 : Int32)] μ4 (fun μ5 v6 => (R μ5 (.inl (some (.inl v6))))) (fun μ5 e => (R μ5 (.inr e))))) (fun μ4 e => (R μ4 (.inr e)))) else (wz_cV qf_209 [.inl (1 : Int32)] μ3 (fun μ7 => (wz_cI qf_194 [.inr (.inr (some (0, 0, 0))), .inl (4 : Int32), .inl a1, .inl a2, .inl a3, .inl (0 : Int32), .inl (0 : Int32), .inl (0 : Int32)] μ7 (fun μ8 v9 => (R μ8 (.inl (some (.inl v9))))) (fun μ8 e => (R μ8 (.inr e))))) (fun μ7 e => (R μ7 (.inr e)))))) (fun μ3 e => (R μ3 (.inr e))))) (fun μ2 e => (R μ2 (.inr e))))) (fun μ1 e => (R μ1 (.inr e))))) :
    wz_call qf_236 [.inr (.inr (some (0, 0, 0))), .inl a1, .inl a2, .inl a3] μ R := wz_mt9 (L := [some (.inr (.inr (some (0, 0, 0)))), some (.inl a1), some (.inl a2), some (.inl a3)]) sw_236 rfl h
/- X11 round -/
set_option maxRecDepth 10000 in
set_option maxHeartbeats 400000 in
theorem fw_237 (a1 : Int32) (a2 : Int32) (a3 : Int32) (μ : qz_M) (R : wz_R)
    (h : (wz_cV qf_249 [.inl a1, .inl (qz_im μ 11 0 0 9)] μ (fun μ1 => (wz_cV qf_208 [.inl a2, .inl (0 : Int32), .inl (127 : Int32)] μ1 (fun μ2 => (wz_cI qf_129 [.inr (.inr (some (10, 0, 0))), .inl a3] μ2 (fun μ3 v4 => (bif (!decide (v4 = 0)) then (wz_cI qf_194 [.inr (.inr (some (0, 0, 0))), .inl (23 : Int32), .inl a1, .inl a2, .inl a3, .inl (0 : Int32), .inl (0 : Int32), .inl (0 : Int32)] μ3 (fun μ5 v6 => (R μ5 (.inl (some (.inl v6))))) (fun μ5 e => (R μ5 (.inr e)))) else (R (qz_kk μ3 1 6) (.inr 13)))) (fun μ3 e => (R μ3 (.inr e))))) (fun μ2 e => (R μ2 (.inr e))))) (fun μ1 e => (R μ1 (.inr e))))) :
    wz_call qf_237 [.inr (.inr (some (0, 0, 0))), .inl a1, .inl a2, .inl a3] μ R := wz_mt9 (L := [some (.inr (.inr (some (0, 0, 0)))), some (.inl a1), some (.inl a2), some (.inl a3)]) sw_237 rfl h
/- X11 season -/
set_option maxRecDepth 10000 in
set_option maxHeartbeats 400000 in
theorem fw_238 (a1 : Int32) (a2 : Int32) (μ : qz_M) (R : wz_R)
    (h : (wz_cV qf_208 [.inl a1, .inl (0 : Int32), .inl (65535 : Int32)] μ (fun μ1 => (wz_cV qf_208 [.inl a2, .inl (1 : Int32), .inl (12 : Int32)] μ1 (fun μ2 => (bif (!decide ((qz_im μ2 11 0 0 15) = 0)) then (wz_cV qf_209 [.inl (0 : Int32)] μ2 (fun μ3 => (wz_cI qf_194 [.inr (.inr (some (0, 0, 0))), .inl (26 : Int32), .inl a1, .inl a2, .inl (0 : Int32), .inl (0 : Int32), .inl (0 : Int32), .inl (0 : Int32)] μ3 (fun μ4 v5 => (R μ4 (.inl (some (.inl v5))))) (fun μ4 e => (R μ4 (.inr e))))) (fun μ3 e => (R μ3 (.inr e)))) else (wz_cV qf_209 [.inl (1 : Int32)] μ2 (fun μ6 => (wz_cI qf_194 [.inr (.inr (some (0, 0, 0))), .inl (26 : Int32), .inl a1, .inl a2, .inl (0 : Int32), .inl (0 : Int32), .inl (0 : Int32), .inl (0 : Int32)] μ6 (fun μ7 v8 => (R μ7 (.inl (some (.inl v8))))) (fun μ7 e => (R μ7 (.inr e))))) (fun μ6 e => (R μ6 (.inr e)))))) (fun μ2 e => (R μ2 (.inr e))))) (fun μ1 e => (R μ1 (.inr e))))) :
    wz_call qf_238 [.inr (.inr (some (0, 0, 0))), .inl a1, .inl a2] μ R := wz_mt9 (L := [some (.inr (.inr (some (0, 0, 0)))), some (.inl a1), some (.inl a2)]) sw_238 rfl h
/- X11 send -/
set_option maxRecDepth 10000 in
set_option maxHeartbeats 400000 in
theorem fw_239 (a1 : Int32) (a2 : Int32) (μ : qz_M) (R : wz_R)
    (h : (wz_cI qf_55 [.inr (.inr (some (10, 0, 0))), .inl a1, .inl a2] μ (fun μ1 v2 => (bif (!decide (v2 = (1 : Int32))) then (bif (!decide (v2 = (2 : Int32))) then (bif (!decide (v2 = (3 : Int32))) then (wz_cI qf_194 [.inr (.inr (some (0, 0, 0))), .inl (21 : Int32), .inl a1, .inl a2, .inl (0 : Int32), .inl (0 : Int32), .inl (0 : Int32), .inl (0 : Int32)] μ1 (fun μ3 v4 => (R μ3 (.inl (some (.inl v4))))) (fun μ3 e => (R μ3 (.inr e)))) else (R (qz_kk μ1 1 6) (.inr 15))) else (R (qz_kk μ1 1 6) (.inr 13))) else (R (qz_kk μ1 1 6) (.inr 24)))) (fun μ1 e => (R μ1 (.inr e))))) :
    wz_call qf_239 [.inr (.inr (some (0, 0, 0))), .inl a1, .inl a2] μ R := wz_mt9 (L := [some (.inr (.inr (some (0, 0, 0)))), some (.inl a1), some (.inl a2)]) sw_239 rfl h
/- X11 set -/
set_option maxRecDepth 10000 in
set_option maxHeartbeats 400000 in
theorem fw_240 (a1 : Int32) (a2 : Int32) (μ : qz_M) (R : wz_R)
    (h : (wz_cV qf_249 [.inl a1, .inl (qz_im μ 11 0 0 2)] μ (fun μ1 => (wz_cV qf_208 [.inl a2, .inl (0 : Int32), .inl (40 : Int32)] μ1 (fun μ2 => (wz_cI qf_194 [.inr (.inr (some (0, 0, 0))), .inl (5 : Int32), .inl a1, .inl a2, .inl (0 : Int32), .inl (0 : Int32), .inl (0 : Int32), .inl (0 : Int32)] μ2 (fun μ3 v4 => (R μ3 (.inl (some (.inl v4))))) (fun μ3 e => (R μ3 (.inr e))))) (fun μ2 e => (R μ2 (.inr e))))) (fun μ1 e => (R μ1 (.inr e))))) :
    wz_call qf_240 [.inr (.inr (some (0, 0, 0))), .inl a1, .inl a2] μ R := wz_mt9 (L := [some (.inr (.inr (some (0, 0, 0)))), some (.inl a1), some (.inl a2)]) sw_240 rfl h
/- X11 shares -/
set_option maxRecDepth 10000 in
set_option maxHeartbeats 400000 in
theorem fw_241 (a1 : Int32) (a2 : Int32) (a3 : Int32) (a4 : Int32) (a5 : Int32) (μ : qz_M) (R : wz_R)
    (h : (wz_cV qf_208 [.inl a1, .inl (0 : Int32), .inl (999999 : Int32)] μ (fun μ1 => (wz_cV qf_208 [.inl a2, .inl (0 : Int32), .inl (999 : Int32)] μ1 (fun μ2 => (wz_cV qf_208 [.inl a3, .inl (0 : Int32), .inl (999 : Int32)] μ2 (fun μ3 => (wz_cV qf_208 [.inl a4, .inl (0 : Int32), .inl (999 : Int32)] μ3 (fun μ4 => (wz_cV qf_208 [.inl a5, .inl (0 : Int32), .inl (2 : Int32)] μ4 (fun μ5 => (wz_cV qf_208 [.inl ((a2 + a3) + a4), .inl (1 : Int32), .inl (2997 : Int32)] μ5 (fun μ6 => (wz_cV qf_9 [.inl a1, .inl a2, .inl a3, .inl a4, .inr (.inr (some (69, 0, 0)))] μ6 (fun μ7 => (bif pz_out a5 24 then False else (R μ7 (.inl (some (.inl (qz_im μ7 69 0 0 a5.toNatClampNeg))))))) (fun μ7 e => (R μ7 (.inr e))))) (fun μ6 e => (R μ6 (.inr e))))) (fun μ5 e => (R μ5 (.inr e))))) (fun μ4 e => (R μ4 (.inr e))))) (fun μ3 e => (R μ3 (.inr e))))) (fun μ2 e => (R μ2 (.inr e))))) (fun μ1 e => (R μ1 (.inr e))))) :
    wz_call qf_241 [.inr (.inr (some (0, 0, 0))), .inl a1, .inl a2, .inl a3, .inl a4, .inl a5] μ R := wz_mt9 (L := [some (.inr (.inr (some (0, 0, 0)))), some (.inl a1), some (.inl a2), some (.inl a3), some (.inl a4), some (.inl a5)]) sw_241 rfl h
/- X11 sign -/
set_option maxRecDepth 10000 in
set_option maxHeartbeats 400000 in
theorem fw_242 (a1 : Int32) (μ : qz_M) (R : wz_R)
    (h : (wz_cV qf_208 [.inl a1, .inl (32 : Int32), .inl (126 : Int32)] μ (fun μ1 => (bif decide ((120 : Int32) ≤ (qz_im μ1 4 0 0 1)) then (wz_cV qf_209 [.inl (0 : Int32)] μ1 (fun μ2 => (bif pz_out (qz_im μ2 4 0 0 1) 120 then False else (wz_wr (qz_wI μ2 (66, 0, 0) (qz_im μ2 4 0 0 1).toNatClampNeg a1) (fun μ3 => (wz_wr (qz_wI μ3 (4, 0, 0) 1 ((qz_im μ3 4 0 0 1) + (1 : Int32))) (fun μ4 => (R μ4 (.inl (some (.inl (qz_im μ4 4 0 0 1))))))))))) (fun μ2 e => (R μ2 (.inr e)))) else (wz_cV qf_209 [.inl (1 : Int32)] μ1 (fun μ5 => (bif pz_out (qz_im μ5 4 0 0 1) 120 then False else (wz_wr (qz_wI μ5 (66, 0, 0) (qz_im μ5 4 0 0 1).toNatClampNeg a1) (fun μ6 => (wz_wr (qz_wI μ6 (4, 0, 0) 1 ((qz_im μ6 4 0 0 1) + (1 : Int32))) (fun μ7 => (R μ7 (.inl (some (.inl (qz_im μ7 4 0 0 1))))))))))) (fun μ5 e => (R μ5 (.inr e)))))) (fun μ1 e => (R μ1 (.inr e))))) :
    wz_call qf_242 [.inr (.inr (some (0, 0, 0))), .inl a1] μ R := wz_mt9 (L := [some (.inr (.inr (some (0, 0, 0)))), some (.inl a1)]) sw_242 rfl h
/- X11 sort -/
set_option maxRecDepth 10000 in
set_option maxHeartbeats 400000 in
theorem fw_243 (a1 : Int32) (a2 : Int32) (a3 : Int32) (a4 : Int32) (a5 : Int32) (μ : qz_M) (R : wz_R)
    (h : (wz_cV qf_208 [.inl a1, .inl (1 : Int32), .inl (9 : Int32)] μ (fun μ1 => (wz_cV qf_208 [.inl a2, .inl (0 : Int32), .inl (12 : Int32)] μ1 (fun μ2 => (wz_cV qf_208 [.inl a3, .inl (0 : Int32), .inl (12 : Int32)] μ2 (fun μ3 => (wz_cV qf_208 [.inl a4, .inl (100 : Int32), .inl (600 : Int32)] μ3 (fun μ4 => (wz_cV qf_208 [.inl a5, .inl (10 : Int32), .inl (99 : Int32)] μ4 (fun μ5 => (bif decide ((5 : Int32) ≤ (qz_im μ5 11 0 0 0)) then (wz_cV qf_209 [.inl (0 : Int32)] μ5 (fun μ6 => (wz_cI qf_194 [.inr (.inr (some (0, 0, 0))), .inl (0 : Int32), .inl a1, .inl a2, .inl a3, .inl a4, .inl a5, .inl (0 : Int32)] μ6 (fun μ7 v8 => (R μ7 (.inl (some (.inl v8))))) (fun μ7 e => (R μ7 (.inr e))))) (fun μ6 e => (R μ6 (.inr e)))) else (wz_cV qf_209 [.inl (1 : Int32)] μ5 (fun μ9 => (wz_cI qf_194 [.inr (.inr (some (0, 0, 0))), .inl (0 : Int32), .inl a1, .inl a2, .inl a3, .inl a4, .inl a5, .inl (0 : Int32)] μ9 (fun μ10 v11 => (R μ10 (.inl (some (.inl v11))))) (fun μ10 e => (R μ10 (.inr e))))) (fun μ9 e => (R μ9 (.inr e)))))) (fun μ5 e => (R μ5 (.inr e))))) (fun μ4 e => (R μ4 (.inr e))))) (fun μ3 e => (R μ3 (.inr e))))) (fun μ2 e => (R μ2 (.inr e))))) (fun μ1 e => (R μ1 (.inr e))))) :
    wz_call qf_243 [.inr (.inr (some (0, 0, 0))), .inl a1, .inl a2, .inl a3, .inl a4, .inl a5] μ R := wz_mt9 (L := [some (.inr (.inr (some (0, 0, 0)))), some (.inl a1), some (.inl a2), some (.inl a3), some (.inl a4), some (.inl a5)]) sw_243 rfl h
/- X11 sum -/
set_option maxRecDepth 10000 in
set_option maxHeartbeats 400000 in
theorem fw_244 (a1 : Int32) (μ : qz_M) (R : wz_R)
    (h : (wz_cV qf_208 [.inl a1, .inl (0 : Int32), .inl (23 : Int32)] μ (fun μ1 => (bif decide (a1.toInt < (21 : Int)) || decide ((23 : Int) < a1.toInt) then (wz_cI qf_124 [.inr (.inr (some (10, 0, 0))), .inl a1] μ1 (fun μ2 v3 => (R μ2 (.inl (some (.inl v3))))) (fun μ2 e => (R μ2 (.inr e)))) else (bif decide (a1.toInt = (21 : Int)) then (R μ1 (.inl (some (.inl (qz_im μ1 11 0 0 15))))) else (bif decide (a1.toInt = (22 : Int)) then (R μ1 (.inl (some (.inl (qz_im μ1 3 0 0 8))))) else (bif decide (a1.toInt = (23 : Int)) then (R μ1 (.inl (some (.inl (qz_im μ1 4 0 0 1))))) else (wz_cI qf_124 [.inr (.inr (some (10, 0, 0))), .inl a1] μ1 (fun μ2 v3 => (R μ2 (.inl (some (.inl v3))))) (fun μ2 e => (R μ2 (.inr e))))))))) (fun μ1 e => (R μ1 (.inr e))))) :
    wz_call qf_244 [.inr (.inr (some (0, 0, 0))), .inl a1] μ R := wz_mt9 (L := [some (.inr (.inr (some (0, 0, 0)))), some (.inl a1)]) sw_244 rfl h
/- X11 taker -/
set_option maxRecDepth 10000 in
set_option maxHeartbeats 400000 in
theorem fw_245 (a1 : Int32) (a2 : Int32) (μ : qz_M) (R : wz_R)
    (h : (wz_cV qf_249 [.inl a1, .inl (qz_im μ 11 0 0 3)] μ (fun μ1 => (wz_cV qf_208 [.inl a2, .inl (1 : Int32), .inl (9999 : Int32)] μ1 (fun μ2 => (bif pz_out a1 48 then False else (wz_cI qf_34 [.inr (.inr (some (10, 0, 0))), .inr (.inr (some (44, 0, a1.toNatClampNeg))), .inl a2] μ2 (fun μ3 v4 => (R μ3 (.inl (some (.inl v4))))) (fun μ3 e => (R μ3 (.inr e)))))) (fun μ2 e => (R μ2 (.inr e))))) (fun μ1 e => (R μ1 (.inr e))))) :
    wz_call qf_245 [.inr (.inr (some (0, 0, 0))), .inl a1, .inl a2] μ R := wz_mt9 (L := [some (.inr (.inr (some (0, 0, 0)))), some (.inl a1), some (.inl a2)]) sw_245 rfl h
/- X11 takings -/
set_option maxRecDepth 10000 in
set_option maxHeartbeats 400000 in
theorem fw_246 (a1 : Int32) (a2 : Int32) (a3 : Int32) (μ : qz_M) (R : wz_R)
    (h : (wz_cV qf_249 [.inl a1, .inl (qz_im μ 11 0 0 7)] μ (fun μ1 => (wz_cV qf_208 [.inl a2, .inl (1 : Int32), .inl (12 : Int32)] μ1 (fun μ2 => (wz_cV qf_208 [.inl a3, .inl (0 : Int32), .inl (4 : Int32)] μ2 (fun μ3 => (wz_cI qf_77 [.inr (.inr (some (10, 0, 0))), .inr (.inr (some (10, (12 + 0), 0))), .inl a1, .inl a2, .inl a3] μ3 (fun μ4 v5 => (R μ4 (.inl (some (.inl v5))))) (fun μ4 e => (R μ4 (.inr e))))) (fun μ3 e => (R μ3 (.inr e))))) (fun μ2 e => (R μ2 (.inr e))))) (fun μ1 e => (R μ1 (.inr e))))) :
    wz_call qf_246 [.inr (.inr (some (0, 0, 0))), .inl a1, .inl a2, .inl a3] μ R := wz_mt9 (L := [some (.inr (.inr (some (0, 0, 0)))), some (.inl a1), some (.inl a2), some (.inl a3)]) sw_246 rfl h
/- X11 tariff -/
set_option maxRecDepth 10000 in
set_option maxHeartbeats 400000 in
theorem fw_247 (a1 : Int32) (a2 : Int32) (μ : qz_M) (R : wz_R)
    (h : (wz_cV qf_208 [.inl a1, .inl (0 : Int32), .inl (3 : Int32)] μ (fun μ1 => (wz_cV qf_208 [.inl a2, .inl (0 : Int32), .inl (99999 : Int32)] μ1 (fun μ2 => (wz_cI qf_194 [.inr (.inr (some (0, 0, 0))), .inl (24 : Int32), .inl a1, .inl a2, .inl (0 : Int32), .inl (0 : Int32), .inl (0 : Int32), .inl (0 : Int32)] μ2 (fun μ3 v4 => (R μ3 (.inl (some (.inl v4))))) (fun μ3 e => (R μ3 (.inr e))))) (fun μ2 e => (R μ2 (.inr e))))) (fun μ1 e => (R μ1 (.inr e))))) :
    wz_call qf_247 [.inr (.inr (some (0, 0, 0))), .inl a1, .inl a2] μ R := wz_mt9 (L := [some (.inr (.inr (some (0, 0, 0)))), some (.inl a1), some (.inl a2)]) sw_247 rfl h
/- X11 tasks -/
set_option maxRecDepth 10000 in
set_option maxHeartbeats 400000 in
theorem fw_248  (μ : qz_M) (R : wz_R)
    (h : (wz_cI qf_151 [.inr (.inr (some (4, 0, 0))), .inr (.inr (some (68, 0, 0)))] μ (fun μ1 v2 => (bif (!decide (v2 = 0)) then (wz_wr (qz_wI μ1 (4, 0, 0) 1 (0 : Int32)) (fun μ3 => (R μ3 (.inl (some (.inl v2)))))) else (wz_cI qf_196 [.inr (.inr (some (0, 0, 0)))] μ1 (fun μ4 v5 => (wz_wr (qz_wI μ4 (4, 0, 0) 1 (0 : Int32)) (fun μ6 => (R μ6 (.inl (some (.inl v5))))))) (fun μ4 e => (R μ4 (.inr e)))))) (fun μ1 e => (R μ1 (.inr e))))) :
    wz_call qf_248 [.inr (.inr (some (0, 0, 0)))] μ R := wz_mt9 (L := [some (.inr (.inr (some (0, 0, 0)))), none]) sw_248 rfl h
/- X11 trip -/
set_option maxRecDepth 10000 in
set_option maxHeartbeats 400000 in
theorem fw_250 (a1 : Int32) (a2 : Int32) (μ : qz_M) (R : wz_R)
    (h : (wz_cV qf_249 [.inl a1, .inl (qz_im μ 11 0 0 8)] μ (fun μ1 => (wz_cV qf_208 [.inl a2, .inl (0 : Int32), .inl (4 : Int32)] μ1 (fun μ2 => (bif pz_out a1 4 then False else (bif (!decide ((qz_im μ2 50 0 a1.toNatClampNeg 2) = (1 : Int32))) then (wz_cI qf_59 [.inr (.inr (some (10, 0, 0))), .inl a1] μ2 (fun μ3 v4 => (wz_cI qf_56 [.inr (.inr (some (10, 0, 0))), .inl v4, .inr (.inr (some (69, 0, 0)))] μ3 (fun μ5 v6 => (bif pz_out a2 24 then False else (R μ5 (.inl (some (.inl (qz_im μ5 69 0 0 a2.toNatClampNeg))))))) (fun μ5 e => (R μ5 (.inr e))))) (fun μ3 e => (R μ3 (.inr e)))) else (bif pz_out a1 4 then False else (bif pz_out ((12 : Int32) + a2) 22 then False else (R μ2 (.inl (some (.inl (qz_im μ2 50 0 a1.toNatClampNeg ((12 : Int32) + a2).toNatClampNeg)))))))))) (fun μ2 e => (R μ2 (.inr e))))) (fun μ1 e => (R μ1 (.inr e))))) :
    wz_call qf_250 [.inr (.inr (some (0, 0, 0))), .inl a1, .inl a2] μ R := wz_mt9 (L := [some (.inr (.inr (some (0, 0, 0)))), some (.inl a1), some (.inl a2)]) sw_250 rfl h
/- X11 truck -/
set_option maxRecDepth 10000 in
set_option maxHeartbeats 400000 in
theorem fw_251 (a1 : Int32) (a2 : Int32) (μ : qz_M) (R : wz_R)
    (h : (wz_cV qf_208 [.inl a1, .inl (10 : Int32), .inl (99 : Int32)] μ (fun μ1 => (wz_cV qf_208 [.inl a2, .inl (0 : Int32), .inl (40 : Int32)] μ1 (fun μ2 => (bif decide ((4 : Int32) ≤ (qz_im μ2 11 0 0 8)) then (wz_cV qf_209 [.inl (0 : Int32)] μ2 (fun μ3 => (wz_cI qf_194 [.inr (.inr (some (0, 0, 0))), .inl (19 : Int32), .inl a1, .inl a2, .inl (0 : Int32), .inl (0 : Int32), .inl (0 : Int32), .inl (0 : Int32)] μ3 (fun μ4 v5 => (R μ4 (.inl (some (.inl v5))))) (fun μ4 e => (R μ4 (.inr e))))) (fun μ3 e => (R μ3 (.inr e)))) else (wz_cV qf_209 [.inl (1 : Int32)] μ2 (fun μ6 => (wz_cI qf_194 [.inr (.inr (some (0, 0, 0))), .inl (19 : Int32), .inl a1, .inl a2, .inl (0 : Int32), .inl (0 : Int32), .inl (0 : Int32), .inl (0 : Int32)] μ6 (fun μ7 v8 => (R μ7 (.inl (some (.inl v8))))) (fun μ7 e => (R μ7 (.inr e))))) (fun μ6 e => (R μ6 (.inr e)))))) (fun μ2 e => (R μ2 (.inr e))))) (fun μ1 e => (R μ1 (.inr e))))) :
    wz_call qf_251 [.inr (.inr (some (0, 0, 0))), .inl a1, .inl a2] μ R := wz_mt9 (L := [some (.inr (.inr (some (0, 0, 0)))), some (.inl a1), some (.inl a2)]) sw_251 rfl h
/- X11 undo -/
set_option maxRecDepth 10000 in
set_option maxHeartbeats 400000 in
theorem fw_252  (μ : qz_M) (R : wz_R)
    (h : (bif decide ((qz_im μ 3 0 0 8) ≤ 0) then (wz_cV qf_209 [.inl (0 : Int32)] μ (fun μ1 => (bif pz_out (qz_im μ1 3 0 0 7) 8 then False else (wz_cV qf_111 [.inr (.inr (some (10, 0, 0))), .inr (.inr (some (10, (2 + (qz_im μ1 3 0 0 7).toNatClampNeg), 0)))] μ1 (fun μ2 => (wz_wr (qz_wI μ2 (3, 0, 0) 7 ((((qz_im μ2 3 0 0 7) + (8 : Int32)) - (1 : Int32)) - (((qz_im μ2 3 0 0 7) + (8 : Int32)) - (1 : Int32)) / (8 : Int32) * (8 : Int32))) (fun μ3 => (wz_wr (qz_wI μ3 (3, 0, 0) 8 ((qz_im μ3 3 0 0 8) - (1 : Int32))) (fun μ4 => (R μ4 (.inl (some (.inl (qz_im μ4 3 0 0 8)))))))))) (fun μ2 e => (R μ2 (.inr e)))))) (fun μ1 e => (R μ1 (.inr e)))) else (wz_cV qf_209 [.inl (1 : Int32)] μ (fun μ5 => (bif pz_out (qz_im μ5 3 0 0 7) 8 then False else (wz_cV qf_111 [.inr (.inr (some (10, 0, 0))), .inr (.inr (some (10, (2 + (qz_im μ5 3 0 0 7).toNatClampNeg), 0)))] μ5 (fun μ6 => (wz_wr (qz_wI μ6 (3, 0, 0) 7 ((((qz_im μ6 3 0 0 7) + (8 : Int32)) - (1 : Int32)) - (((qz_im μ6 3 0 0 7) + (8 : Int32)) - (1 : Int32)) / (8 : Int32) * (8 : Int32))) (fun μ7 => (wz_wr (qz_wI μ7 (3, 0, 0) 8 ((qz_im μ7 3 0 0 8) - (1 : Int32))) (fun μ8 => (R μ8 (.inl (some (.inl (qz_im μ8 3 0 0 8)))))))))) (fun μ6 e => (R μ6 (.inr e)))))) (fun μ5 e => (R μ5 (.inr e)))))) :
    wz_call qf_252 [.inr (.inr (some (0, 0, 0)))] μ R := wz_mt9 (L := [some (.inr (.inr (some (0, 0, 0))))]) sw_252 rfl h
/- X11 way -/
set_option maxRecDepth 10000 in
set_option maxHeartbeats 400000 in
theorem fw_253 (a1 : Int32) (a2 : Int32) (a3 : Int32) (μ : qz_M) (R : wz_R)
    (h : (wz_cV qf_249 [.inl a1, .inl (6 : Int32)] μ (fun μ1 => (wz_cV qf_249 [.inl a2, .inl (6 : Int32)] μ1 (fun μ2 => (bif (!decide (a1 = a2)) then (wz_cV qf_208 [.inl a3, .inl (1 : Int32), .inl (12 : Int32)] μ2 (fun μ3 => (wz_cI qf_194 [.inr (.inr (some (0, 0, 0))), .inl (17 : Int32), .inl a1, .inl a2, .inl a3, .inl (0 : Int32), .inl (0 : Int32), .inl (0 : Int32)] μ3 (fun μ4 v5 => (R μ4 (.inl (some (.inl v5))))) (fun μ4 e => (R μ4 (.inr e))))) (fun μ3 e => (R μ3 (.inr e)))) else (R (qz_kk μ2 1 6) (.inr 13)))) (fun μ2 e => (R μ2 (.inr e))))) (fun μ1 e => (R μ1 (.inr e))))) :
    wz_call qf_253 [.inr (.inr (some (0, 0, 0))), .inl a1, .inl a2, .inl a3] μ R := wz_mt9 (L := [some (.inr (.inr (some (0, 0, 0)))), some (.inl a1), some (.inl a2), some (.inl a3)]) sw_253 rfl h
/- X11 withdraw -/
set_option maxRecDepth 10000 in
set_option maxHeartbeats 400000 in
theorem fw_254 (a1 : Int32) (μ : qz_M) (R : wz_R)
    (h : (bif decide (a1 < 0) then (R (qz_kk μ 1 6) (.inr 24)) else (bif decide (a1 < (qz_im μ 11 0 0 3)) then (bif pz_out a1 48 then False else (bif (!decide ((qz_im μ 44 0 a1.toNatClampNeg 10) = (1 : Int32))) then (R (qz_kk μ 1 6) (.inr 15)) else (wz_cI qf_194 [.inr (.inr (some (0, 0, 0))), .inl (16 : Int32), .inl a1, .inl (0 : Int32), .inl (0 : Int32), .inl (0 : Int32), .inl (0 : Int32), .inl (0 : Int32)] μ (fun μ1 v2 => (R μ1 (.inl (some (.inl v2))))) (fun μ1 e => (R μ1 (.inr e)))))) else (R (qz_kk μ 1 6) (.inr 24))))) :
    wz_call qf_254 [.inr (.inr (some (0, 0, 0))), .inl a1] μ R := wz_mt9 (L := [some (.inr (.inr (some (0, 0, 0)))), some (.inl a1)]) sw_254 rfl h
/- X11 worst -/
set_option maxRecDepth 10000 in
set_option maxHeartbeats 400000 in
theorem fw_255 (a1 : Int32) (a2 : Int32) (μ : qz_M) (R : wz_R)
    (h : (wz_cV qf_249 [.inl a1, .inl (qz_im μ 11 0 0 9)] μ (fun μ1 => (wz_cV qf_208 [.inl a2, .inl (0 : Int32), .inl (1 : Int32)] μ1 (fun μ2 => (wz_cV qf_138 [.inr (.inr (some (10, 0, 0))), .inl a1, .inr (.inr (some (67, 0, 0))), .inr (.inr (some (69, 0, 0)))] μ2 (fun μ3 => (bif pz_out a2 24 then False else (R μ3 (.inl (some (.inl (qz_im μ3 69 0 0 a2.toNatClampNeg))))))) (fun μ3 e => (R μ3 (.inr e))))) (fun μ2 e => (R μ2 (.inr e))))) (fun μ1 e => (R μ1 (.inr e))))) :
    wz_call qf_255 [.inr (.inr (some (0, 0, 0))), .inl a1, .inl a2] μ R := wz_mt9 (L := [some (.inr (.inr (some (0, 0, 0)))), some (.inl a1), some (.inl a2)]) sw_255 rfl h
/- X12 in -/
/- X12 fails -/
/- X12 account -/
set_option maxRecDepth 10000 in
set_option maxHeartbeats 400000 in
theorem fw_256 (a1 : Int32) (μ : qz_M) (R : wz_R)
    (h : (bif decide (a1 < (0 : Int32)) then (wz_wr (qz_wI μ (1, 0, 0) 2 (1 : Int32)) (fun μ1 => (R μ1 (.inl (some (.inl (0 : Int32))))))) else (bif decide ((9 : Int32) < a1) then (wz_wr (qz_wI μ (1, 0, 0) 2 (1 : Int32)) (fun μ2 => (R μ2 (.inl (some (.inl (0 : Int32))))))) else (wz_wr (qz_wI μ (1, 0, 0) 2 (0 : Int32)) (fun μ3 => (bif pz_out ((3800 : Int32) + a1) 4400 then False else (R μ3 (.inl (some (.inl (qz_im μ3 2 0 0 ((3800 : Int32) + a1).toNatClampNeg))))))))))) :
    wz_call qf_256 [.inr (.inr (some (1, 0, 0))), .inl a1] μ R := wz_mt9 (L := [some (.inr (.inr (some (1, 0, 0)))), some (.inl a1)]) sw_256 rfl h
/- X12 xRow -/
set_option maxRecDepth 10000 in
set_option maxHeartbeats 400000 in
theorem fw_565 (a0 : qz_R) (a1 : Int32) (a2 : Int32) (μ : qz_M) (R : wz_R)
    (h : (bif decide (a2 < 0) || Nat.blt 1000000 a2.toNatClampNeg then False else (wz_wr (qz_al μ 50 1 a2.toNatClampNeg 1 a2.toNatClampNeg) (fun μ1 => (wz_loop qb_565_1 65536 (wz_sk gc_565_2 wz_k0 R) R ([some (.inr (.inr (some a0))), some (.inl a1), some (.inl a2), some (.inr (.inr (some (200, (qz_na μ), 0)))), some (.inl (0 : Int32))], [], μ1)))))) :
    wz_call qf_565 [.inr (.inr (some a0)), .inl a1, .inl a2] μ R := wz_mt9 (L := [some (.inr (.inr (some a0))), some (.inl a1), some (.inl a2), none, none]) sw_565 rfl h
set_option maxRecDepth 10000 in
set_option maxHeartbeats 400000 in
theorem fc_565_2 (x3 : Nat) (μ : qz_M) (k : wz_K) (R : wz_R) (L : qz_L) (hL : qz_fg [false, false, false, true, false] L = [none, none, none, some (.inr (.inr (some (200, x3, 0)))), none])
    (h : (R μ (.inl (some (.inr (.inr (some (200, x3, 0)))))))) :
    gc_565_2 k R (L, [], μ) := wz_fgd hL h
set_option maxRecDepth 10000 in
set_option maxHeartbeats 400000 in
theorem fb_565_1 (x0 : qz_R) (x1 : Int32) (x3 : Nat) (x4 : Int32) (μ : qz_M) (k : wz_K) (R : wz_R) (L : qz_L) (hL : qz_fg [true, true, false, true, true] L = [some (.inr (.inr (some x0))), some (.inl x1), none, some (.inr (.inr (some (200, x3, 0)))), some (.inl x4)])
    (h : (bif decide (x1 ≤ x4) then (k 0 ([some (.inr (.inr (some x0))), some (.inl x1), none, some (.inr (.inr (some (200, x3, 0)))), some (.inl x4)], [], μ)) else (bif Nat.beq (qz_tag μ x0) 50 && true then (bif pz_out x4 (qz_len μ x0) then False else (bif Nat.beq (qz_tag μ (200, x3, 0)) 50 then (bif pz_out x4 (qz_len μ (200, x3, 0)) then False else (wz_wr (qz_wI μ (200, x3, 0) x4.toNatClampNeg (qz_im μ x0.1 x0.2.1 x0.2.2 x4.toNatClampNeg)) (fun μ1 => (k 1 ([some (.inr (.inr (some x0))), some (.inl x1), none, some (.inr (.inr (some (200, x3, 0)))), some (.inl (x4 + (1 : Int32)))], [], μ1))))) else False)) else False))) :
    gb_565_1 k R (L, [], μ) := wz_fgd hL h
/- X12 again -/
set_option maxRecDepth 10000 in
set_option maxHeartbeats 400000 in
theorem fw_257 (a1 : Int32) (μ : qz_M) (R : wz_R)
    (h : (bif decide (a1 < (0 : Int32)) then (wz_wr (qz_wI μ (1, 0, 0) 2 (1 : Int32)) (fun μ1 => (R μ1 (.inl (some (.inl (0 : Int32))))))) else (bif decide ((1 : Int32) < a1) then (wz_wr (qz_wI μ (1, 0, 0) 2 (1 : Int32)) (fun μ2 => (R μ2 (.inl (some (.inl (0 : Int32))))))) else (wz_wr (qz_wI μ (1, 0, 0) 2 (0 : Int32)) (fun μ3 => (bif pz_out a1 2 then False else (bif (!decide ((qz_im μ3 111 0 0 a1.toNatClampNeg) = (1 : Int32))) then (wz_wr (qz_wI μ3 (1, 0, 0) 2 (2 : Int32)) (fun μ4 => (R μ4 (.inl (some (.inl (0 : Int32))))))) else (wz_wr (qz_wI μ3 (1, 0, 0) 2 (0 : Int32)) (fun μ5 => (wz_loop qb_257_1 65536 (wz_sk gc_257_2 wz_k0 R) R ([some (.inr (.inr (some (1, 0, 0)))), some (.inl a1), some (.inl (0 : Int32))], [], μ5))))))))))) :
    wz_call qf_257 [.inr (.inr (some (1, 0, 0))), .inl a1] μ R := wz_mt9 (L := [some (.inr (.inr (some (1, 0, 0)))), some (.inl a1), none]) sw_257 rfl h
/- X12 areParts -/
set_option maxRecDepth 10000 in
set_option maxHeartbeats 400000 in
theorem fw_258 (a1 : Int32) (μ : qz_M) (R : wz_R)
    (h : (bif decide ((10 : Int32) < (qz_im μ 1 0 0 28)) then (wz_loop qb_258_1 65536 (wz_sk gc_258_2 wz_k0 R) R ([some (.inr (.inr (some (1, 0, 0)))), some (.inl a1), some (.inl (0 : Int32)), some (.inl (0 : Int32))], [], μ)) else (wz_loop qb_258_1 65536 (wz_sk gc_258_2 wz_k0 R) R ([some (.inr (.inr (some (1, 0, 0)))), some (.inl a1), some (.inl (1 : Int32)), some (.inl (0 : Int32))], [], μ)))) :
    wz_call qf_258 [.inr (.inr (some (1, 0, 0))), .inl a1] μ R := wz_mt9 (L := [some (.inr (.inr (some (1, 0, 0)))), some (.inl a1), none, none]) sw_258 rfl h
set_option maxRecDepth 10000 in
set_option maxHeartbeats 400000 in
theorem fc_258_2 (x2 : Int32) (μ : qz_M) (k : wz_K) (R : wz_R) (L : qz_L) (hL : qz_fg [false, false, true, false] L = [none, none, some (.inl x2), none])
    (h : (bif decide (x2 = 0) || decide (x2 = 1) then (R μ (.inl (some (.inl x2)))) else False)) :
    gc_258_2 k R (L, [], μ) := wz_fgd hL h
set_option maxRecDepth 10000 in
set_option maxHeartbeats 400000 in
theorem fb_258_1 (x1 : Int32) (x2 : Int32) (x3 : Int32) (μ : qz_M) (k : wz_K) (R : wz_R) (L : qz_L) (hL : qz_fg [true, true, true, true] L = [some (.inr (.inr (some (1, 0, 0)))), some (.inl x1), some (.inl x2), some (.inl x3)])
    (h : (bif decide ((qz_im μ 1 0 0 28) ≤ x3) then (k 0 ([some (.inr (.inr (some (1, 0, 0)))), some (.inl x1), some (.inl x2), some (.inl x3)], [], μ)) else (bif decide (x2 = 0) then (k 1 ([some (.inr (.inr (some (1, 0, 0)))), some (.inl x1), some (.inl (0 : Int32)), some (.inl (x3 + (1 : Int32)))], [], μ)) else (bif pz_out x3 60 then False else (bif decide (x1 < (qz_im μ 98 0 0 x3.toNatClampNeg)) then (k 1 ([some (.inr (.inr (some (1, 0, 0)))), some (.inl x1), some (.inl (0 : Int32)), some (.inl (x3 + (1 : Int32)))], [], μ)) else (k 1 ([some (.inr (.inr (some (1, 0, 0)))), some (.inl x1), some (.inl (1 : Int32)), some (.inl (x3 + (1 : Int32)))], [], μ))))))) :
    gb_258_1 k R (L, [], μ) := wz_fgd hL h
/- X12 oAt -/
/- X12 bBuyer -/
/- X12 bAt -/
/- X12 weekday -/
/- X12 bIsToday -/
/- X12 bAsks -/
/- X12 bAsking -/
set_option maxRecDepth 10000 in
set_option maxHeartbeats 400000 in
theorem fw_259  (μ : qz_M) (R : wz_R)
    (h : (wz_loop qb_259_1 65536 (wz_sk gc_259_2 wz_k0 R) R ([some (.inr (.inr (some (1, 0, 0)))), some (.inl (0 : Int32)), some (.inl (0 : Int32))], [], μ))) :
    wz_call qf_259 [.inr (.inr (some (1, 0, 0)))] μ R := wz_mt9 (L := [some (.inr (.inr (some (1, 0, 0)))), none, none]) sw_259 rfl h
set_option maxRecDepth 10000 in
set_option maxHeartbeats 400000 in
theorem fc_259_2 (x1 : Int32) (μ : qz_M) (k : wz_K) (R : wz_R) (L : qz_L) (hL : qz_fg [false, true, false] L = [none, some (.inl x1), none])
    (h : (R μ (.inl (some (.inl x1))))) :
    gc_259_2 k R (L, [], μ) := wz_fgd hL h
set_option maxRecDepth 10000 in
set_option maxHeartbeats 400000 in
theorem fb_259_1 (x1 : Int32) (x2 : Int32) (μ : qz_M) (k : wz_K) (R : wz_R) (L : qz_L) (hL : qz_fg [true, true, true] L = [some (.inr (.inr (some (1, 0, 0)))), some (.inl x1), some (.inl x2)])
    (h : (bif decide ((qz_im μ 2 0 0 1401) ≤ x2) then (k 0 ([some (.inr (.inr (some (1, 0, 0)))), some (.inl x1), some (.inl x2)], [], μ)) else (wz_cI qf_260 [.inr (.inr (some (1, 0, 0))), .inl x2] μ (fun μ1 v2 => (bif decide (v2 = 0) then (k 1 ([some (.inr (.inr (some (1, 0, 0)))), some (.inl (x1 + (0 : Int32))), some (.inl (x2 + (1 : Int32)))], [], μ1)) else (k 1 ([some (.inr (.inr (some (1, 0, 0)))), some (.inl (x1 + (1 : Int32))), some (.inl (x2 + (1 : Int32)))], [], μ1)))) (fun μ1 e => (R μ1 (.inr e)))))) :
    gb_259_1 k R (L, [], μ) := wz_fgd hL h
/- X12 bBegin -/
/- X12 qAt -/
/- X12 gross -/
/- X12 uAt -/
/- X12 bUnpaid -/
/- X12 bLeft -/
/- X12 bBuyerSound -/
/- X12 bFirstDue -/
/- X12 bPays -/
/- X12 bClose -/
set_option maxRecDepth 10000 in
set_option maxHeartbeats 400000 in
theorem fw_265 (a1 : Int32) (μ : qz_M) (R : wz_R)
    (h : (wz_loop qb_265_1 65536 (wz_sk gc_265_4 wz_k0 R) R ([some (.inr (.inr (some (1, 0, 0)))), some (.inl a1), some (.inl (0 : Int32))], [], μ))) :
    wz_call qf_265 [.inr (.inr (some (1, 0, 0))), .inl a1] μ R := wz_mt9 (L := [some (.inr (.inr (some (1, 0, 0)))), some (.inl a1), none]) sw_265 rfl h
set_option maxRecDepth 10000 in
set_option maxHeartbeats 400000 in
theorem fc_265_4  (μ : qz_M) (k : wz_K) (R : wz_R) (L : qz_L) (hL : qz_fg [true, false, false] L = [some (.inr (.inr (some (1, 0, 0)))), none, none])
    (h : (wz_loop qb_265_2 65536 (wz_sk gc_265_3 k R) R ([some (.inr (.inr (some (1, 0, 0)))), none, some (.inl (0 : Int32))], [], μ))) :
    gc_265_4 k R (L, [], μ) := wz_fgd hL h
set_option maxRecDepth 10000 in
set_option maxHeartbeats 400000 in
theorem fb_265_1 (x1 : Int32) (x2 : Int32) (μ : qz_M) (k : wz_K) (R : wz_R) (L : qz_L) (hL : qz_fg [true, true, true] L = [some (.inr (.inr (some (1, 0, 0)))), some (.inl x1), some (.inl x2)])
    (h : (bif decide ((qz_im μ 2 0 0 1400) ≤ x2) then (k 0 ([some (.inr (.inr (some (1, 0, 0)))), some (.inl x1), some (.inl x2)], [], μ)) else (wz_cV qf_281 [.inr (.inr (some (1, 0, 0))), .inl x2, .inl x1] μ (fun μ1 => (k 1 ([some (.inr (.inr (some (1, 0, 0)))), some (.inl x1), some (.inl (x2 + (1 : Int32)))], [], μ1))) (fun μ1 e => (R μ1 (.inr e)))))) :
    gb_265_1 k R (L, [], μ) := wz_fgd hL h
set_option maxRecDepth 10000 in
set_option maxHeartbeats 400000 in
theorem fc_265_3  (μ : qz_M) (k : wz_K) (R : wz_R) (L : qz_L) (hL : qz_fg [false, false, false] L = [none, none, none])
    (h : (R μ (.inl none))) :
    gc_265_3 k R (L, [], μ) := wz_fgd hL h
set_option maxRecDepth 10000 in
set_option maxHeartbeats 400000 in
theorem fb_265_2 (x2 : Int32) (μ : qz_M) (k : wz_K) (R : wz_R) (L : qz_L) (hL : qz_fg [true, false, true] L = [some (.inr (.inr (some (1, 0, 0)))), none, some (.inl x2)])
    (h : (bif decide ((qz_im μ 2 0 0 1401) ≤ x2) then (k 0 ([some (.inr (.inr (some (1, 0, 0)))), none, some (.inl x2)], [], μ)) else (bif pz_out (((1510 : Int32) + ((12 : Int32) * x2)) + (7 : Int32)) 4400 then False else (bif (!decide ((qz_im μ 2 0 0 (((1510 : Int32) + ((12 : Int32) * x2)) + (7 : Int32)).toNatClampNeg) = 0)) then (k 1 ([some (.inr (.inr (some (1, 0, 0)))), none, some (.inl (x2 + (1 : Int32)))], [], μ)) else (bif pz_out (((1510 : Int32) + ((12 : Int32) * x2)) + (5 : Int32)) 4400 then False else (bif (!decide ((((qz_im μ 2 0 0 (((1510 : Int32) + ((12 : Int32) * x2)) + (5 : Int32)).toNatClampNeg) >>> ((((qz_im μ 2 0 0 0) / (24 : Int32)) - ((qz_im μ 2 0 0 0) / (24 : Int32)) / (7 : Int32) * (7 : Int32)) &&& 31)) &&& (1 : Int32)) = (1 : Int32))) then (k 1 ([some (.inr (.inr (some (1, 0, 0)))), none, some (.inl (x2 + (1 : Int32)))], [], μ)) else (bif pz_out (((1510 : Int32) + ((12 : Int32) * x2)) + (3 : Int32)) 4400 then False else (bif pz_out (((1510 : Int32) + ((12 : Int32) * x2)) + (6 : Int32)) 4400 then False else (wz_wr (qz_wI μ (2, 0, 0) (((1510 : Int32) + ((12 : Int32) * x2)) + (6 : Int32)).toNatClampNeg (qz_im μ 2 0 0 (((1510 : Int32) + ((12 : Int32) * x2)) + (3 : Int32)).toNatClampNeg)) (fun μ1 => (k 1 ([some (.inr (.inr (some (1, 0, 0)))), none, some (.inl (x2 + (1 : Int32)))], [], μ1)))))))))))) :
    gb_265_2 k R (L, [], μ) := wz_fgd hL h
/- X12 bCome -/
/- X12 bCrates -/
