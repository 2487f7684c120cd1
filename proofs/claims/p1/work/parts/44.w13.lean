/-! what the methods ask, 14 -/
/- X11 room -/
set_option maxRecDepth 10000 in
set_option maxHeartbeats 400000 in
theorem fw_236 (a1 : Int32) (a2 : Int32) (a3 : Int32) (μ : qz_M) (R : wz_R)
    (h : (wz_cV qf_208 [.inl a1, .inl (1 : Int32), .inl (12 : Int32)] μ (fun μ1 => (wz_cV qf_208 [.inl a2, .inl (0 : Int32), .inl (9 : Int32)] μ1 (fun μ2 => (wz_cV qf_208 [.inl a3, .inl (0 : Int32), .inl (9 : Int32)] μ2 (fun μ3 => (bif decide ((6 : Int32) ≤ (qz_im μ3 11 0 0 2)) then (wz_cV qf_209 [.inl (0 : Int32)] μ3 (fun μ4 => (wz_cI qf_194 [.inr (.inr (some (0, 0, 0))), .inl (4 : Int32), .inl a1, .inl a2, .inl a3, .inl (0 : Int32), .inl (0 : Int32), .inl (0 : Int32)] μ4 (fun μ5 v6 => (R μ5 (.inl (some (.inl v6))))) (fun μ5 e => (R μ5 (.inr e))))) (fun μ4 e => (R μ4 (.inr e)))) else (wz_cV qf_209 [.inl (1 : Int32)] μ3 (fun μ7 => (wz_cI qf_194 [.inr (.inr (some (0, 0, 0))), .inl (4 : Int32), .inl a1, .inl a2, .inl a3, .inl (0 : Int32), .inl (0 : Int32), .inl (0 : Int32)] μ7 (fun μ8 v9 => (R μ8 (.inl (some (.inl v9))))) (fun μ8 e => (R μ8 (.inr e))))) (fun μ7 e => (R μ7 (.inr e)))))) (fun μ3 e => (R μ3 (.inr e))))) (fun μ2 e => (R μ2 (.inr e))))) (fun μ1 e => (R μ1 (.inr e))))) :
    wz_call qf_236 [.inr (.inr (some (0, 0, 0))), .inl a1, .inl a2, .inl a3] μ R := wz_mt9 (L := [some (.inr (.inr (some (0, 0, 0)))), some (.inl a1), some (.inl a2), some (.inl a3)]) sw_236 rfl h
/- X11 round -/
set_option maxRecDepth 10000 in
set_option maxHeartbeats 400000 in
theorem fw_237 (a1 : Int32) (a2 : Int32) (a3 : Int32) (μ : qz_M) (R : wz_R)
    (h : (wz_cV qf_249 [.inl a1, .inl (qz_im μ 11 0 0 9)] μ (fun μ1 => (wz_cV qf_208 [.inl a2, .inl (0 : Int32), .inl (127 : Int32)] μ1 (fun μ2 => (wz_cI qf_129 [.inr (.inr (some (10, 0, 0))), .inl a3] μ2 (fun μ3 v4 => (bif (!decide (v4 = 0)) then (wz_cI qf_194 [.inr (.inr (some (0, 0, 0))), .inl (23 : Int32), .inl a1, .inl a2, .inl a3, .inl (0 : Int32), .inl (0 : Int32), .inl (0 : Int32)] μ3 (fun μ5 v6 => (R μ5 (.inl (some (.inl v6))))) (fun μ5 e => (R μ5 (.inr e)))) else (R (qz_kk μ3 1 6) (.inr 13)))) (fun μ3 e => (R μ3 (.inr e))))) (fun μ2 e => (R μ2 (.inr e))))) (fun μ1 e => (R μ1 (.inr e))))) :
    wz_call qf_237 [.inr (.inr (some (0, 0, 0))), .inl a1, .inl a2, .inl a3] μ R := wz_mt9 (L := [some (.inr (.inr (some (0, 0, 0)))), some (.inl a1), some (.inl a2), some (.inl a3)]) sw_237 rfl h
/- X11 season -/
set_option maxRecDepth 10000 in
set_option maxHeartbeats 400000 in
theorem fw_238 (a1 : Int32) (a2 : Int32) (μ : qz_M) (R : wz_R)
    (h : (wz_cV qf_208 [.inl a1, .inl (0 : Int32), .inl (65535 : Int32)] μ (fun μ1 => (wz_cV qf_208 [.inl a2, .inl (1 : Int32), .inl (12 : Int32)] μ1 (fun μ2 => (bif (!decide ((qz_im μ2 11 0 0 15) = 0)) then (wz_cV qf_209 [.inl (0 : Int32)] μ2 (fun μ3 => (wz_cI qf_194 [.inr (.inr (some (0, 0, 0))), .inl (26 : Int32), .inl a1, .inl a2, .inl (0 : Int32), .inl (0 : Int32), .inl (0 : Int32), .inl (0 : Int32)] μ3 (fun μ4 v5 => (R μ4 (.inl (some (.inl v5))))) (fun μ4 e => (R μ4 (.inr e))))) (fun μ3 e => (R μ3 (.inr e)))) else (wz_cV qf_209 [.inl (1 : Int32)] μ2 (fun μ6 => (wz_cI qf_194 [.inr (.inr (some (0, 0, 0))), .inl (26 : Int32), .inl a1, .inl a2, .inl (0 : Int32), .inl (0 : Int32), .inl (0 : Int32), .inl (0 : Int32)] μ6 (fun μ7 v8 => (R μ7 (.inl (some (.inl v8))))) (fun μ7 e => (R μ7 (.inr e))))) (fun μ6 e => (R μ6 (.inr e)))))) (fun μ2 e => (R μ2 (.inr e))))) (fun μ1 e => (R μ1 (.inr e))))) :
    wz_call qf_238 [.inr (.inr (some (0, 0, 0))), .inl a1, .inl a2] μ R := wz_mt9 (L := [some (.inr (.inr (some (0, 0, 0)))), some (.inl a1), some (.inl a2)]) sw_238 rfl h
/- X11 send -/
set_option maxRecDepth 10000 in
set_option maxHeartbeats 400000 in
theorem fw_239 (a1 : Int32) (a2 : Int32) (μ : qz_M) (R : wz_R)
    (h : (wz_cI qf_55 [.inr (.inr (some (10, 0, 0))), .inl a1, .inl a2] μ (fun μ1 v2 => (bif (!decide (v2 = (1 : Int32))) then (bif (!decide (v2 = (2 : Int32))) then (bif (!decide (v2 = (3 : Int32))) then (wz_cI qf_194 [.inr (.inr (some (0, 0, 0))), .inl (21 : Int32), .inl a1, .inl a2, .inl (0 : Int32), .inl (0 : Int32), .inl (0 : Int32), .inl (0 : Int32)] μ1 (fun μ3 v4 => (R μ3 (.inl (some (.inl v4))))) (fun μ3 e => (R μ3 (.inr e)))) else (R (qz_kk μ1 1 6) (.inr 15))) else (R (qz_kk μ1 1 6) (.inr 13))) else (R (qz_kk μ1 1 6) (.inr 24)))) (fun μ1 e => (R μ1 (.inr e))))) :
    wz_call qf_239 [.inr (.inr (some (0, 0, 0))), .inl a1, .inl a2] μ R := wz_mt9 (L := [some (.inr (.inr (some (0, 0, 0)))), some (.inl a1), some (.inl a2)]) sw_239 rfl h
/- X11 set -/
set_option maxRecDepth 10000 in
set_option maxHeartbeats 400000 in
theorem fw_240 (a1 : Int32) (a2 : Int32) (μ : qz_M) (R : wz_R)
    (h : (wz_cV qf_249 [.inl a1, .inl (qz_im μ 11 0 0 2)] μ (fun μ1 => (wz_cV qf_208 [.inl a2, .inl (0 : Int32), .inl (40 : Int32)] μ1 (fun μ2 => (wz_cI qf_194 [.inr (.inr (some (0, 0, 0))), .inl (5 : Int32), .inl a1, .inl a2, .inl (0 : Int32), .inl (0 : Int32), .inl (0 : Int32), .inl (0 : Int32)] μ2 (fun μ3 v4 => (R μ3 (.inl (some (.inl v4))))) (fun μ3 e => (R μ3 (.inr e))))) (fun μ2 e => (R μ2 (.inr e))))) (fun μ1 e => (R μ1 (.inr e))))) :
    wz_call qf_240 [.inr (.inr (some (0, 0, 0))), .inl a1, .inl a2] μ R := wz_mt9 (L := [some (.inr (.inr (some (0, 0, 0)))), some (.inl a1), some (.inl a2)]) sw_240 rfl h
/- X11 shares -/
set_option maxRecDepth 10000 in
set_option maxHeartbeats 400000 in
theorem fw_241 (a1 : Int32) (a2 : Int32) (a3 : Int32) (a4 : Int32) (a5 : Int32) (μ : qz_M) (R : wz_R)
    (h : (wz_cV qf_208 [.inl a1, .inl (0 : Int32), .inl (999999 : Int32)] μ (fun μ1 => (wz_cV qf_208 [.inl a2, .inl (0 : Int32), .inl (999 : Int32)] μ1 (fun μ2 => (wz_cV qf_208 [.inl a3, .inl (0 : Int32), .inl (999 : Int32)] μ2 (fun μ3 => (wz_cV qf_208 [.inl a4, .inl (0 : Int32), .inl (999 : Int32)] μ3 (fun μ4 => (wz_cV qf_208 [.inl a5, .inl (0 : Int32), .inl (2 : Int32)] μ4 (fun μ5 => (wz_cV qf_208 [.inl ((a2 + a3) + a4), .inl (1 : Int32), .inl (2997 : Int32)] μ5 (fun μ6 => (wz_cV qf_9 [.inl a1, .inl a2, .inl a3, .inl a4, .inr (.inr (some (69, 0, 0)))] μ6 (fun μ7 => (bif pz_out a5 24 then False else (R μ7 (.inl (some (.inl (qz_im μ7 69 0 0 a5.toNatClampNeg))))))) (fun μ7 e => (R μ7 (.inr e))))) (fun μ6 e => (R μ6 (.inr e))))) (fun μ5 e => (R μ5 (.inr e))))) (fun μ4 e => (R μ4 (.inr e))))) (fun μ3 e => (R μ3 (.inr e))))) (fun μ2 e => (R μ2 (.inr e))))) (fun μ1 e => (R μ1 (.inr e))))) :
    wz_call qf_241 [.inr (.inr (some (0, 0, 0))), .inl a1, .inl a2, .inl a3, .inl a4, .inl a5] μ R := wz_mt9 (L := [some (.inr (.inr (some (0, 0, 0)))), some (.inl a1), some (.inl a2), some (.inl a3), some (.inl a4), some (.inl a5)]) sw_241 rfl h
/- X11 sign -/
set_option maxRecDepth 10000 in
set_option maxHeartbeats 400000 in
theorem fw_242 (a1 : Int32) (μ : qz_M) (R : wz_R)
    (h : (wz_cV qf_208 [.inl a1, .inl (32 : Int32), .inl (126 : Int32)] μ (fun μ1 => (bif decide ((120 : Int32) ≤ (qz_im μ1 4 0 0 1)) then (wz_cV qf_209 [.inl (0 : Int32)] μ1 (fun μ2 => (bif pz_out (qz_im μ2 4 0 0 1) 120 then False else (wz_wr (qz_wI μ2 (66, 0, 0) (qz_im μ2 4 0 0 1).toNatClampNeg a1) (fun μ3 => (wz_wr (qz_wI μ3 (4, 0, 0) 1 ((qz_im μ3 4 0 0 1) + (1 : Int32))) (fun μ4 => (R μ4 (.inl (some (.inl (qz_im μ4 4 0 0 1))))))))))) (fun μ2 e => (R μ2 (.inr e)))) else (wz_cV qf_209 [.inl (1 : Int32)] μ1 (fun μ5 => (bif pz_out (qz_im μ5 4 0 0 1) 120 then False else (wz_wr (qz_wI μ5 (66, 0, 0) (qz_im μ5 4 0 0 1).toNatClampNeg a1) (fun μ6 => (wz_wr (qz_wI μ6 (4, 0, 0) 1 ((qz_im μ6 4 0 0 1) + (1 : Int32))) (fun μ7 => (R μ7 (.inl (some (.inl (qz_im μ7 4 0 0 1))))))))))) (fun μ5 e => (R μ5 (.inr e)))))) (fun μ1 e => (R μ1 (.inr e))))) :
    wz_call qf_242 [.inr (.inr (some (0, 0, 0))), .inl a1] μ R := wz_mt9 (L := [some (.inr (.inr (some (0, 0, 0)))), some (.inl a1)]) sw_242 rfl h
/- X11 sort -/
set_option maxRecDepth 10000 in
set_option maxHeartbeats 400000 in
theorem fw_243 (a1 : Int32) (a2 : Int32) (a3 : Int32) (a4 : Int32) (a5 : Int32) (μ : qz_M) (R : wz_R)
    (h : (wz_cV qf_208 [.inl a1, .inl (1 : Int32), .inl (9 : Int32)] μ (fun μ1 => (wz_cV qf_208 [.inl a2, .inl (0 : Int32), .inl (12 : Int32)] μ1 (fun μ2 => (wz_cV qf_208 [.inl a3, .inl (0 : Int32), .inl (12 : Int32)] μ2 (fun μ3 => (wz_cV qf_208 [.inl a4, .inl (100 : Int32), .inl (600 : Int32)] μ3 (fun μ4 => (wz_cV qf_208 [.inl a5, .inl (10 : Int32), .inl (99 : Int32)] μ4 (fun μ5 => (bif decide ((5 : Int32) ≤ (qz_im μ5 11 0 0 0)) then (wz_cV qf_209 [.inl (0 : Int32)] μ5 (fun μ6 => (wz_cI qf_194 [.inr (.inr (some (0, 0, 0))), .inl (0 : Int32), .inl a1, .inl a2, .inl a3, .inl a4, .inl a5, .inl (0 : Int32)] μ6 (fun μ7 v8 => (R μ7 (.inl (some (.inl v8))))) (fun μ7 e => (R μ7 (.inr e))))) (fun μ6 e => (R μ6 (.inr e)))) else (wz_cV qf_209 [.inl (1 : Int32)] μ5 (fun μ9 => (wz_cI qf_194 [.inr (.inr (some (0, 0, 0))), .inl (0 : Int32), .inl a1, .inl a2, .inl a3, .inl a4, .inl a5, .inl (0 : Int32)] μ9 (fun μ10 v11 => (R μ10 (.inl (some (.inl v11))))) (fun μ10 e => (R μ10 (.inr e))))) (fun μ9 e => (R μ9 (.inr e)))))) (fun μ5 e => (R μ5 (.inr e))))) (fun μ4 e => (R μ4 (.inr e))))) (fun μ3 e => (R μ3 (.inr e))))) (fun μ2 e => (R μ2 (.inr e))))) (fun μ1 e => (R μ1 (.inr e))))) :
    wz_call qf_243 [.inr (.inr (some (0, 0, 0))), .inl a1, .inl a2, .inl a3, .inl a4, .inl a5] μ R := wz_mt9 (L := [some (.inr (.inr (some (0, 0, 0)))), some (.inl a1), some (.inl a2), some (.inl a3), some (.inl a4), some (.inl a5)]) sw_243 rfl h
/- X11 sum -/
set_option maxRecDepth 10000 in
set_option maxHeartbeats 400000 in
theorem fw_244 (a1 : Int32) (μ : qz_M) (R : wz_R)
    (h : (wz_cV qf_208 [.inl a1, .inl (0 : Int32), .inl (23 : Int32)] μ (fun μ1 => (bif decide (a1.toInt < (21 : Int)) || decide ((23 : Int) < a1.toInt) then (wz_cI qf_124 [.inr (.inr (some (10, 0, 0))), .inl a1] μ1 (fun μ2 v3 => (R μ2 (.inl (some (.inl v3))))) (fun μ2 e => (R μ2 (.inr e)))) else (bif decide (a1.toInt = (21 : Int)) then (R μ1 (.inl (some (.inl (qz_im μ1 11 0 0 15))))) else (bif decide (a1.toInt = (22 : Int)) then (R μ1 (.inl (some (.inl (qz_im μ1 3 0 0 8))))) else (bif decide (a1.toInt = (23 : Int)) then (R μ1 (.inl (some (.inl (qz_im μ1 4 0 0 1))))) else (wz_cI qf_124 [.inr (.inr (some (10, 0, 0))), .inl a1] μ1 (fun μ2 v3 => (R μ2 (.inl (some (.inl v3))))) (fun μ2 e => (R μ2 (.inr e))))))))) (fun μ1 e => (R μ1 (.inr e))))) :
    wz_call qf_244 [.inr (.inr (some (0, 0, 0))), .inl a1] μ R := wz_mt9 (L := [some (.inr (.inr (some (0, 0, 0)))), some (.inl a1)]) sw_244 rfl h
/- X11 taker -/
set_option maxRecDepth 10000 in
set_option maxHeartbeats 400000 in
theorem fw_245 (a1 : Int32) (a2 : Int32) (μ : qz_M) (R : wz_R)
    (h : (wz_cV qf_249 [.inl a1, .inl (qz_im μ 11 0 0 3)] μ (fun μ1 => (wz_cV qf_208 [.inl a2, .inl (1 : Int32), .inl (9999 : Int32)] μ1 (fun μ2 => (bif pz_out a1 48 then False else (wz_cI qf_34 [.inr (.inr (some (10, 0, 0))), .inr (.inr (some (44, 0, a1.toNatClampNeg))), .inl a2] μ2 (fun μ3 v4 => (R μ3 (.inl (some (.inl v4))))) (fun μ3 e => (R μ3 (.inr e)))))) (fun μ2 e => (R μ2 (.inr e))))) (fun μ1 e => (R μ1 (.inr e))))) :
    wz_call qf_245 [.inr (.inr (some (0, 0, 0))), .inl a1, .inl a2] μ R := wz_mt9 (L := [some (.inr (.inr (some (0, 0, 0)))), some (.inl a1), some (.inl a2)]) sw_245 rfl h
/- X11 takings -/
set_option maxRecDepth 10000 in
set_option maxHeartbeats 400000 in
theorem fw_246 (a1 : Int32) (a2 : Int32) (a3 : Int32) (μ : qz_M) (R : wz_R)
    (h : (wz_cV qf_249 [.inl a1, .inl (qz_im μ 11 0 0 7)] μ (fun μ1 => (wz_cV qf_208 [.inl a2, .inl (1 : Int32), .inl (12 : Int32)] μ1 (fun μ2 => (wz_cV qf_208 [.inl a3, .inl (0 : Int32), .inl (4 : Int32)] μ2 (fun μ3 => (wz_cI qf_77 [.inr (.inr (some (10, 0, 0))), .inr (.inr (some (10, (12 + 0), 0))), .inl a1, .inl a2, .inl a3] μ3 (fun μ4 v5 => (R μ4 (.inl (some (.inl v5))))) (fun μ4 e => (R μ4 (.inr e))))) (fun μ3 e => (R μ3 (.inr e))))) (fun μ2 e => (R μ2 (.inr e))))) (fun μ1 e => (R μ1 (.inr e))))) :
    wz_call qf_246 [.inr (.inr (some (0, 0, 0))), .inl a1, .inl a2, .inl a3] μ R := wz_mt9 (L := [some (.inr (.inr (some (0, 0, 0)))), some (.inl a1), some (.inl a2), some (.inl a3)]) sw_246 rfl h
/- X11 tariff -/
set_option maxRecDepth 10000 in
set_option maxHeartbeats 400000 in
theorem fw_247 (a1 : Int32) (a2 : Int32) (μ : qz_M) (R : wz_R)
    (h : (wz_cV qf_208 [.inl a1, .inl (0 : Int32), .inl (3 : Int32)] μ (fun μ1 => (wz_cV qf_208 [.inl a2, .inl (0 : Int32), .inl (99999 : Int32)] μ1 (fun μ2 => (wz_cI qf_194 [.inr (.inr (some (0, 0, 0))), .inl (24 : Int32), .inl a1, .inl a2, .inl (0 : Int32), .inl (0 : Int32), .inl (0 : Int32), .inl (0 : Int32)] μ2 (fun μ3 v4 => (R μ3 (.inl (some (.inl v4))))) (fun μ3 e => (R μ3 (.inr e))))) (fun μ2 e => (R μ2 (.inr e))))) (fun μ1 e => (R μ1 (.inr e))))) :
    wz_call qf_247 [.inr (.inr (some (0, 0, 0))), .inl a1, .inl a2] μ R := wz_mt9 (L := [some (.inr (.inr (some (0, 0, 0)))), some (.inl a1), some (.inl a2)]) sw_247 rfl h
/- X11 tasks -/
set_option maxRecDepth 10000 in
set_option maxHeartbeats 400000 in
theorem fw_248  (μ : qz_M) (R : wz_R)
    (h : (wz_cI qf_151 [.inr (.inr (some (4, 0, 0))), .inr (.inr (some (68, 0, 0)))] μ (fun μ1 v2 => (bif (!decide (v2 = 0)) then (wz_wr (qz_wI μ1 (4, 0, 0) 1 (0 : Int32)) (fun μ3 => (R μ3 (.inl (some (.inl v2)))))) else (wz_cI qf_196 [.inr (.inr (some (0, 0, 0)))] μ1 (fun μ4 v5 => (wz_wr (qz_wI μ4 (4, 0, 0) 1 (0 : Int32)) (fun μ6 => (R μ6 (.inl (some (.inl v5))))))) (fun μ4 e => (R μ4 (.inr e)))))) (fun μ1 e => (R μ1 (.inr e))))) :
    wz_call qf_248 [.inr (.inr (some (0, 0, 0)))] μ R := wz_mt9 (L := [some (.inr (.inr (some (0, 0, 0)))), none]) sw_248 rfl h
/- X11 trip -/
set_option maxRecDepth 10000 in
set_option maxHeartbeats 400000 in
theorem fw_250 (a1 : Int32) (a2 : Int32) (μ : qz_M) (R : wz_R)
    (h : (wz_cV qf_249 [.inl a1, .inl (qz_im μ 11 0 0 8)] μ (fun μ1 => (wz_cV qf_208 [.inl a2, .inl (0 : Int32), .inl (4 : Int32)] μ1 (fun μ2 => (bif pz_out a1 4 then False else (bif (!decide ((qz_im μ2 50 0 a1.toNatClampNeg 2) = (1 : Int32))) then (wz_cI qf_59 [.inr (.inr (some (10, 0, 0))), .inl a1] μ2 (fun μ3 v4 => (wz_cI qf_56 [.inr (.inr (some (10, 0, 0))), .inl v4, .inr (.inr (some (69, 0, 0)))] μ3 (fun μ5 v6 => (bif pz_out a2 24 then False else (R μ5 (.inl (some (.inl (qz_im μ5 69 0 0 a2.toNatClampNeg))))))) (fun μ5 e => (R μ5 (.inr e))))) (fun μ3 e => (R μ3 (.inr e)))) else (bif pz_out a1 4 then False else (bif pz_out ((12 : Int32) + a2) 22 then False else (R μ2 (.inl (some (.inl (qz_im μ2 50 0 a1.toNatClampNeg ((12 : Int32) + a2).toNatClampNeg)))))))))) (fun μ2 e => (R μ2 (.inr e))))) (fun μ1 e => (R μ1 (.inr e))))) :
    wz_call qf_250 [.inr (.inr (some (0, 0, 0))), .inl a1, .inl a2] μ R := wz_mt9 (L := [some (.inr (.inr (some (0, 0, 0)))), some (.inl a1), some (.inl a2)]) sw_250 rfl h
/- X11 truck -/
set_option maxRecDepth 10000 in
set_option maxHeartbeats 400000 in
theorem fw_251 (a1 : Int32) (a2 : Int32) (μ : qz_M) (R : wz_R)
    (h : (wz_cV qf_208 [.inl a1, .inl (10 : Int32), .inl (99 : Int32)] μ (fun μ1 => (wz_cV qf_208 [.inl a2, .inl (0 : Int32), .inl (40 : Int32)] μ1 (fun μ2 => (bif decide ((4 : Int32) ≤ (qz_im μ2 11 0 0 8)) then (wz_cV qf_209 [.inl (0 : Int32)] μ2 (fun μ3 => (wz_cI qf_194 [.inr (.inr (some (0, 0, 0))), .inl (19 : Int32), .inl a1, .inl a2, .inl (0 : Int32), .inl (0 : Int32), .inl (0 : Int32), .inl (0 : Int32)] μ3 (fun μ4 v5 => (R μ4 (.inl (some (.inl v5))))) (fun μ4 e => (R μ4 (.inr e))))) (fun μ3 e => (R μ3 (.inr e)))) else (wz_cV qf_209 [.inl (1 : Int32)] μ2 (fun μ6 => (wz_cI qf_194 [.inr (.inr (some (0, 0, 0))), .inl (19 : Int32), .inl a1, .inl a2, .inl (0 : Int32), .inl (0 : Int32), .inl (0 : Int32), .inl (0 : Int32)] μ6 (fun μ7 v8 => (R μ7 (.inl (some (.inl v8))))) (fun μ7 e => (R μ7 (.inr e))))) (fun μ6 e => (R μ6 (.inr e)))))) (fun μ2 e => (R μ2 (.inr e))))) (fun μ1 e => (R μ1 (.inr e))))) :
    wz_call qf_251 [.inr (.inr (some (0, 0, 0))), .inl a1, .inl a2] μ R := wz_mt9 (L := [some (.inr (.inr (some (0, 0, 0)))), some (.inl a1), some (.inl a2)]) sw_251 rfl h
/- X11 undo -/
set_option maxRecDepth 10000 in
set_option maxHeartbeats 400000 in
theorem fw_252  (μ : qz_M) (R : wz_R)
    (h : (bif decide ((qz_im μ 3 0 0 8) ≤ 0) then (wz_cV qf_209 [.inl (0 : Int32)] μ (fun μ1 => (bif pz_out (qz_im μ1 3 0 0 7) 8 then False else (wz_cV qf_111 [.inr (.inr (some (10, 0, 0))), .inr (.inr (some (10, (2 + (qz_im μ1 3 0 0 7).toNatClampNeg), 0)))] μ1 (fun μ2 => (wz_wr (qz_wI μ2 (3, 0, 0) 7 ((((qz_im μ2 3 0 0 7) + (8 : Int32)) - (1 : Int32)) - (((qz_im μ2 3 0 0 7) + (8 : Int32)) - (1 : Int32)) / (8 : Int32) * (8 : Int32))) (fun μ3 => (wz_wr (qz_wI μ3 (3, 0, 0) 8 ((qz_im μ3 3 0 0 8) - (1 : Int32))) (fun μ4 => (R μ4 (.inl (some (.inl (qz_im μ4 3 0 0 8)))))))))) (fun μ2 e => (R μ2 (.inr e)))))) (fun μ1 e => (R μ1 (.inr e)))) else (wz_cV qf_209 [.inl (1 : Int32)] μ (fun μ5 => (bif pz_out (qz_im μ5 3 0 0 7) 8 then False else (wz_cV qf_111 [.inr (.inr (some (10, 0, 0))), .inr (.inr (some (10, (2 + (qz_im μ5 3 0 0 7).toNatClampNeg), 0)))] μ5 (fun μ6 => (wz_wr (qz_wI μ6 (3, 0, 0) 7 ((((qz_im μ6 3 0 0 7) + (8 : Int32)) - (1 : Int32)) - (((qz_im μ6 3 0 0 7) + (8 : Int32)) - (1 : Int32)) / (8 : Int32) * (8 : Int32))) (fun μ7 => (wz_wr (qz_wI μ7 (3, 0, 0) 8 ((qz_im μ7 3 0 0 8) - (1 : Int32))) (fun μ8 => (R μ8 (.inl (some (.inl (qz_im μ8 3 0 0 8)))))))))) (fun μ6 e => (R μ6 (.inr e)))))) (fun μ5 e => (R μ5 (.inr e)))))) :
    wz_call qf_252 [.inr (.inr (some (0, 0, 0)))] μ R := wz_mt9 (L := [some (.inr (.inr (some (0, 0, 0))))]) sw_252 rfl h
/- X11 way -/
set_option maxRecDepth 10000 in
set_option maxHeartbeats 400000 in
theorem fw_253 (a1 : Int32) (a2 : Int32) (a3 : Int32) (μ : qz_M) (R : wz_R)
    (h : (wz_cV qf_249 [.inl a1, .inl (6 : Int32)] μ (fun μ1 => (wz_cV qf_249 [.inl a2, .inl (6 : Int32)] μ1 (fun μ2 => (bif (!decide (a1 = a2)) then (wz_cV qf_208 [.inl a3, .inl (1 : Int32), .inl (12 : Int32)] μ2 (fun μ3 => (wz_cI qf_194 [.inr (.inr (some (0, 0, 0))), .inl (17 : Int32), .inl a1, .inl a2, .inl a3, .inl (0 : Int32), .inl (0 : Int32), .inl (0 : Int32)] μ3 (fun μ4 v5 => (R μ4 (.inl (some (.inl v5))))) (fun μ4 e => (R μ4 (.inr e))))) (fun μ3 e => (R μ3 (.inr e)))) else (R (qz_kk μ2 1 6) (.inr 13)))) (fun μ2 e => (R μ2 (.inr e))))) (fun μ1 e => (R μ1 (.inr e))))) :
    wz_call qf_253 [.inr (.inr (some (0, 0, 0))), .inl a1, .inl a2, .inl a3] μ R := wz_mt9 (L := [some (.inr (.inr (some (0, 0, 0)))), some (.inl a1), some (.inl a2), some (.inl a3)]) sw_253 rfl h
/- X11 withdraw -/
set_option maxRecDepth 10000 in
set_option maxHeartbeats 400000 in
theorem fw_254 (a1 : Int32) (μ : qz_M) (R : wz_R)
    (h : (bif decide (a1 < 0) then (R (qz_kk μ 1 6) (.inr 24)) else (bif decide (a1 < (qz_im μ 11 0 0 3)) then (bif pz_out a1 48 then False else (bif (!decide ((qz_im μ 44 0 a1.toNatClampNeg 10) = (1 : Int32))) then (R (qz_kk μ 1 6) (.inr 15)) else (wz_cI qf_194 [.inr (.inr (some (0, 0, 0))), .inl (16 : Int32), .inl a1, .inl (0 : Int32), .inl (0 : Int32), .inl (0 : Int32), .inl (0 : Int32), .inl (0 : Int32)] μ (fun μ1 v2 => (R μ1 (.inl (some (.inl v2))))) (fun μ1 e => (R μ1 (.inr e)))))) else (R (qz_kk μ 1 6) (.inr 24))))) :
    wz_call qf_254 [.inr (.inr (some (0, 0, 0))), .inl a1] μ R := wz_mt9 (L := [some (.inr (.inr (some (0, 0, 0)))), some (.inl a1)]) sw_254 rfl h
/- X11 worst -/
set_option maxRecDepth 10000 in
set_option maxHeartbeats 400000 in
theorem fw_255 (a1 : Int32) (a2 : Int32) (μ : qz_M) (R : wz_R)
    (h : (wz_cV qf_249 [.inl a1, .inl (qz_im μ 11 0 0 9)] μ (fun μ1 => (wz_cV qf_208 [.inl a2, .inl (0 : Int32), .inl (1 : Int32)] μ1 (fun μ2 => (wz_cV qf_138 [.inr (.inr (some (10, 0, 0))), .inl a1, .inr (.inr (some (67, 0, 0))), .inr (.inr (some (69, 0, 0)))] μ2 (fun μ3 => (bif pz_out a2 24 then False else (R μ3 (.inl (some (.inl (qz_im μ3 69 0 0 a2.toNatClampNeg))))))) (fun μ3 e => (R μ3 (.inr e))))) (fun μ2 e => (R μ2 (.inr e))))) (fun μ1 e => (R μ1 (.inr e))))) :
    wz_call qf_255 [.inr (.inr (some (0, 0, 0))), .inl a1, .inl a2] μ R := wz_mt9 (L := [some (.inr (.inr (some (0, 0, 0)))), some (.inl a1), some (.inl a2)]) sw_255 rfl h
/- X12 in -/
/- X12 fails -/
/- X12 account -/
set_option maxRecDepth 10000 in
set_option maxHeartbeats 400000 in
theorem fw_256 (a1 : Int32) (μ : qz_M) (R : wz_R)
    (h : (bif decide (a1 < (0 : Int32)) then (wz_wr (qz_wI μ (1, 0, 0) 2 (1 : Int32)) (fun μ1 => (R μ1 (.inl (some (.inl (0 : Int32))))))) else (bif decide ((9 : Int32) < a1) then (wz_wr (qz_wI μ (1, 0, 0) 2 (1 : Int32)) (fun μ2 => (R μ2 (.inl (some (.inl (0 : Int32))))))) else (wz_wr (qz_wI μ (1, 0, 0) 2 (0 : Int32)) (fun μ3 => (bif pz_out ((3800 : Int32) + a1) 4400 then False else (R μ3 (.inl (some (.inl (qz_im μ3 2 0 0 ((3800 : Int32) + a1).toNatClampNeg))))))))))) :
    wz_call qf_256 [.inr (.inr (some (1, 0, 0))), .inl a1] μ R := wz_mt9 (L := [some (.inr (.inr (some (1, 0, 0)))), some (.inl a1)]) sw_256 rfl h
/- X12 xRow -/
set_option maxRecDepth 10000 in
set_option maxHeartbeats 400000 in
theorem fw_565 (a0 : qz_R) (a1 : Int32) (a2 : Int32) (μ : qz_M) (R : wz_R)
    (h : (bif decide (a2 < 0) || Nat.blt 1000000 a2.toNatClampNeg then False else (wz_wr (qz_al μ 50 1 a2.toNatClampNeg 1 a2.toNatClampNeg) (fun μ1 => (wz_loop qb_565_1 65536 (wz_sk gc_565_2 wz_k0 R) R ([some (.inr (.inr (some a0))), some (.inl a1), some (.inl a2), some (.inr (.inr (some (200, (qz_na μ), 0)))), some (.inl (0 : Int32))], [], μ1)))))) :
    wz_call qf_565 [.inr (.inr (some a0)), .inl a1, .inl a2] μ R := wz_mt9 (L := [some (.inr (.inr (some a0))), some (.inl a1), some (.inl a2), none, none]) sw_565 rfl h
set_option maxRecDepth 10000 in
set_option maxHeartbeats 400000 in
theorem fc_565_2 (x3 : Nat) (μ : qz_M) (k : wz_K) (R : wz_R) (L : qz_L) (hL : qz_fg [false, false, false, true, false] L = [none, none, none, some (.inr (.inr (some (200, x3, 0)))), none])
    (h : (R μ (.inl (some (.inr (.inr (some (200, x3, 0)))))))) :
    gc_565_2 k R (L, [], μ) := wz_fgd hL h
set_option maxRecDepth 10000 in
set_option maxHeartbeats 400000 in
theorem fb_565_1 (x0 : qz_R) (x1 : Int32) (x3 : Nat) (x4 : Int32) (μ : qz_M) (k : wz_K) (R : wz_R) (L : qz_L) (hL : qz_fg [true, true, false, true, true] L = [some (.inr (.inr (some x0))), some (.inl x1), none, some (.inr (.inr (some (200, x3, 0)))), some (.inl x4)])
    (h : (bif decide (x1 ≤ x4) then (k 0 ([some (.inr (.inr (some x0))), some (.inl x1), none, some (.inr (.inr (some (200, x3, 0)))), some (.inl x4)], [], μ)) else (bif Nat.beq (qz_tag μ x0) 50 && true then (bif pz_out x4 (qz_len μ x0) then False else (bif Nat.beq (qz_tag μ (200, x3, 0)) 50 then (bif pz_out x4 (qz_len μ (200, x3, 0)) then False else (wz_wr (qz_wI μ (200, x3, 0) x4.toNatClampNeg (qz_im μ x0.1 x0.2.1 x0.2.2 x4.toNatClampNeg)) (fun μ1 => (k 1 ([some (.inr (.inr (some x0))), some (.inl x1), none, some (.inr (.inr (some (200, x3, 0)))), some (.inl (x4 + (1 : Int32)))], [], μ1))))) else False)) else False))) :
    gb_565_1 k R (L, [], μ) := wz_fgd hL h
/- X12 again -/
set_option maxRecDepth 10000 in
set_option maxHeartbeats 400000 in
theorem fw_257 (a1 : Int32) (μ : qz_M) (R : wz_R)
    (h : (bif decide (a1 < (0 : Int32)) then (wz_wr (qz_wI μ (1, 0, 0) 2 (1 : Int32)) (fun μ1 => (R μ1 (.inl (some (.inl (0 : Int32))))))) else (bif decide ((1 : Int32) < a1) then (wz_wr (qz_wI μ (1, 0, 0) 2 (1 : Int32)) (fun μ2 => (R μ2 (.inl (some (.inl (0 : Int32))))))) else (wz_wr (qz_wI μ (1, 0, 0) 2 (0 : Int32)) (fun μ3 => (bif pz_out a1 2 then False else (bif (!decide ((qz_im μ3 111 0 0 a1.toNatClampNeg) = (1 : Int32))) then (wz_wr (qz_wI μ3 (1, 0, 0) 2 (2 : Int32)) (fun μ4 => (R μ4 (.inl (some (.inl (0 : Int32))))))) else (wz_wr (qz_wI μ3 (1, 0, 0) 2 (0 : Int32)) (fun μ5 => (wz_loop qb_257_1 65536 (wz_sk gc_257_2 wz_k0 R) R ([some (.inr (.inr (some (1, 0, 0)))), some (.inl a1), some (.inl (0 : Int32))], [], μ5))))))))))) :
    wz_call qf_257 [.inr (.inr (some (1, 0, 0))), .inl a1] μ R := wz_mt9 (L := [some (.inr (.inr (some (1, 0, 0)))), some (.inl a1), none]) sw_257 rfl h
/- X12 areParts -/
set_option maxRecDepth 10000 in
set_option maxHeartbeats 400000 in
theorem fw_258 (a1 : Int32) (μ : qz_M) (R : wz_R)
    (h : (bif decide ((10 : Int32) < (qz_im μ 1 0 0 28)) then (wz_loop qb_258_1 65536 (wz_sk gc_258_2 wz_k0 R) R ([some (.inr (.inr (some (1, 0, 0)))), some (.inl a1), some (.inl (0 : Int32)), some (.inl (0 : Int32))], [], μ)) else (wz_loop qb_258_1 65536 (wz_sk gc_258_2 wz_k0 R) R ([some (.inr (.inr (some (1, 0, 0)))), some (.inl a1), some (.inl (1 : Int32)), some (.inl (0 : Int32))], [], μ)))) :
    wz_call qf_258 [.inr (.inr (some (1, 0, 0))), .inl a1] μ R := wz_mt9 (L := [some (.inr (.inr (some (1, 0, 0)))), some (.inl a1), none, none]) sw_258 rfl h
set_option maxRecDepth 10000 in
set_option maxHeartbeats 400000 in
theorem fc_258_2 (x2 : Int32) (μ : qz_M) (k : wz_K) (R : wz_R) (L : qz_L) (hL : qz_fg [false, false, true, false] L = [none, none, some (.inl x2), none])
    (h : (bif decide (x2 = 0) || decide (x2 = 1) then (R μ (.inl (some (.inl x2)))) else False)) :
    gc_258_2 k R (L, [], μ) := wz_fgd hL h
set_option maxRecDepth 10000 in
set_option maxHeartbeats 400000 in
theorem fb_258_1 (x1 : Int32) (x2 : Int32) (x3 : Int32) (μ : qz_M) (k : wz_K) (R : wz_R) (L : qz_L) (hL : qz_fg [true, true, true, true] L = [some (.inr (.inr (some (1, 0, 0)))), some (.inl x1), some (.inl x2), some (.inl x3)])
    (h : (bif decide ((qz_im μ 1 0 0 28) ≤ x3) then (k 0 ([some (.inr (.inr (some (1, 0, 0)))), some (.inl x1), some (.inl x2), some (.inl x3)], [], μ)) else (bif decide (x2 = 0) then (k 1 ([some (.inr (.inr (some (1, 0, 0)))), some (.inl x1), some (.inl (0 : Int32)), some (.inl (x3 + (1 : Int32)))], [], μ)) else (bif pz_out x3 60 then False else (bif decide (x1 < (qz_im μ 98 0 0 x3.toNatClampNeg)) then (k 1 ([some (.inr (.inr (some (1, 0, 0)))), some (.inl x1), some (.inl (0 : Int32)), some (.inl (x3 + (1 : Int32)))], [], μ)) else (k 1 ([some (.inr (.inr (some (1, 0, 0)))), some (.inl x1), some (.inl (1 : Int32)), some (.inl (x3 + (1 : Int32)))], [], μ))))))) :
    gb_258_1 k R (L, [], μ) := wz_fgd hL h
/- X12 oAt -/
/- X12 bBuyer -/
/- X12 bAt -/
/- X12 weekday -/
/- X12 bIsToday -/
/- X12 bAsks -/
/- X12 bAsking -/
set_option maxRecDepth 10000 in
set_option maxHeartbeats 400000 in
theorem fw_259  (μ : qz_M) (R : wz_R)
    (h : (wz_loop qb_259_1 65536 (wz_sk gc_259_2 wz_k0 R) R ([some (.inr (.inr (some (1, 0, 0)))), some (.inl (0 : Int32)), some (.inl (0 : Int32))], [], μ))) :
    wz_call qf_259 [.inr (.inr (some (1, 0, 0)))] μ R := wz_mt9 (L := [some (.inr (.inr (some (1, 0, 0)))), none, none]) sw_259 rfl h
set_option maxRecDepth 10000 in
set_option maxHeartbeats 400000 in
theorem fc_259_2 (x1 : Int32) (μ : qz_M) (k : wz_K) (R : wz_R) (L : qz_L) (hL : qz_fg [false, true, false] L = [none, some (.inl x1), none])
    (h : (R μ (.inl (some (.inl x1))))) :
    gc_259_2 k R (L, [], μ) := wz_fgd hL h
set_option maxRecDepth 10000 in
set_option maxHeartbeats 400000 in
theorem fb_259_1 (x1 : Int32) (x2 : Int32) (μ : qz_M) (k : wz_K) (R : wz_R) (L : qz_L) (hL : qz_fg [true, true, true] L = [some (.inr (.inr (some (1, 0, 0)))), some (.inl x1), some (.inl x2)])
    (h : (bif decide ((qz_im μ 2 0 0 1401) ≤ x2) then (k 0 ([some (.inr (.inr (some (1, 0, 0)))), some (.inl x1), some (.inl x2)], [], μ)) else (wz_cI qf_260 [.inr (.inr (some (1, 0, 0))), .inl x2] μ (fun μ1 v2 => (bif decide (v2 = 0) then (k 1 ([some (.inr (.inr (some (1, 0, 0)))), some (.inl (x1 + (0 : Int32))), some (.inl (x2 + (1 : Int32)))], [], μ1)) else (k 1 ([some (.inr (.inr (some (1, 0, 0)))), some (.inl (x1 + (1 : Int32))), some (.inl (x2 + (1 : Int32)))], [], μ1)))) (fun μ1 e => (R μ1 (.inr e)))))) :
    gb_259_1 k R (L, [], μ) := wz_fgd hL h
/- X12 bBegin -/
/- X12 qAt -/
/- X12 gross -/
/- X12 uAt -/
/- X12 bUnpaid -/
/- X12 bLeft -/
/- X12 bBuyerSound -/
/- X12 bFirstDue -/
/- X12 bPays -/
/- X12 bClose -/
set_option maxRecDepth 10000 in
set_option maxHeartbeats 400000 in
theorem fw_265 (a1 : Int32) (μ : qz_M) (R : wz_R)
    (h : (wz_loop qb_265_1 65536 (wz_sk gc_265_4 wz_k0 R) R ([some (.inr (.inr (some (1, 0, 0)))), some (.inl a1), some (.inl (0 : Int32))], [], μ))) :
    wz_call qf_265 [.inr (.inr (some (1, 0, 0))), .inl a1] μ R := wz_mt9 (L := [some (.inr (.inr (some (1, 0, 0)))), some (.inl a1), none]) sw_265 rfl h
set_option maxRecDepth 10000 in
set_option maxHeartbeats 400000 in
theorem fc_265_4  (μ : qz_M) (k : wz_K) (R : wz_R) (L : qz_L) (hL : qz_fg [true, false, false] L = [some (.inr (.inr (some (1, 0, 0)))), none, none])
    (h : (wz_loop qb_265_2 65536 (wz_sk gc_265_3 k R) R ([some (.inr (.inr (some (1, 0, 0)))), none, some (.inl (0 : Int32))], [], μ))) :
    gc_265_4 k R (L, [], μ) := wz_fgd hL h
set_option maxRecDepth 10000 in
set_option maxHeartbeats 400000 in
theorem fb_265_1 (x1 : Int32) (x2 : Int32) (μ : qz_M) (k : wz_K) (R : wz_R) (L : qz_L) (hL : qz_fg [true, true, true] L = [some (.inr (.inr (some (1, 0, 0)))), some (.inl x1), some (.inl x2)])
    (h : (bif decide ((qz_im μ 2 0 0 1400) ≤ x2) then (k 0 ([some (.inr (.inr (some (1, 0, 0)))), some (.inl x1), some (.inl x2)], [], μ)) else (wz_cV qf_281 [.inr (.inr (some (1, 0, 0))), .inl x2, .inl x1] μ (fun μ1 => (k 1 ([some (.inr (.inr (some (1, 0, 0)))), some (.inl x1), some (.inl (x2 + (1 : Int32)))], [], μ1))) (fun μ1 e => (R μ1 (.inr e)))))) :
    gb_265_1 k R (L, [], μ) := wz_fgd hL h
set_option maxRecDepth 10000 in
set_option maxHeartbeats 400000 in
theorem fc_265_3  (μ : qz_M) (k : wz_K) (R : wz_R) (L : qz_L) (hL : qz_fg [false, false, false] L = [none, none, none])
    (h : (R μ (.inl none))) :
    gc_265_3 k R (L, [], μ) := wz_fgd hL h
set_option maxRecDepth 10000 in
set_option maxHeartbeats 400000 in
theorem fb_265_2 (x2 : Int32) (μ : qz_M) (k : wz_K) (R : wz_R) (L : qz_L) (hL : qz_fg [true, false, true] L = [some (.inr (.inr (some (1, 0, 0)))), none, some (.inl x2)])
    (h : (bif decide ((qz_im μ 2 0 0 1401) ≤ x2) then (k 0 ([some (.inr (.inr (some (1, 0, 0)))), none, some (.inl x2)], [], μ)) else (bif pz_out (((1510 : Int32) + ((12 : Int32) * x2)) + (7 : Int32)) 4400 then False else (bif (!decide ((qz_im μ 2 0 0 (((1510 : Int32) + ((12 : Int32) * x2)) + (7 : Int32)).toNatClampNeg) = 0)) then (k 1 ([some (.inr (.inr (some (1, 0, 0)))), none, some (.inl (x2 + (1 : Int32)))], [], μ)) else (bif pz_out (((1510 : Int32) + ((12 : Int32) * x2)) + (5 : Int32)) 4400 then False else (bif (!decide ((((qz_im μ 2 0 0 (((1510 : Int32) + ((12 : Int32) * x2)) + (5 : Int32)).toNatClampNeg) >>> ((((qz_im μ 2 0 0 0) / (24 : Int32)) - ((qz_im μ 2 0 0 0) / (24 : Int32)) / (7 : Int32) * (7 : Int32)) &&& 31)) &&& (1 : Int32)) = (1 : Int32))) then (k 1 ([some (.inr (.inr (some (1, 0, 0)))), none, some (.inl (x2 + (1 : Int32)))], [], μ)) else (bif pz_out (((1510 : Int32) + ((12 : Int32) * x2)) + (3 : Int32)) 4400 then False else (bif pz_out (((1510 : Int32) + ((12 : Int32) * x2)) + (6 : Int32)) 4400 then False else (wz_wr (qz_wI μ (2, 0, 0) (((1510 : Int32) + ((12 : Int32) * x2)) + (6 : Int32)).toNatClampNeg (qz_im μ 2 0 0 (((1510 : Int32) + ((12 : Int32) * x2)) + (3 : Int32)).toNatClampNeg)) (fun μ1 => (k 1 ([some (.inr (.inr (some (1, 0, 0)))), none, some (.inl (x2 + (1 : Int32)))], [], μ1)))))))))))) :
    gb_265_2 k R (L, [], μ) := wz_fgd hL h
/- X12 bCome -/
/- X12 bCrates -/

/-! what the methods ask, 15 -/
/- X12 pAt -/
/- X12 pal -/
/- X12 isThere -/
/- X12 bFits -/
/- X12 bLayFilling -/
set_option maxRecDepth 10000 in
set_option maxHeartbeats 200000 in
theorem fw_274  (μ : qz_M) (R : wz_R)
    (h : (wz_loop qb_274_1 65536 (wz_sk gc_274_6 wz_k0 R) R ([some (.inr (.inr (some (1, 0, 0)))), some (.inl (0 : Int32)), none], [], μ))) :
    wz_call qf_274 [.inr (.inr (some (1, 0, 0)))] μ R := wz_mt9 (L := [some (.inr (.inr (some (1, 0, 0)))), none, none]) sw_274 rfl h
set_option maxRecDepth 10000 in
set_option maxHeartbeats 200000 in
theorem fc_274_6  (μ : qz_M) (k : wz_K) (R : wz_R) (L : qz_L) (hL : qz_fg [true, false, false] L = [some (.inr (.inr (some (1, 0, 0)))), none, none])
    (h : (wz_loop qb_274_4 65536 (wz_sk gc_274_5 k R) R ([some (.inr (.inr (some (1, 0, 0)))), some (.inl (0 : Int32)), none], [], μ))) :
    gc_274_6 k R (L, [], μ) := wz_fgd hL h
set_option maxRecDepth 10000 in
set_option maxHeartbeats 200000 in
theorem fb_274_1 (x1 : Int32) (μ : qz_M) (k : wz_K) (R : wz_R) (L : qz_L) (hL : qz_fg [true, true, false] L = [some (.inr (.inr (some (1, 0, 0)))), some (.inl x1), none])
    (h : (bif decide ((qz_im μ 2 0 0 102) ≤ x1) then (k 0 ([some (.inr (.inr (some (1, 0, 0)))), some (.inl x1), none], [], μ)) else (bif pz_out (((200 : Int32) + ((20 : Int32) * x1)) + (10 : Int32)) 4400 then False else (bif decide ((1 : Int32) < (qz_im μ 2 0 0 (((200 : Int32) + ((20 : Int32) * x1)) + (10 : Int32)).toNatClampNeg)) then (bif pz_out x1 48 then False else (wz_wr (qz_wI μ (84, 0, 0) x1.toNatClampNeg (0 : Int32)) (fun μ1 => (k 1 ([some (.inr (.inr (some (1, 0, 0)))), some (.inl (x1 + (1 : Int32))), none], [], μ1))))) else (bif pz_out (((200 : Int32) + ((20 : Int32) * x1)) + (4 : Int32)) 4400 then False else (bif pz_out x1 48 then False else (wz_wr (qz_wI μ (84, 0, 0) x1.toNatClampNeg (qz_im μ 2 0 0 (((200 : Int32) + ((20 : Int32) * x1)) + (4 : Int32)).toNatClampNeg)) (fun μ2 => (k 1 ([some (.inr (.inr (some (1, 0, 0)))), some (.inl (x1 + (1 : Int32))), none], [], μ2)))))))))) :
    gb_274_1 k R (L, [], μ) := wz_fgd hL h
set_option maxRecDepth 10000 in
set_option maxHeartbeats 200000 in
theorem fc_274_5  (μ : qz_M) (k : wz_K) (R : wz_R) (L : qz_L) (hL : qz_fg [false, false, false] L = [none, none, none])
    (h : (R μ (.inl none))) :
    gc_274_5 k R (L, [], μ) := wz_fgd hL h
set_option maxRecDepth 10000 in
set_option maxHeartbeats 200000 in
theorem fb_274_4 (x1 : Int32) (μ : qz_M) (k : wz_K) (R : wz_R) (L : qz_L) (hL : qz_fg [true, true, false] L = [some (.inr (.inr (some (1, 0, 0)))), some (.inl x1), none])
    (h : (bif decide ((qz_im μ 2 0 0 1401) ≤ x1) then (k 0 ([some (.inr (.inr (some (1, 0, 0)))), some (.inl x1), none], [], μ)) else (bif pz_out x1 24 then False else (wz_wr (qz_wI μ (89, 0, 0) x1.toNatClampNeg (0 : Int32)) (fun μ1 => (wz_cI qf_260 [.inr (.inr (some (1, 0, 0))), .inl x1] μ1 (fun μ2 v3 => (bif (!decide (v3 = 0)) then (bif pz_out x1 24 then False else (wz_wr (qz_wI μ2 (90, 0, 0) x1.toNatClampNeg (0 : Int32)) (fun μ4 => (wz_loop qb_274_2 65536 (wz_sk gc_274_3 (wz_kb k) R) R ([some (.inr (.inr (some (1, 0, 0)))), some (.inl x1), some (.inl (0 : Int32))], [], μ4))))) else (bif pz_out x1 24 then False else (wz_wr (qz_wI μ2 (90, 0, 0) x1.toNatClampNeg (1 : Int32)) (fun μ5 => (wz_loop qb_274_2 65536 (wz_sk gc_274_3 (wz_kb k) R) R ([some (.inr (.inr (some (1, 0, 0)))), some (.inl x1), some (.inl (0 : Int32))], [], μ5))))))) (fun μ2 e => (R μ2 (.inr e))))))))) :
    gb_274_4 k R (L, [], μ) := wz_fgd hL h
/- X12 bNextToServe -/
set_option maxRecDepth 10000 in
set_option maxHeartbeats 200000 in
theorem fw_277  (μ : qz_M) (R : wz_R)
    (h : (wz_loop qb_277_1 65536 (wz_sk gc_277_2 wz_k0 R) R ([some (.inr (.inr (some (1, 0, 0)))), some (.inl (-1 : Int32)), some (.inl (0 : Int32))], [], μ))) :
    wz_call qf_277 [.inr (.inr (some (1, 0, 0)))] μ R := wz_mt9 (L := [some (.inr (.inr (some (1, 0, 0)))), none, none]) sw_277 rfl h
set_option maxRecDepth 10000 in
set_option maxHeartbeats 200000 in
theorem fc_277_2 (x1 : Int32) (μ : qz_M) (k : wz_K) (R : wz_R) (L : qz_L) (hL : qz_fg [false, true, false] L = [none, some (.inl x1), none])
    (h : (R μ (.inl (some (.inl x1))))) :
    gc_277_2 k R (L, [], μ) := wz_fgd hL h
set_option maxRecDepth 10000 in
set_option maxHeartbeats 200000 in
theorem fb_277_1 (x1 : Int32) (x2 : Int32) (μ : qz_M) (k : wz_K) (R : wz_R) (L : qz_L) (hL : qz_fg [true, true, true] L = [some (.inr (.inr (some (1, 0, 0)))), some (.inl x1), some (.inl x2)])
    (h : (bif decide ((qz_im μ 2 0 0 1401) ≤ x2) then (k 0 ([some (.inr (.inr (some (1, 0, 0)))), some (.inl x1), some (.inl x2)], [], μ)) else (bif pz_out x2 24 then False else (bif (!decide ((qz_im μ 90 0 0 x2.toNatClampNeg) = 0)) then (k 1 ([some (.inr (.inr (some (1, 0, 0)))), some (.inl x1), some (.inl (x2 + (1 : Int32)))], [], μ)) else (bif decide (x1 = (-1 : Int32)) then (k 1 ([some (.inr (.inr (some (1, 0, 0)))), some (.inl x2), some (.inl (x2 + (1 : Int32)))], [], μ)) else (bif pz_out (((1510 : Int32) + ((12 : Int32) * x2)) + (4 : Int32)) 4400 then False else (bif pz_out (((1510 : Int32) + ((12 : Int32) * x1)) + (4 : Int32)) 4400 then False else (bif decide ((qz_im μ 2 0 0 (((1510 : Int32) + ((12 : Int32) * x2)) + (4 : Int32)).toNatClampNeg) ≤ (qz_im μ 2 0 0 (((1510 : Int32) + ((12 : Int32) * x1)) + (4 : Int32)).toNatClampNeg)) then (k 1 ([some (.inr (.inr (some (1, 0, 0)))), some (.inl x1), some (.inl (x2 + (1 : Int32)))], [], μ)) else (k 1 ([some (.inr (.inr (some (1, 0, 0)))), some (.inl x2), some (.inl (x2 + (1 : Int32)))], [], μ)))))))))) :
    gb_277_1 k R (L, [], μ) := wz_fgd hL h
/- X12 bShifts -/
/- X12 bGetsOne -/
/- X12 bFill -/
set_option maxRecDepth 10000 in
set_option maxHeartbeats 200000 in
theorem fw_268  (μ : qz_M) (R : wz_R)
    (h : (wz_cV qf_274 [.inr (.inr (some (1, 0, 0)))] μ (fun μ1 => (wz_cI qf_277 [.inr (.inr (some (1, 0, 0)))] μ1 (fun μ2 v3 => (wz_loop qb_268_3 65536 (wz_sk gc_268_4 wz_k0 R) R ([some (.inr (.inr (some (1, 0, 0)))), some (.inl v3)], [], μ2))) (fun μ2 e => (R μ2 (.inr e))))) (fun μ1 e => (R μ1 (.inr e))))) :
    wz_call qf_268 [.inr (.inr (some (1, 0, 0)))] μ R := wz_mt9 (L := [some (.inr (.inr (some (1, 0, 0)))), none]) sw_268 rfl h
set_option maxRecDepth 10000 in
set_option maxHeartbeats 200000 in
theorem fc_268_4  (μ : qz_M) (k : wz_K) (R : wz_R) (L : qz_L) (hL : qz_fg [false, false] L = [none, none])
    (h : (R μ (.inl none))) :
    gc_268_4 k R (L, [], μ) := wz_fgd hL h
set_option maxRecDepth 10000 in
set_option maxHeartbeats 200000 in
theorem fb_268_3 (x1 : Int32) (μ : qz_M) (k : wz_K) (R : wz_R) (L : qz_L) (hL : qz_fg [true, true] L = [some (.inr (.inr (some (1, 0, 0)))), some (.inl x1)])
    (h : (bif decide (x1 = (-1 : Int32)) then (k 0 ([some (.inr (.inr (some (1, 0, 0)))), some (.inl x1)], [], μ)) else (bif pz_out x1 24 then False else (wz_wr (qz_wI μ (90, 0, 0) x1.toNatClampNeg (1 : Int32)) (fun μ1 => (wz_loop qb_268_1 65536 (wz_sk gc_268_2 (wz_kb k) R) R ([some (.inr (.inr (some (1, 0, 0)))), some (.inl x1)], [], μ1))))))) :
    gb_268_3 k R (L, [], μ) := wz_fgd hL h
/- X12 bGiven -/
/- X12 bLost -/
-- fw_276 is taken out
/- X12 bOpenBills -/
/- X12 bOrders -/
/- X12 today -/
/- X12 bOverdue -/
/- X12 draw -/
/- X12 xKeep -/
set_option maxRecDepth 10000 in
set_option maxHeartbeats 200000 in
theorem fw_557 (a1 : Int32) (μ : qz_M) (R : wz_R)
    (h : (bif (!decide ((qz_im μ 1 0 0 34) = (8 : Int32))) then (gc_557_5 wz_k0 R ([some (.inr (.inr (some (1, 0, 0)))), some (.inl a1), none], [], μ)) else (wz_loop qb_557_1 65536 (wz_sk gc_557_2 (wz_kb (wz_sk gc_557_5 wz_k0 R)) R) R ([some (.inr (.inr (some (1, 0, 0)))), some (.inl a1), some (.inl (0 : Int32))], [], μ)))) :
    wz_call qf_557 [.inr (.inr (some (1, 0, 0))), .inl a1] μ R := wz_mt9 (L := [some (.inr (.inr (some (1, 0, 0)))), some (.inl a1), none]) sw_557 rfl h
set_option maxRecDepth 10000 in
set_option maxHeartbeats 200000 in
theorem fc_557_5 (x1 : Int32) (μ : qz_M) (k : wz_K) (R : wz_R) (L : qz_L) (hL : qz_fg [true, true, false] L = [some (.inr (.inr (some (1, 0, 0)))), some (.inl x1), none])
    (h : (wz_loop qb_557_3 65536 (wz_sk gc_557_4 k R) R ([some (.inr (.inr (some (1, 0, 0)))), some (.inl x1), some (.inl (0 : Int32))], [], μ))) :
    gc_557_5 k R (L, [], μ) := wz_fgd hL h
-- fb_557_1 is taken out
set_option maxRecDepth 10000 in
set_option maxHeartbeats 200000 in
theorem fc_557_4  (μ : qz_M) (k : wz_K) (R : wz_R) (L : qz_L) (hL : qz_fg [true, false, false] L = [some (.inr (.inr (some (1, 0, 0)))), none, none])
    (h : (wz_wr (qz_wI μ (1, 0, 0) 34 ((qz_im μ 1 0 0 34) + (1 : Int32))) (fun μ1 => (R μ1 (.inl none))))) :
    gc_557_4 k R (L, [], μ) := wz_fgd hL h
set_option maxRecDepth 10000 in
set_option maxHeartbeats 200000 in
theorem fb_557_3 (x1 : Int32) (x2 : Int32) (μ : qz_M) (k : wz_K) (R : wz_R) (L : qz_L) (hL : qz_fg [true, true, true] L = [some (.inr (.inr (some (1, 0, 0)))), some (.inl x1), some (.inl x2)])
    (h : (bif decide ((4400 : Int32) ≤ x2) then (k 0 ([some (.inr (.inr (some (1, 0, 0)))), some (.inl x1), some (.inl x2)], [], μ)) else (bif (!decide (x1 = (-1 : Int32))) then (bif pz_out (((4400 : Int32) * x1) + x2) 8800 then False else (bif pz_out (((qz_im μ 1 0 0 34) * (4400 : Int32)) + x2) 35200 then False else (wz_wr (qz_wI μ (101, 0, 0) (((qz_im μ 1 0 0 34) * (4400 : Int32)) + x2).toNatClampNeg (qz_im μ 81 0 0 (((4400 : Int32) * x1) + x2).toNatClampNeg)) (fun μ1 => (k 1 ([some (.inr (.inr (some (1, 0, 0)))), some (.inl x1), some (.inl (x2 + (1 : Int32)))], [], μ1)))))) else (bif pz_out x2 4400 then False else (bif pz_out (((qz_im μ 1 0 0 34) * (4400 : Int32)) + x2) 35200 then False else (wz_wr (qz_wI μ (101, 0, 0) (((qz_im μ 1 0 0 34) * (4400 : Int32)) + x2).toNatClampNeg (qz_im μ 2 0 0 x2.toNatClampNeg)) (fun μ2 => (k 1 ([some (.inr (.inr (some (1, 0, 0)))), some (.inl x1), some (.inl (x2 + (1 : Int32)))], [], μ2))))))))) :
    gb_557_3 k R (L, [], μ) := wz_fgd hL h
/- X12 xRecord -/
set_option maxRecDepth 10000 in
set_option maxHeartbeats 200000 in
theorem fw_563 (a1 : Int32) (a2 : Int32) (a3 : Int32) (a4 : Int32) (a5 : Int32) (a6 : Int32) (a7 : Int32) (μ : qz_M) (R : wz_R)
    (h : (wz_rk (qz_rm μ 1 0 0 36) (fun r1 => (bif pz_arr (qz_tag μ r1) then (bif decide ((((7 : Int32) * (qz_im μ 1 0 0 37)) + (7 : Int32)) ≤ (Int32.ofNat (qz_len μ r1))) then (wz_rk (qz_rm μ 1 0 0 36) (fun r2 => (bif Nat.beq (qz_tag μ r2) 50 then (bif pz_out ((7 : Int32) * (qz_im μ 1 0 0 37)) (qz_len μ r2) then False else (wz_wr (qz_wI μ r2 ((7 : Int32) * (qz_im μ 1 0 0 37)).toNatClampNeg a1) (fun μ3 => (wz_rk (qz_rm μ3 1 0 0 36) (fun r4 => (bif Nat.beq (qz_tag μ3 r4) 50 then (bif pz_out (((7 : Int32) * (qz_im μ 1 0 0 37)) + (1 : Int32)) (qz_len μ3 r4) then False else (wz_wr (qz_wI μ3 r4 (((7 : Int32) * (qz_im μ 1 0 0 37)) + (1 : Int32)).toNatClampNeg a2) (fun μ5 => (wz_rk (qz_rm μ5 1 0 0 36) (fun r6 => (bif Nat.beq (qz_tag μ5 r6) 50 then (bif pz_out (((7 : Int32) * (qz_im μ 1 0 0 37)) + (2 : Int32)) (qz_len μ5 r6) then False else (wz_wr (qz_wI μ5 r6 (((7 : Int32) * (qz_im μ 1 0 0 37)) + (2 : Int32)).toNatClampNeg a3) (fun μ7 => (wz_rk (qz_rm μ7 1 0 0 36) (fun r8 => (bif Nat.beq (qz_tag μ7 r8) 50 then (bif pz_out (((7 : Int32) * (qz_im μ 1 0 0 37)) + (3 : Int32)) (qz_len μ7 r8) then False else (wz_wr (qz_wI μ7 r8 (((7 : Int32) * (qz_im μ 1 0 0 37)) + (3 : Int32)).toNatClampNeg a4) (fun μ9 => (wz_rk (qz_rm μ9 1 0 0 36) (fun r10 => (bif Nat.beq (qz_tag μ9 r10) 50 then (bif pz_out (((7 : Int32) * (qz_im μ 1 0 0 37)) + (4 : Int32)) (qz_len μ9 r10) then False else (wz_wr (qz_wI μ9 r10 (((7 : Int32) * (qz_im μ 1 0 0 37)) + (4 : Int32)).toNatClampNeg a5) (fun μ11 => (wz_rk (qz_rm μ11 1 0 0 36) (fun r12 => (bif Nat.beq (qz_tag μ11 r12) 50 then (bif pz_out (((7 : Int32) * (qz_im μ 1 0 0 37)) + (5 : Int32)) (qz_len μ11 r12) then False else (wz_wr (qz_wI μ11 r12 (((7 : Int32) * (qz_im μ 1 0 0 37)) + (5 : Int32)).toNatClampNeg a6) (fun μ13 => (wz_rk (qz_rm μ13 1 0 0 36) (fun r14 => (bif Nat.beq (qz_tag μ13 r14) 50 then (bif pz_out (((7 : Int32) * (qz_im μ 1 0 0 37)) + (6 : Int32)) (qz_len μ13 r14) then False else (wz_wr (qz_wI μ13 r14 (((7 : Int32) * (qz_im μ 1 0 0 37)) + (6 : Int32)).toNatClampNeg a7) (fun μ15 => (wz_wr (qz_wI μ15 (1, 0, 0) 37 ((qz_im μ15 1 0 0 37) + (1 : Int32))) (fun μ16 => (R μ16 (.inl none))))))) else False)))))) else False)))))) else False)))))) else False)))))) else False)))))) else False)))))) else False))) else (wz_rk (qz_rm μ 1 0 0 36) (fun r17 => (wz_rk (qz_rm μ 1 0 0 36) (fun r18 => (bif pz_arr (qz_tag μ r18) then (wz_cR qf_565 [.inr (.inr (some r17)), .inl ((7 : Int32) * (qz_im μ 1 0 0 37)), .inl ((2 : Int32) * (Int32.ofNat (qz_len μ r18)))] μ (fun μ19 v20 => (wz_wr (qz_wR μ19 (1, 0, 0) 36 (some v20)) (fun μ21 => (wz_rk (qz_rm μ21 1 0 0 36) (fun r22 => (bif Nat.beq (qz_tag μ21 r22) 50 then (bif pz_out ((7 : Int32) * (qz_im μ 1 0 0 37)) (qz_len μ21 r22) then False else (wz_wr (qz_wI μ21 r22 ((7 : Int32) * (qz_im μ 1 0 0 37)).toNatClampNeg a1) (fun μ23 => (wz_rk (qz_rm μ23 1 0 0 36) (fun r24 => (bif Nat.beq (qz_tag μ23 r24) 50 then (bif pz_out (((7 : Int32) * (qz_im μ 1 0 0 37)) + (1 : Int32)) (qz_len μ23 r24) then False else (wz_wr (qz_wI μ23 r24 (((7 : Int32) * (qz_im μ 1 0 0 37)) + (1 : Int32)).toNatClampNeg a2) (fun μ25 => (wz_rk (qz_rm μ25 1 0 0 36) (fun r26 => (bif Nat.beq (qz_tag μ25 r26) 50 then (bif pz_out (((7 : Int32) * (qz_im μ 1 0 0 37)) + (2 : Int32)) (qz_len μ25 r26) then False else (wz_wr (qz_wI μ25 r26 (((7 : Int32) * (qz_im μ 1 0 0 37)) + (2 : Int32)).toNatClampNeg a3) (fun μ27 => (wz_rk (qz_rm μ27 1 0 0 36) (fun r28 => (bif Nat.beq (qz_tag μ27 r28) 50 then (bif pz_out (((7 : Int32) * (qz_im μ 1 0 0 37)) + (3 : Int32)) (qz_len μ27 r28) then False else (wz_wr (qz_wI μ27 r28 (((7 : Int32) * (qz_im μ 1 0 0 37)) + (3 : Int32)).toNatClampNeg a4) (fun μ29 => (wz_rk (qz_rm μ29 1 0 0 36) (fun r30 => (bif Nat.beq (qz_tag μ29 r30) 50 then (bif pz_out (((7 : Int32) * (qz_im μ 1 0 0 37)) + (4 : Int32)) (qz_len μ29 r30) then False else (wz_wr (qz_wI μ29 r30 (((7 : Int32) * (qz_im μ 1 0 0 37)) + (4 : Int32)).toNatClampNeg a5) (fun μ31 => (wz_rk (qz_rm μ31 1 0 0 36) (fun r32 => (bif Nat.beq (qz_tag μ31 r32) 50 then (bif pz_out (((7 : Int32) * (qz_im μ 1 0 0 37)) + (5 : Int32)) (qz_len μ31 r32) then False else (wz_wr (qz_wI μ31 r32 (((7 : Int32) * (qz_im μ 1 0 0 37)) + (5 : Int32)).toNatClampNeg a6) (fun μ33 => (wz_rk (qz_rm μ33 1 0 0 36) (fun r34 => (bif Nat.beq (qz_tag μ33 r34) 50 then (bif pz_out (((7 : Int32) * (qz_im μ 1 0 0 37)) + (6 : Int32)) (qz_len μ33 r34) then False else (wz_wr (qz_wI μ33 r34 (((7 : Int32) * (qz_im μ 1 0 0 37)) + (6 : Int32)).toNatClampNeg a7) (fun μ35 => (wz_wr (qz_wI μ35 (1, 0, 0) 37 ((qz_im μ35 1 0 0 37) + (1 : Int32))) (fun μ36 => (R μ36 (.inl none))))))) else False)))))) else False)))))) else False)))))) else False)))))) else False)))))) else False)))))) else False)))))) (fun μ19 e => (R μ19 (.inr e)))) else False)))))) else False)))) :
    wz_call qf_563 [.inr (.inr (some (1, 0, 0))), .inl a1, .inl a2, .inl a3, .inl a4, .inl a5, .inl a6, .inl a7] μ R := wz_mt9 (L := [some (.inr (.inr (some (1, 0, 0)))), some (.inl a1), some (.inl a2), some (.inl a3), some (.inl a4), some (.inl a5), some (.inl a6), some (.inl a7), none]) sw_563 rfl h
/- X12 deed -/
/- X12 buyer -/
set_option maxRecDepth 10000 in
set_option maxHeartbeats 200000 in
theorem fw_295 (a1 : Int32) (a2 : Int32) (a3 : Int32) (μ : qz_M) (R : wz_R)
    (h : (bif decide (a1 < (0 : Int32)) then (wz_wr (qz_wI μ (1, 0, 0) 2 (1 : Int32)) (fun μ1 => (R μ1 (.inl (some (.inl (0 : Int32))))))) else (bif decide ((4 : Int32) < a1) then (wz_wr (qz_wI μ (1, 0, 0) 2 (1 : Int32)) (fun μ2 => (R μ2 (.inl (some (.inl (0 : Int32))))))) else (wz_wr (qz_wI μ (1, 0, 0) 2 (0 : Int32)) (fun μ3 => (bif decide (a2 < (0 : Int32)) then (wz_wr (qz_wI μ3 (1, 0, 0) 2 (2 : Int32)) (fun μ4 => (R μ4 (.inl (some (.inl (0 : Int32))))))) else (bif decide ((9999999 : Int32) < a2) then (wz_wr (qz_wI μ3 (1, 0, 0) 2 (2 : Int32)) (fun μ5 => (R μ5 (.inl (some (.inl (0 : Int32))))))) else (bif decide (a3 < (0 : Int32)) then (wz_wr (qz_wI μ3 (1, 0, 0) 2 (2 : Int32)) (fun μ6 => (R μ6 (.inl (some (.inl (0 : Int32))))))) else (bif decide ((14 : Int32) < a3) then (wz_wr (qz_wI μ3 (1, 0, 0) 2 (2 : Int32)) (fun μ7 => (R μ7 (.inl (some (.inl (0 : Int32))))))) else (wz_wr (qz_wI μ3 (1, 0, 0) 2 (0 : Int32)) (fun μ8 => (bif decide ((8 : Int32) ≤ (qz_im μ8 2 0 0 1400)) then (wz_wr (qz_wI μ8 (1, 0, 0) 2 (3 : Int32)) (fun μ9 => (R μ9 (.inl (some (.inl (0 : Int32))))))) else (wz_wr (qz_wI μ8 (1, 0, 0) 2 (0 : Int32)) (fun μ10 => (bif (!decide ((qz_im μ10 1 0 0 35) = 0)) then (bif pz_out (((1410 : Int32) + ((12 : Int32) * (qz_im μ10 2 0 0 1400))) + (0 : Int32)) 4400 then False else (wz_wr (qz_wI μ10 (2, 0, 0) (((1410 : Int32) + ((12 : Int32) * (qz_im μ10 2 0 0 1400))) + (0 : Int32)).toNatClampNeg a1) (fun μ11 => (bif pz_out (((1410 : Int32) + ((12 : Int32) * (qz_im μ10 2 0 0 1400))) + (1 : Int32)) 4400 then False else (wz_wr (qz_wI μ11 (2, 0, 0) (((1410 : Int32) + ((12 : Int32) * (qz_im μ10 2 0 0 1400))) + (1 : Int32)).toNatClampNeg a2) (fun μ12 => (bif pz_out (((1410 : Int32) + ((12 : Int32) * (qz_im μ10 2 0 0 1400))) + (2 : Int32)) 4400 then False else (wz_wr (qz_wI μ12 (2, 0, 0) (((1410 : Int32) + ((12 : Int32) * (qz_im μ10 2 0 0 1400))) + (2 : Int32)).toNatClampNeg a3) (fun μ13 => (wz_wr (qz_wI μ13 (2, 0, 0) 1400 ((qz_im μ13 2 0 0 1400) + (1 : Int32))) (fun μ14 => (R μ14 (.inl (some (.inl (qz_im μ10 2 0 0 1400)))))))))))))))) else (wz_cV qf_557 [.inr (.inr (some (1, 0, 0))), .inl (-1 : Int32)] μ10 (fun μ15 => (wz_cV qf_563 [.inr (.inr (some (1, 0, 0))), .inl (11 : Int32), .inl a1, .inl a2, .inl a3, .inl (0 : Int32), .inl (0 : Int32), .inl (0 : Int32)] μ15 (fun μ16 => (bif pz_out (((1410 : Int32) + ((12 : Int32) * (qz_im μ16 2 0 0 1400))) + (0 : Int32)) 4400 then False else (wz_wr (qz_wI μ16 (2, 0, 0) (((1410 : Int32) + ((12 : Int32) * (qz_im μ16 2 0 0 1400))) + (0 : Int32)).toNatClampNeg a1) (fun μ17 => (bif pz_out (((1410 : Int32) + ((12 : Int32) * (qz_im μ16 2 0 0 1400))) + (1 : Int32)) 4400 then False else (wz_wr (qz_wI μ17 (2, 0, 0) (((1410 : Int32) + ((12 : Int32) * (qz_im μ16 2 0 0 1400))) + (1 : Int32)).toNatClampNeg a2) (fun μ18 => (bif pz_out (((1410 : Int32) + ((12 : Int32) * (qz_im μ16 2 0 0 1400))) + (2 : Int32)) 4400 then False else (wz_wr (qz_wI μ18 (2, 0, 0) (((1410 : Int32) + ((12 : Int32) * (qz_im μ16 2 0 0 1400))) + (2 : Int32)).toNatClampNeg a3) (fun μ19 => (wz_wr (qz_wI μ19 (2, 0, 0) 1400 ((qz_im μ19 2 0 0 1400) + (1 : Int32))) (fun μ20 => (R μ20 (.inl (some (.inl (qz_im μ16 2 0 0 1400))))))))))))))))) (fun μ16 e => (R μ16 (.inr e))))) (fun μ15 e => (R μ15 (.inr e))))))))))))))))))) :
    wz_call qf_295 [.inr (.inr (some (1, 0, 0))), .inl a1, .inl a2, .inl a3] μ R := wz_mt9 (L := [some (.inr (.inr (some (1, 0, 0)))), some (.inl a1), some (.inl a2), some (.inl a3), none]) sw_295 rfl h
/- X12 isBuyer -/
/- X12 order -/
-- fw_441 is taken out
/-! what the methods ask, 16 -/
/- X12 bSeason -/
set_option maxRecDepth 10000 in
set_option maxHeartbeats 200000 in
theorem fw_282 (a1 : Int32) (μ : qz_M) (R : wz_R)
    (h : (bif decide (((2 : Int32) * a1) ≤ (8 : Int32)) then (wz_loop qb_282_1 65536 (wz_sk gc_282_4 wz_k0 R) R ([some (.inr (.inr (some (1, 0, 0)))), some (.inl a1), some (.inl ((2 : Int32) * a1)), some (.inl (0 : Int32)), none, none, none, none, none, none], [], μ)) else (wz_loop qb_282_1 65536 (wz_sk gc_282_4 wz_k0 R) R ([some (.inr (.inr (some (1, 0, 0)))), some (.inl a1), some (.inl (8 : Int32)), some (.inl (0 : Int32)), none, none, none, none, none, none], [], μ)))) :
    wz_call qf_282 [.inr (.inr (some (1, 0, 0))), .inl a1] μ R := wz_mt9 (L := [some (.inr (.inr (some (1, 0, 0)))), some (.inl a1), none, none, none, none, none, none, none, none]) sw_282 rfl h
set_option maxRecDepth 10000 in
set_option maxHeartbeats 200000 in
theorem fc_282_4 (x1 : Int32) (μ : qz_M) (k : wz_K) (R : wz_R) (L : qz_L) (hL : qz_fg [true, true, false, false, false, false, false, false, false, false] L = [some (.inr (.inr (some (1, 0, 0)))), some (.inl x1), none, none, none, none, none, none, none, none])
    (h : (bif decide (((4 : Int32) * x1) ≤ (24 : Int32)) then (wz_loop qb_282_2 65536 (wz_sk gc_282_3 k R) R ([some (.inr (.inr (some (1, 0, 0)))), some (.inl x1), none, some (.inl ((4 : Int32) * x1)), some (.inl (0 : Int32)), none, none, none, none, none], [], μ)) else (wz_loop qb_282_2 65536 (wz_sk gc_282_3 k R) R ([some (.inr (.inr (some (1, 0, 0)))), some (.inl x1), none, some (.inl (24 : Int32)), some (.inl (0 : Int32)), none, none, none, none, none], [], μ)))) :
    gc_282_4 k R (L, [], μ) := wz_fgd hL h
set_option maxRecDepth 10000 in
set_option maxHeartbeats 200000 in
theorem fb_282_1 (x1 : Int32) (x2 : Int32) (x3 : Int32) (μ : qz_M) (k : wz_K) (R : wz_R) (L : qz_L) (hL : qz_fg [true, true, true, true, false, false, false, false, false, false] L = [some (.inr (.inr (some (1, 0, 0)))), some (.inl x1), some (.inl x2), some (.inl x3), none, none, none, none, none, none])
    (h : (bif decide (x2 ≤ x3) then (k 0 ([some (.inr (.inr (some (1, 0, 0)))), some (.inl x1), some (.inl x2), some (.inl x3), none, none, none, none, none, none], [], μ)) else (wz_wr (qz_wI μ (1, 0, 0) 3 ((((25173 : Int32) * (qz_im μ 1 0 0 3)) + (13849 : Int32)) - (((25173 : Int32) * (qz_im μ 1 0 0 3)) + (13849 : Int32)) / (65536 : Int32) * (65536 : Int32))) (fun μ1 => (wz_wr (qz_wI μ1 (1, 0, 0) 3 ((((25173 : Int32) * (qz_im μ1 1 0 0 3)) + (13849 : Int32)) - (((25173 : Int32) * (qz_im μ1 1 0 0 3)) + (13849 : Int32)) / (65536 : Int32) * (65536 : Int32))) (fun μ2 => (wz_wr (qz_wI μ2 (1, 0, 0) 3 ((((25173 : Int32) * (qz_im μ2 1 0 0 3)) + (13849 : Int32)) - (((25173 : Int32) * (qz_im μ2 1 0 0 3)) + (13849 : Int32)) / (65536 : Int32) * (65536 : Int32))) (fun μ3 => (wz_cI qf_295 [.inr (.inr (some (1, 0, 0))), .inl (((qz_im μ1 1 0 0 3) / (16 : Int32)) - ((qz_im μ1 1 0 0 3) / (16 : Int32)) / (5 : Int32) * (5 : Int32)), .inl ((100000 : Int32) * ((1 : Int32) + (((qz_im μ2 1 0 0 3) / (16 : Int32)) - ((qz_im μ2 1 0 0 3) / (16 : Int32)) / (40 : Int32) * (40 : Int32)))), .inl (((qz_im μ3 1 0 0 3) / (16 : Int32)) - ((qz_im μ3 1 0 0 3) / (16 : Int32)) / (8 : Int32) * (8 : Int32))] μ3 (fun μ4 v5 => (k 1 ([some (.inr (.inr (some (1, 0, 0)))), some (.inl x1), some (.inl x2), some (.inl (x3 + (1 : Int32))), some (.inl (((qz_im μ1 1 0 0 3) / (16 : Int32)) - ((qz_im μ1 1 0 0 3) / (16 : Int32)) / (5 : Int32) * (5 : Int32))), some (.inl ((100000 : Int32) * ((1 : Int32) + (((qz_im μ2 1 0 0 3) / (16 : Int32)) - ((qz_im μ2 1 0 0 3) / (16 : Int32)) / (40 : Int32) * (40 : Int32))))), none, none, none, none], [], μ4))) (fun μ4 e => (R μ4 (.inr e)))))))))))) :
    gb_282_1 k R (L, [], μ) := wz_fgd hL h
set_option maxRecDepth 10000 in
set_option maxHeartbeats 200000 in
theorem fc_282_3  (μ : qz_M) (k : wz_K) (R : wz_R) (L : qz_L) (hL : qz_fg [false, false, false, false, false, false, false, false, false, false] L = [none, none, none, none, none, none, none, none, none, none])
    (h : (R μ (.inl none))) :
    gc_282_3 k R (L, [], μ) := wz_fgd hL h
set_option maxRecDepth 10000 in
set_option maxHeartbeats 200000 in
theorem fb_282_2 (x3 : Int32) (x4 : Int32) (μ : qz_M) (k : wz_K) (R : wz_R) (L : qz_L) (hL : qz_fg [true, false, false, true, true, false, false, false, false, false] L = [some (.inr (.inr (some (1, 0, 0)))), none, none, some (.inl x3), some (.inl x4), none, none, none, none, none])
    (h : (bif decide (x3 ≤ x4) then (k 0 ([some (.inr (.inr (some (1, 0, 0)))), none, none, some (.inl x3), some (.inl x4), none, none, none, none, none], [], μ)) else (wz_wr (qz_wI μ (1, 0, 0) 3 ((((25173 : Int32) * (qz_im μ 1 0 0 3)) + (13849 : Int32)) - (((25173 : Int32) * (qz_im μ 1 0 0 3)) + (13849 : Int32)) / (65536 : Int32) * (65536 : Int32))) (fun μ1 => (bif decide ((qz_im μ 2 0 0 1400) = 0) then False else (wz_wr (qz_wI μ1 (1, 0, 0) 3 ((((25173 : Int32) * (qz_im μ1 1 0 0 3)) + (13849 : Int32)) - (((25173 : Int32) * (qz_im μ1 1 0 0 3)) + (13849 : Int32)) / (65536 : Int32) * (65536 : Int32))) (fun μ2 => (bif decide ((qz_im μ1 2 0 0 100) = 0) then False else (wz_wr (qz_wI μ2 (1, 0, 0) 3 ((((25173 : Int32) * (qz_im μ2 1 0 0 3)) + (13849 : Int32)) - (((25173 : Int32) * (qz_im μ2 1 0 0 3)) + (13849 : Int32)) / (65536 : Int32) * (65536 : Int32))) (fun μ3 => (wz_wr (qz_wI μ3 (1, 0, 0) 3 ((((25173 : Int32) * (qz_im μ3 1 0 0 3)) + (13849 : Int32)) - (((25173 : Int32) * (qz_im μ3 1 0 0 3)) + (13849 : Int32)) / (65536 : Int32) * (65536 : Int32))) (fun μ4 => (wz_wr (qz_wI μ4 (1, 0, 0) 3 ((((25173 : Int32) * (qz_im μ4 1 0 0 3)) + (13849 : Int32)) - (((25173 : Int32) * (qz_im μ4 1 0 0 3)) + (13849 : Int32)) / (65536 : Int32) * (65536 : Int32))) (fun μ5 => (wz_wr (qz_wI μ5 (1, 0, 0) 3 ((((25173 : Int32) * (qz_im μ5 1 0 0 3)) + (13849 : Int32)) - (((25173 : Int32) * (qz_im μ5 1 0 0 3)) + (13849 : Int32)) / (65536 : Int32) * (65536 : Int32))) (fun μ6 => (wz_cI qf_441 [.inr (.inr (some (1, 0, 0))), .inl (((qz_im μ1 1 0 0 3) / (16 : Int32)) - ((qz_im μ1 1 0 0 3) / (16 : Int32)) / (qz_im μ 2 0 0 1400) * (qz_im μ 2 0 0 1400)), .inl (((qz_im μ2 1 0 0 3) / (16 : Int32)) - ((qz_im μ2 1 0 0 3) / (16 : Int32)) / (qz_im μ1 2 0 0 100) * (qz_im μ1 2 0 0 100)), .inl (((qz_im μ3 1 0 0 3) / (16 : Int32)) - ((qz_im μ3 1 0 0 3) / (16 : Int32)) / (4 : Int32) * (4 : Int32)), .inl ((1 : Int32) + (((qz_im μ4 1 0 0 3) / (16 : Int32)) - ((qz_im μ4 1 0 0 3) / (16 : Int32)) / (40 : Int32) * (40 : Int32))), .inl ((100 : Int32) + (((qz_im μ5 1 0 0 3) / (16 : Int32)) - ((qz_im μ5 1 0 0 3) / (16 : Int32)) / (900 : Int32) * (900 : Int32))), .inl ((1 : Int32) + (((qz_im μ6 1 0 0 3) / (16 : Int32)) - ((qz_im μ6 1 0 0 3) / (16 : Int32)) / (127 : Int32) * (127 : Int32)))] μ6 (fun μ7 v8 => (k 1 ([some (.inr (.inr (some (1, 0, 0)))), none, none, some (.inl x3), some (.inl (x4 + (1 : Int32))), some (.inl (((qz_im μ1 1 0 0 3) / (16 : Int32)) - ((qz_im μ1 1 0 0 3) / (16 : Int32)) / (qz_im μ 2 0 0 1400) * (qz_im μ 2 0 0 1400))), some (.inl (((qz_im μ2 1 0 0 3) / (16 : Int32)) - ((qz_im μ2 1 0 0 3) / (16 : Int32)) / (qz_im μ1 2 0 0 100) * (qz_im μ1 2 0 0 100))), some (.inl (((qz_im μ3 1 0 0 3) / (16 : Int32)) - ((qz_im μ3 1 0 0 3) / (16 : Int32)) / (4 : Int32) * (4 : Int32))), some (.inl ((1 : Int32) + (((qz_im μ4 1 0 0 3) / (16 : Int32)) - ((qz_im μ4 1 0 0 3) / (16 : Int32)) / (40 : Int32) * (40 : Int32)))), some (.inl ((100 : Int32) + (((qz_im μ5 1 0 0 3) / (16 : Int32)) - ((qz_im μ5 1 0 0 3) / (16 : Int32)) / (900 : Int32) * (900 : Int32))))], [], μ7))) (fun μ7 e => (R μ7 (.inr e)))))))))))))))))))) :
    gb_282_2 k R (L, [], μ) := wz_fgd hL h
/- X12 bSold -/
/- X12 bSound -/
set_option maxRecDepth 10000 in
set_option maxHeartbeats 200000 in
theorem fw_285  (μ : qz_M) (R : wz_R)
    (h : (wz_loop qb_285_1 65536 (wz_sk gc_285_6 wz_k0 R) R ([some (.inr (.inr (some (1, 0, 0)))), some (.inl (1 : Int32)), some (.inl (0 : Int32))], [], μ))) :
    wz_call qf_285 [.inr (.inr (some (1, 0, 0)))] μ R := wz_mt9 (L := [some (.inr (.inr (some (1, 0, 0)))), none, none]) sw_285 rfl h
set_option maxRecDepth 10000 in
set_option maxHeartbeats 200000 in
theorem fc_285_6 (x1 : Int32) (μ : qz_M) (k : wz_K) (R : wz_R) (L : qz_L) (hL : qz_fg [true, true, false] L = [some (.inr (.inr (some (1, 0, 0)))), some (.inl x1), none])
    (h : (wz_loop qb_285_2 65536 (wz_sk gc_285_5 k R) R ([some (.inr (.inr (some (1, 0, 0)))), some (.inl x1), some (.inl (0 : Int32))], [], μ))) :
    gc_285_6 k R (L, [], μ) := wz_fgd hL h
set_option maxRecDepth 10000 in
set_option maxHeartbeats 200000 in
theorem fb_285_1 (x1 : Int32) (x2 : Int32) (μ : qz_M) (k : wz_K) (R : wz_R) (L : qz_L) (hL : qz_fg [true, true, true] L = [some (.inr (.inr (some (1, 0, 0)))), some (.inl x1), some (.inl x2)])
    (h : (bif decide ((qz_im μ 2 0 0 1400) ≤ x2) then (k 0 ([some (.inr (.inr (some (1, 0, 0)))), some (.inl x1), some (.inl x2)], [], μ)) else (bif decide (x1 = 0) then (k 1 ([some (.inr (.inr (some (1, 0, 0)))), some (.inl (0 : Int32)), some (.inl (x2 + (1 : Int32)))], [], μ)) else (wz_cI qf_264 [.inr (.inr (some (1, 0, 0))), .inl x2] μ (fun μ1 v2 => (bif decide (v2 = 0) then (k 1 ([some (.inr (.inr (some (1, 0, 0)))), some (.inl (0 : Int32)), some (.inl (x2 + (1 : Int32)))], [], μ1)) else (k 1 ([some (.inr (.inr (some (1, 0, 0)))), some (.inl (1 : Int32)), some (.inl (x2 + (1 : Int32)))], [], μ1)))) (fun μ1 e => (R μ1 (.inr e))))))) :
    gb_285_1 k R (L, [], μ) := wz_fgd hL h
set_option maxRecDepth 10000 in
set_option maxHeartbeats 200000 in
theorem fc_285_5 (x1 : Int32) (μ : qz_M) (k : wz_K) (R : wz_R) (L : qz_L) (hL : qz_fg [true, true, false] L = [some (.inr (.inr (some (1, 0, 0)))), some (.inl x1), none])
    (h : (wz_loop qb_285_3 65536 (wz_sk gc_285_4 k R) R ([some (.inr (.inr (some (1, 0, 0)))), some (.inl x1), some (.inl (0 : Int32))], [], μ))) :
    gc_285_5 k R (L, [], μ) := wz_fgd hL h
set_option maxRecDepth 10000 in
set_option maxHeartbeats 200000 in
theorem fb_285_2 (x1 : Int32) (x2 : Int32) (μ : qz_M) (k : wz_K) (R : wz_R) (L : qz_L) (hL : qz_fg [true, true, true] L = [some (.inr (.inr (some (1, 0, 0)))), some (.inl x1), some (.inl x2)])
    (h : (bif decide ((qz_im μ 2 0 0 2000) ≤ x2) then (k 0 ([some (.inr (.inr (some (1, 0, 0)))), some (.inl x1), some (.inl x2)], [], μ)) else (bif decide (x1 = 0) then (k 1 ([some (.inr (.inr (some (1, 0, 0)))), some (.inl (0 : Int32)), some (.inl (x2 + (1 : Int32)))], [], μ)) else (bif pz_out ((1810 : Int32) + ((2 : Int32) * x2)) 4400 then False else (bif pz_out (((2010 : Int32) + ((16 : Int32) * x2)) + (9 : Int32)) 4400 then False else (bif (!decide ((qz_im μ 2 0 0 (((2010 : Int32) + ((16 : Int32) * x2)) + (9 : Int32)).toNatClampNeg) = (3 : Int32))) then (bif pz_out (((2010 : Int32) + ((16 : Int32) * x2)) + (3 : Int32)) 4400 then False else (bif pz_out (((2010 : Int32) + ((16 : Int32) * x2)) + (5 : Int32)) 4400 then False else (bif decide ((qz_im μ 2 0 0 ((1810 : Int32) + ((2 : Int32) * x2)).toNatClampNeg) < (0 : Int32)) then (k 1 ([some (.inr (.inr (some (1, 0, 0)))), some (.inl (0 : Int32)), some (.inl (x2 + (1 : Int32)))], [], μ)) else (bif decide (((qz_im μ 2 0 0 (((2010 : Int32) + ((16 : Int32) * x2)) + (3 : Int32)).toNatClampNeg) * (qz_im μ 2 0 0 (((2010 : Int32) + ((16 : Int32) * x2)) + (5 : Int32)).toNatClampNeg)) < (qz_im μ 2 0 0 ((1810 : Int32) + ((2 : Int32) * x2)).toNatClampNeg)) then (k 1 ([some (.inr (.inr (some (1, 0, 0)))), some (.inl (0 : Int32)), some (.inl (x2 + (1 : Int32)))], [], μ)) else (k 1 ([some (.inr (.inr (some (1, 0, 0)))), some (.inl (1 : Int32)), some (.inl (x2 + (1 : Int32)))], [], μ)))))) else (bif decide ((qz_im μ 2 0 0 ((1810 : Int32) + ((2 : Int32) * x2)).toNatClampNeg) < (0 : Int32)) then (k 1 ([some (.inr (.inr (some (1, 0, 0)))), some (.inl (0 : Int32)), some (.inl (x2 + (1 : Int32)))], [], μ)) else (bif decide ((0 : Int32) < (qz_im μ 2 0 0 ((1810 : Int32) + ((2 : Int32) * x2)).toNatClampNeg)) then (k 1 ([some (.inr (.inr (some (1, 0, 0)))), some (.inl (0 : Int32)), some (.inl (x2 + (1 : Int32)))], [], μ)) else (k 1 ([some (.inr (.inr (some (1, 0, 0)))), some (.inl (1 : Int32)), some (.inl (x2 + (1 : Int32)))], [], μ)))))))))) :
    gb_285_2 k R (L, [], μ) := wz_fgd hL h
set_option maxRecDepth 10000 in
set_option maxHeartbeats 200000 in
theorem fc_285_4 (x1 : Int32) (μ : qz_M) (k : wz_K) (R : wz_R) (L : qz_L) (hL : qz_fg [false, true, false] L = [none, some (.inl x1), none])
    (h : (bif decide (x1 = 0) || decide (x1 = 1) then (R μ (.inl (some (.inl x1)))) else False)) :
    gc_285_4 k R (L, [], μ) := wz_fgd hL h
set_option maxRecDepth 10000 in
set_option maxHeartbeats 200000 in
theorem fb_285_3 (x1 : Int32) (x2 : Int32) (μ : qz_M) (k : wz_K) (R : wz_R) (L : qz_L) (hL : qz_fg [true, true, true] L = [some (.inr (.inr (some (1, 0, 0)))), some (.inl x1), some (.inl x2)])
    (h : (bif decide ((qz_im μ 2 0 0 1401) ≤ x2) then (k 0 ([some (.inr (.inr (some (1, 0, 0)))), some (.inl x1), some (.inl x2)], [], μ)) else (bif decide (x1 = 0) then (k 1 ([some (.inr (.inr (some (1, 0, 0)))), some (.inl (0 : Int32)), some (.inl (x2 + (1 : Int32)))], [], μ)) else (bif pz_out (((1510 : Int32) + ((12 : Int32) * x2)) + (6 : Int32)) 4400 then False else (bif pz_out (((1510 : Int32) + ((12 : Int32) * x2)) + (7 : Int32)) 4400 then False else (bif (!decide ((qz_im μ 2 0 0 (((1510 : Int32) + ((12 : Int32) * x2)) + (7 : Int32)).toNatClampNeg) = (1 : Int32))) then (bif pz_out (((1510 : Int32) + ((12 : Int32) * x2)) + (3 : Int32)) 4400 then False else (bif decide ((qz_im μ 2 0 0 (((1510 : Int32) + ((12 : Int32) * x2)) + (6 : Int32)).toNatClampNeg) < (0 : Int32)) then (k 1 ([some (.inr (.inr (some (1, 0, 0)))), some (.inl (0 : Int32)), some (.inl (x2 + (1 : Int32)))], [], μ)) else (bif decide ((qz_im μ 2 0 0 (((1510 : Int32) + ((12 : Int32) * x2)) + (3 : Int32)).toNatClampNeg) < (qz_im μ 2 0 0 (((1510 : Int32) + ((12 : Int32) * x2)) + (6 : Int32)).toNatClampNeg)) then (k 1 ([some (.inr (.inr (some (1, 0, 0)))), some (.inl (0 : Int32)), some (.inl (x2 + (1 : Int32)))], [], μ)) else (k 1 ([some (.inr (.inr (some (1, 0, 0)))), some (.inl (1 : Int32)), some (.inl (x2 + (1 : Int32)))], [], μ))))) else (bif decide ((qz_im μ 2 0 0 (((1510 : Int32) + ((12 : Int32) * x2)) + (6 : Int32)).toNatClampNeg) < (0 : Int32)) then (k 1 ([some (.inr (.inr (some (1, 0, 0)))), some (.inl (0 : Int32)), some (.inl (x2 + (1 : Int32)))], [], μ)) else (bif decide ((0 : Int32) < (qz_im μ 2 0 0 (((1510 : Int32) + ((12 : Int32) * x2)) + (6 : Int32)).toNatClampNeg)) then (k 1 ([some (.inr (.inr (some (1, 0, 0)))), some (.inl (0 : Int32)), some (.inl (x2 + (1 : Int32)))], [], μ)) else (k 1 ([some (.inr (.inr (some (1, 0, 0)))), some (.inl (1 : Int32)), some (.inl (x2 + (1 : Int32)))], [], μ)))))))))) :
    gb_285_3 k R (L, [], μ) := wz_fgd hL h
/- X12 bTaker -/
/- X12 bTakes -/
/- X12 bTown -/
/- X12 dBegin -/
/- X12 rBegin -/
set_option maxRecDepth 10000 in
set_option maxHeartbeats 200000 in
theorem fw_462  (μ : qz_M) (R : wz_R)
    (h : (wz_loop qb_462_1 65536 (wz_sk gc_462_2 wz_k0 R) R ([some (.inr (.inr (some (1, 0, 0)))), some (.inl (0 : Int32))], [], μ))) :
    wz_call qf_462 [.inr (.inr (some (1, 0, 0)))] μ R := wz_mt9 (L := [some (.inr (.inr (some (1, 0, 0)))), none]) sw_462 rfl h
set_option maxRecDepth 10000 in
set_option maxHeartbeats 200000 in
theorem fc_462_2  (μ : qz_M) (k : wz_K) (R : wz_R) (L : qz_L) (hL : qz_fg [false, false] L = [none, none])
    (h : (R μ (.inl none))) :
    gc_462_2 k R (L, [], μ) := wz_fgd hL h
set_option maxRecDepth 10000 in
set_option maxHeartbeats 200000 in
theorem fb_462_1 (x1 : Int32) (μ : qz_M) (k : wz_K) (R : wz_R) (L : qz_L) (hL : qz_fg [true, true] L = [some (.inr (.inr (some (1, 0, 0)))), some (.inl x1)])
    (h : (bif decide ((28 : Int32) ≤ x1) then (k 0 ([some (.inr (.inr (some (1, 0, 0)))), some (.inl x1)], [], μ)) else (bif pz_out ((1300 : Int32) + x1) 4400 then False else (wz_wr (qz_wI μ (2, 0, 0) ((1300 : Int32) + x1).toNatClampNeg (18 : Int32)) (fun μ1 => (k 1 ([some (.inr (.inr (some (1, 0, 0)))), some (.inl (x1 + (1 : Int32)))], [], μ1))))))) :
    gb_462_1 k R (L, [], μ) := wz_fgd hL h
/- X12 tBegin -/
set_option maxRecDepth 10000 in
set_option maxHeartbeats 200000 in
theorem fw_509  (μ : qz_M) (R : wz_R)
    (h : (wz_loop qb_509_1 65536 (wz_sk gc_509_2 wz_k0 R) R ([some (.inr (.inr (some (1, 0, 0)))), some (.inl (0 : Int32))], [], μ))) :
    wz_call qf_509 [.inr (.inr (some (1, 0, 0)))] μ R := wz_mt9 (L := [some (.inr (.inr (some (1, 0, 0)))), none]) sw_509 rfl h
set_option maxRecDepth 10000 in
set_option maxHeartbeats 200000 in
theorem fc_509_2  (μ : qz_M) (k : wz_K) (R : wz_R) (L : qz_L) (hL : qz_fg [true, false] L = [some (.inr (.inr (some (1, 0, 0)))), none])
    (h : (wz_wr (qz_wI μ (2, 0, 0) 3201 (2 : Int32)) (fun μ1 => (R μ1 (.inl none))))) :
    gc_509_2 k R (L, [], μ) := wz_fgd hL h
set_option maxRecDepth 10000 in
set_option maxHeartbeats 200000 in
theorem fb_509_1 (x1 : Int32) (μ : qz_M) (k : wz_K) (R : wz_R) (L : qz_L) (hL : qz_fg [true, true] L = [some (.inr (.inr (some (1, 0, 0)))), some (.inl x1)])
    (h : (bif decide ((36 : Int32) ≤ x1) then (k 0 ([some (.inr (.inr (some (1, 0, 0)))), some (.inl x1)], [], μ)) else (bif pz_out ((3210 : Int32) + x1) 4400 then False else (wz_wr (qz_wI μ (2, 0, 0) ((3210 : Int32) + x1).toNatClampNeg (3 : Int32)) (fun μ1 => (k 1 ([some (.inr (.inr (some (1, 0, 0)))), some (.inl (x1 + (1 : Int32)))], [], μ1))))))) :
    gb_509_1 k R (L, [], μ) := wz_fgd hL h
/- X12 iBegin -/
/- X12 kBegin -/
/- X12 begin -/
set_option maxRecDepth 10000 in
set_option maxHeartbeats 200000 in
theorem fw_290  (μ : qz_M) (R : wz_R)
    (h : (wz_loop qb_290_1 65536 (wz_sk gc_290_2 wz_k0 R) R ([some (.inr (.inr (some (1, 0, 0)))), some (.inl (0 : Int32))], [], μ))) :
    wz_call qf_290 [.inr (.inr (some (1, 0, 0)))] μ R := wz_mt9 (L := [some (.inr (.inr (some (1, 0, 0)))), none]) sw_290 rfl h
set_option maxRecDepth 10000 in
set_option maxHeartbeats 200000 in
theorem fc_290_2  (μ : qz_M) (k : wz_K) (R : wz_R) (L : qz_L) (hL : qz_fg [true, false] L = [some (.inr (.inr (some (1, 0, 0)))), none])
    (h : (wz_wr (qz_wI μ (2, 0, 0) 100 (0 : Int32)) (fun μ1 => (wz_cV qf_462 [.inr (.inr (some (1, 0, 0)))] μ1 (fun μ2 => (wz_wr (qz_wI μ2 (2, 0, 0) 1400 (0 : Int32)) (fun μ3 => (wz_wr (qz_wI μ3 (2, 0, 0) 1401 (0 : Int32)) (fun μ4 => (wz_cV qf_509 [.inr (.inr (some (1, 0, 0)))] μ4 (fun μ5 => (wz_wr (qz_wI μ5 (2, 0, 0) 3500 (0 : Int32)) (fun μ6 => (wz_wr (qz_wI μ6 (2, 0, 0) 3810 (50 : Int32)) (fun μ7 => (wz_wr (qz_wI μ7 (2, 0, 0) 3811 (120 : Int32)) (fun μ8 => (wz_wr (qz_wI μ8 (2, 0, 0) 3812 (400 : Int32)) (fun μ9 => (wz_wr (qz_wI μ9 (2, 0, 0) 3813 (2500 : Int32)) (fun μ10 => (R μ10 (.inl none))))))))))))) (fun μ5 e => (R μ5 (.inr e))))))))) (fun μ2 e => (R μ2 (.inr e))))))) :
    gc_290_2 k R (L, [], μ) := wz_fgd hL h
set_option maxRecDepth 10000 in
set_option maxHeartbeats 200000 in
theorem fb_290_1 (x1 : Int32) (μ : qz_M) (k : wz_K) (R : wz_R) (L : qz_L) (hL : qz_fg [true, true] L = [some (.inr (.inr (some (1, 0, 0)))), some (.inl x1)])
    (h : (bif decide ((4400 : Int32) ≤ x1) then (k 0 ([some (.inr (.inr (some (1, 0, 0)))), some (.inl x1)], [], μ)) else (bif pz_out x1 4400 then False else (wz_wr (qz_wI μ (2, 0, 0) x1.toNatClampNeg (0 : Int32)) (fun μ1 => (k 1 ([some (.inr (.inr (some (1, 0, 0)))), some (.inl (x1 + (1 : Int32)))], [], μ1))))))) :
    gb_290_1 k R (L, [], μ) := wz_fgd hL h
/- X12 now -/
/- X12 rFindThree -/
set_option maxRecDepth 10000 in
set_option maxHeartbeats 200000 in
theorem fw_468  (μ : qz_M) (R : wz_R)
    (h : (wz_wr (qz_wI μ (1, 0, 0) 5 (0 : Int32)) (fun μ1 => (wz_loop qb_468_1 65536 (wz_sk gc_468_2 wz_k0 R) R ([some (.inr (.inr (some (1, 0, 0)))), some (.inl (0 : Int32))], [], μ1))))) :
    wz_call qf_468 [.inr (.inr (some (1, 0, 0)))] μ R := wz_mt9 (L := [some (.inr (.inr (some (1, 0, 0)))), none]) sw_468 rfl h
set_option maxRecDepth 10000 in
set_option maxHeartbeats 200000 in
theorem fc_468_2  (μ : qz_M) (k : wz_K) (R : wz_R) (L : qz_L) (hL : qz_fg [false, false] L = [none, none])
    (h : (R μ (.inl none))) :
    gc_468_2 k R (L, [], μ) := wz_fgd hL h
set_option maxRecDepth 10000 in
set_option maxHeartbeats 200000 in
theorem fb_468_1 (x1 : Int32) (μ : qz_M) (k : wz_K) (R : wz_R) (L : qz_L) (hL : qz_fg [true, true] L = [some (.inr (.inr (some (1, 0, 0)))), some (.inl x1)])
    (h : (bif decide ((qz_im μ 2 0 0 102) ≤ x1) then (k 0 ([some (.inr (.inr (some (1, 0, 0)))), some (.inl x1)], [], μ)) else (bif decide ((3 : Int32) ≤ (qz_im μ 1 0 0 5)) then (k 0 ([some (.inr (.inr (some (1, 0, 0)))), some (.inl x1)], [], μ)) else (bif pz_out (((200 : Int32) + ((20 : Int32) * x1)) + (10 : Int32)) 4400 then False else (bif decide ((1 : Int32) < (qz_im μ 2 0 0 (((200 : Int32) + ((20 : Int32) * x1)) + (10 : Int32)).toNatClampNeg)) then (k 1 ([some (.inr (.inr (some (1, 0, 0)))), some (.inl (x1 + (1 : Int32)))], [], μ)) else (bif pz_out (((200 : Int32) + ((20 : Int32) * x1)) + (11 : Int32)) 4400 then False else (bif (!decide ((qz_im μ 2 0 0 (((200 : Int32) + ((20 : Int32) * x1)) + (11 : Int32)).toNatClampNeg) = (6 : Int32))) then (k 1 ([some (.inr (.inr (some (1, 0, 0)))), some (.inl (x1 + (1 : Int32)))], [], μ)) else (bif pz_out (qz_im μ 1 0 0 5) 3 then False else (wz_wr (qz_wI μ (82, 0, 0) (qz_im μ 1 0 0 5).toNatClampNeg x1) (fun μ1 => (wz_wr (qz_wI μ1 (1, 0, 0) 5 ((qz_im μ1 1 0 0 5) + (1 : Int32))) (fun μ2 => (k 1 ([some (.inr (.inr (some (1, 0, 0)))), some (.inl (x1 + (1 : Int32)))], [], μ2)))))))))))))) :
    gb_468_1 k R (L, [], μ) := wz_fgd hL h
/- X12 rWays -/
set_option maxRecDepth 10000 in
set_option maxHeartbeats 200000 in
theorem fw_491  (μ : qz_M) (R : wz_R)
    (h : (wz_loop qb_491_1 65536 (wz_sk gc_491_2 wz_k0 R) R ([some (.inr (.inr (some (1, 0, 0)))), some (.inl (1 : Int32)), some (.inl (0 : Int32))], [], μ))) :
    wz_call qf_491 [.inr (.inr (some (1, 0, 0)))] μ R := wz_mt9 (L := [some (.inr (.inr (some (1, 0, 0)))), none, none]) sw_491 rfl h
set_option maxRecDepth 10000 in
set_option maxHeartbeats 200000 in
theorem fc_491_2 (x1 : Int32) (μ : qz_M) (k : wz_K) (R : wz_R) (L : qz_L) (hL : qz_fg [false, true, false] L = [none, some (.inl x1), none])
    (h : (R μ (.inl (some (.inl x1))))) :
    gc_491_2 k R (L, [], μ) := wz_fgd hL h
set_option maxRecDepth 10000 in
set_option maxHeartbeats 200000 in
theorem fb_491_1 (x1 : Int32) (x2 : Int32) (μ : qz_M) (k : wz_K) (R : wz_R) (L : qz_L) (hL : qz_fg [true, true, true] L = [some (.inr (.inr (some (1, 0, 0)))), some (.inl x1), some (.inl x2)])
    (h : (bif decide ((qz_im μ 1 0 0 5) ≤ x2) then (k 0 ([some (.inr (.inr (some (1, 0, 0)))), some (.inl x1), some (.inl x2)], [], μ)) else (k 1 ([some (.inr (.inr (some (1, 0, 0)))), some (.inl (x1 * ((qz_im μ 2 0 0 1200) + (1 : Int32)))), some (.inl (x2 + (1 : Int32)))], [], μ)))) :
    gb_491_1 k R (L, [], μ) := wz_fgd hL h
/- X12 hold -/
set_option maxRecDepth 10000 in
set_option maxHeartbeats 200000 in
theorem fw_351 (a1 : Int32) (μ : qz_M) (R : wz_R)
    (h : (wz_loop qb_351_1 65536 (wz_sk gc_351_2 wz_k0 R) R ([some (.inr (.inr (some (1, 0, 0)))), some (.inl a1), some (.inl (0 : Int32))], [], μ))) :
    wz_call qf_351 [.inr (.inr (some (1, 0, 0))), .inl a1] μ R := wz_mt9 (L := [some (.inr (.inr (some (1, 0, 0)))), some (.inl a1), none]) sw_351 rfl h
set_option maxRecDepth 10000 in
set_option maxHeartbeats 200000 in
theorem fc_351_2  (μ : qz_M) (k : wz_K) (R : wz_R) (L : qz_L) (hL : qz_fg [false, false, false] L = [none, none, none])
    (h : (R μ (.inl none))) :
    gc_351_2 k R (L, [], μ) := wz_fgd hL h
set_option maxRecDepth 10000 in
set_option maxHeartbeats 200000 in
theorem fb_351_1 (x1 : Int32) (x2 : Int32) (μ : qz_M) (k : wz_K) (R : wz_R) (L : qz_L) (hL : qz_fg [true, true, true] L = [some (.inr (.inr (some (1, 0, 0)))), some (.inl x1), some (.inl x2)])
    (h : (bif decide ((4400 : Int32) ≤ x2) then (k 0 ([some (.inr (.inr (some (1, 0, 0)))), some (.inl x1), some (.inl x2)], [], μ)) else (bif pz_out x2 4400 then False else (bif pz_out (((4400 : Int32) * x1) + x2) 8800 then False else (wz_wr (qz_wI μ (81, 0, 0) (((4400 : Int32) * x1) + x2).toNatClampNeg (qz_im μ 2 0 0 x2.toNatClampNeg)) (fun μ1 => (k 1 ([some (.inr (.inr (some (1, 0, 0)))), some (.inl x1), some (.inl (x2 + (1 : Int32)))], [], μ1)))))))) :
    gb_351_1 k R (L, [], μ) := wz_fgd hL h
/- X12 rFigure -/
/- X12 isShut -/
set_option maxRecDepth 10000 in
set_option maxHeartbeats 200000 in
theorem fw_390 (a1 : Int32) (μ : qz_M) (R : wz_R)
    (h : (bif decide (a1 < (0 : Int32)) then (R μ (.inl (some (.inl (0 : Int32))))) else (bif decide ((5 : Int32) < a1) then (R μ (.inl (some (.inl (0 : Int32))))) else (bif pz_out ((3510 : Int32) + a1) 4400 then False else (bif decide ((qz_im μ 2 0 0 ((3510 : Int32) + a1).toNatClampNeg) ≤ (qz_im μ 2 0 0 0)) then (R μ (.inl (some (.inl (0 : Int32))))) else (R μ (.inl (some (.inl (1 : Int32)))))))))) :
    wz_call qf_390 [.inr (.inr (some (1, 0, 0))), .inl a1] μ R := wz_mt9 (L := [some (.inr (.inr (some (1, 0, 0)))), some (.inl a1)]) sw_390 rfl h
/- X12 rAt -/
/- X12 rStanding -/
set_option maxRecDepth 10000 in
set_option maxHeartbeats 200000 in
theorem fw_488 (a1 : Int32) (μ : qz_M) (R : wz_R)
    (h : (wz_loop qb_488_1 65536 (wz_sk gc_488_2 wz_k0 R) R ([some (.inr (.inr (some (1, 0, 0)))), some (.inl a1), some (.inl (0 : Int32)), some (.inl (0 : Int32))], [], μ))) :
    wz_call qf_488 [.inr (.inr (some (1, 0, 0))), .inl a1] μ R := wz_mt9 (L := [some (.inr (.inr (some (1, 0, 0)))), some (.inl a1), none, none]) sw_488 rfl h
set_option maxRecDepth 10000 in
set_option maxHeartbeats 200000 in
theorem fc_488_2 (x2 : Int32) (μ : qz_M) (k : wz_K) (R : wz_R) (L : qz_L) (hL : qz_fg [false, false, true, false] L = [none, none, some (.inl x2), none])
    (h : (R μ (.inl (some (.inl x2))))) :
    gc_488_2 k R (L, [], μ) := wz_fgd hL h
set_option maxRecDepth 10000 in
set_option maxHeartbeats 200000 in
theorem fb_488_1 (x1 : Int32) (x2 : Int32) (x3 : Int32) (μ : qz_M) (k : wz_K) (R : wz_R) (L : qz_L) (hL : qz_fg [true, true, true, true] L = [some (.inr (.inr (some (1, 0, 0)))), some (.inl x1), some (.inl x2), some (.inl x3)])
    (h : (bif decide ((qz_im μ 2 0 0 102) ≤ x3) then (k 0 ([some (.inr (.inr (some (1, 0, 0)))), some (.inl x1), some (.inl x2), some (.inl x3)], [], μ)) else (bif pz_out (((200 : Int32) + ((20 : Int32) * x3)) + (10 : Int32)) 4400 then False else (bif decide ((1 : Int32) < (qz_im μ 2 0 0 (((200 : Int32) + ((20 : Int32) * x3)) + (10 : Int32)).toNatClampNeg)) then (k 1 ([some (.inr (.inr (some (1, 0, 0)))), some (.inl x1), some (.inl (x2 + (0 : Int32))), some (.inl (x3 + (1 : Int32)))], [], μ)) else (bif pz_out (((200 : Int32) + ((20 : Int32) * x3)) + (11 : Int32)) 4400 then False else (bif (!decide ((qz_im μ 2 0 0 (((200 : Int32) + ((20 : Int32) * x3)) + (11 : Int32)).toNatClampNeg) = x1)) then (k 1 ([some (.inr (.inr (some (1, 0, 0)))), some (.inl x1), some (.inl (x2 + (0 : Int32))), some (.inl (x3 + (1 : Int32)))], [], μ)) else (k 1 ([some (.inr (.inr (some (1, 0, 0)))), some (.inl x1), some (.inl (x2 + (1 : Int32))), some (.inl (x3 + (1 : Int32)))], [], μ)))))))) :
    gb_488_1 k R (L, [], μ) := wz_fgd hL h
/- X12 rLeft -/
/- X12 rDoor -/
/- X12 rInto -/
-- fw_472 is taken out
/- X12 rDoes -/
set_option maxRecDepth 10000 in
set_option maxHeartbeats 200000 in
theorem fw_464 (a1 : Int32) (μ : qz_M) (R : wz_R)
    (h : (wz_loop qb_464_1 65536 (wz_sk gc_464_2 wz_k0 R) R ([some (.inr (.inr (some (1, 0, 0)))), some (.inl a1), some (.inl (1 : Int32)), some (.inl (0 : Int32)), none], [], μ))) :
    wz_call qf_464 [.inr (.inr (some (1, 0, 0))), .inl a1] μ R := wz_mt9 (L := [some (.inr (.inr (some (1, 0, 0)))), some (.inl a1), none, none, none]) sw_464 rfl h
set_option maxRecDepth 10000 in
set_option maxHeartbeats 200000 in
theorem fc_464_2 (x2 : Int32) (μ : qz_M) (k : wz_K) (R : wz_R) (L : qz_L) (hL : qz_fg [false, false, true, false, false] L = [none, none, some (.inl x2), none, none])
    (h : (bif decide (x2 = 0) || decide (x2 = 1) then (R μ (.inl (some (.inl x2)))) else False)) :
    gc_464_2 k R (L, [], μ) := wz_fgd hL h
set_option maxRecDepth 10000 in
set_option maxHeartbeats 200000 in
theorem fb_464_1 (x1 : Int32) (x2 : Int32) (x3 : Int32) (μ : qz_M) (k : wz_K) (R : wz_R) (L : qz_L) (hL : qz_fg [true, true, true, true, false] L = [some (.inr (.inr (some (1, 0, 0)))), some (.inl x1), some (.inl x2), some (.inl x3), none])
    (h : (bif decide ((qz_im μ 1 0 0 5) ≤ x3) then (k 0 ([some (.inr (.inr (some (1, 0, 0)))), some (.inl x1), some (.inl x2), some (.inl x3), none], [], μ)) else (bif decide (x2 = 0) then (k 0 ([some (.inr (.inr (some (1, 0, 0)))), some (.inl x1), some (.inl x2), some (.inl x3), none], [], μ)) else (wz_cI qf_466 [.inr (.inr (some (1, 0, 0))), .inl x1, .inl x3] μ (fun μ1 v2 => (bif decide ((v2 - (1 : Int32)) < 0) then (k 1 ([some (.inr (.inr (some (1, 0, 0)))), some (.inl x1), some (.inl x2), some (.inl (x3 + (1 : Int32))), some (.inl (v2 - (1 : Int32)))], [], μ1)) else (wz_cI qf_390 [.inr (.inr (some (1, 0, 0))), .inl (v2 - (1 : Int32))] μ1 (fun μ3 v4 => (bif (!decide (v4 = 0)) then (bif pz_out x3 3 then False else (wz_cV qf_472 [.inr (.inr (some (1, 0, 0))), .inl (qz_im μ3 82 0 0 x3.toNatClampNeg), .inl (v2 - (1 : Int32))] μ3 (fun μ5 => (k 1 ([some (.inr (.inr (some (1, 0, 0)))), some (.inl x1), some (.inl (0 : Int32)), some (.inl (x3 + (1 : Int32))), some (.inl (v2 - (1 : Int32)))], [], μ5))) (fun μ5 e => (R μ5 (.inr e))))) else (bif (!decide ((v2 - (1 : Int32)) = (6 : Int32))) then (bif pz_out (((1210 : Int32) + ((12 : Int32) * (v2 - (1 : Int32)))) + (0 : Int32)) 4400 then False else (wz_cI qf_488 [.inr (.inr (some (1, 0, 0))), .inl (v2 - (1 : Int32))] μ3 (fun μ6 v7 => (bif decide (((qz_im μ3 2 0 0 (((1210 : Int32) + ((12 : Int32) * (v2 - (1 : Int32)))) + (0 : Int32)).toNatClampNeg) - v7) ≤ 0) then (bif pz_out x3 3 then False else (wz_cV qf_472 [.inr (.inr (some (1, 0, 0))), .inl (qz_im μ6 82 0 0 x3.toNatClampNeg), .inl (v2 - (1 : Int32))] μ6 (fun μ8 => (k 1 ([some (.inr (.inr (some (1, 0, 0)))), some (.inl x1), some (.inl (0 : Int32)), some (.inl (x3 + (1 : Int32))), some (.inl (v2 - (1 : Int32)))], [], μ8))) (fun μ8 e => (R μ8 (.inr e))))) else (bif pz_out x3 3 then False else (wz_cV qf_472 [.inr (.inr (some (1, 0, 0))), .inl (qz_im μ6 82 0 0 x3.toNatClampNeg), .inl (v2 - (1 : Int32))] μ6 (fun μ9 => (k 1 ([some (.inr (.inr (some (1, 0, 0)))), some (.inl x1), some (.inl (1 : Int32)), some (.inl (x3 + (1 : Int32))), some (.inl (v2 - (1 : Int32)))], [], μ9))) (fun μ9 e => (R μ9 (.inr e))))))) (fun μ6 e => (R μ6 (.inr e))))) else (wz_cI qf_488 [.inr (.inr (some (1, 0, 0))), .inl (v2 - (1 : Int32))] μ3 (fun μ10 v11 => (bif decide (((12 : Int32) - v11) ≤ 0) then (bif pz_out x3 3 then False else (wz_cV qf_472 [.inr (.inr (some (1, 0, 0))), .inl (qz_im μ10 82 0 0 x3.toNatClampNeg), .inl (v2 - (1 : Int32))] μ10 (fun μ12 => (k 1 ([some (.inr (.inr (some (1, 0, 0)))), some (.inl x1), some (.inl (0 : Int32)), some (.inl (x3 + (1 : Int32))), some (.inl (v2 - (1 : Int32)))], [], μ12))) (fun μ12 e => (R μ12 (.inr e))))) else (bif pz_out x3 3 then False else (wz_cV qf_472 [.inr (.inr (some (1, 0, 0))), .inl (qz_im μ10 82 0 0 x3.toNatClampNeg), .inl (v2 - (1 : Int32))] μ10 (fun μ13 => (k 1 ([some (.inr (.inr (some (1, 0, 0)))), some (.inl x1), some (.inl (1 : Int32)), some (.inl (x3 + (1 : Int32))), some (.inl (v2 - (1 : Int32)))], [], μ13))) (fun μ13 e => (R μ13 (.inr e))))))) (fun μ10 e => (R μ10 (.inr e))))))) (fun μ3 e => (R μ3 (.inr e)))))) (fun μ1 e => (R μ1 (.inr e))))))) :
    gb_464_1 k R (L, [], μ) := wz_fgd hL h
/- X12 rOutside -/
/- X12 rTowards -/
/- X12 rWarms -/
/- X12 rRipens -/
/- X12 rHarms -/
/- X12 rPalletAges -/
-- fw_481 is taken out
/-! what the methods ask, 17 -/
/- X12 tAt -/
/- X12 tWarmth -/
/- X12 rParcelAges -/
-- fw_482 is taken out
/- X12 rHour -/
set_option maxRecDepth 10000 in
set_option maxHeartbeats 200000 in
theorem fw_471  (μ : qz_M) (R : wz_R)
    (h : (wz_loop qb_471_1 65536 (wz_sk gc_471_6 wz_k0 R) R ([some (.inr (.inr (some (1, 0, 0)))), some (.inl (0 : Int32))], [], μ))) :
    wz_call qf_471 [.inr (.inr (some (1, 0, 0)))] μ R := wz_mt9 (L := [some (.inr (.inr (some (1, 0, 0)))), none]) sw_471 rfl h
set_option maxRecDepth 10000 in
set_option maxHeartbeats 200000 in
theorem fc_471_6  (μ : qz_M) (k : wz_K) (R : wz_R) (L : qz_L) (hL : qz_fg [true, false] L = [some (.inr (.inr (some (1, 0, 0)))), none])
    (h : (wz_loop qb_471_2 65536 (wz_sk gc_471_5 k R) R ([some (.inr (.inr (some (1, 0, 0)))), some (.inl (0 : Int32))], [], μ))) :
    gc_471_6 k R (L, [], μ) := wz_fgd hL h
set_option maxRecDepth 10000 in
set_option maxHeartbeats 200000 in
theorem fb_471_1 (x1 : Int32) (μ : qz_M) (k : wz_K) (R : wz_R) (L : qz_L) (hL : qz_fg [true, true] L = [some (.inr (.inr (some (1, 0, 0)))), some (.inl x1)])
    (h : (bif decide ((qz_im μ 2 0 0 1200) ≤ x1) then (k 0 ([some (.inr (.inr (some (1, 0, 0)))), some (.inl x1)], [], μ)) else (wz_cV qf_490 [.inr (.inr (some (1, 0, 0))), .inl x1] μ (fun μ1 => (k 1 ([some (.inr (.inr (some (1, 0, 0)))), some (.inl (x1 + (1 : Int32)))], [], μ1))) (fun μ1 e => (R μ1 (.inr e)))))) :
    gb_471_1 k R (L, [], μ) := wz_fgd hL h
set_option maxRecDepth 10000 in
set_option maxHeartbeats 200000 in
theorem fc_471_5  (μ : qz_M) (k : wz_K) (R : wz_R) (L : qz_L) (hL : qz_fg [true, false] L = [some (.inr (.inr (some (1, 0, 0)))), none])
    (h : (wz_loop qb_471_3 65536 (wz_sk gc_471_4 k R) R ([some (.inr (.inr (some (1, 0, 0)))), some (.inl (0 : Int32))], [], μ))) :
    gc_471_5 k R (L, [], μ) := wz_fgd hL h
set_option maxRecDepth 10000 in
set_option maxHeartbeats 200000 in
theorem fb_471_2 (x1 : Int32) (μ : qz_M) (k : wz_K) (R : wz_R) (L : qz_L) (hL : qz_fg [true, true] L = [some (.inr (.inr (some (1, 0, 0)))), some (.inl x1)])
    (h : (bif decide ((qz_im μ 2 0 0 102) ≤ x1) then (k 0 ([some (.inr (.inr (some (1, 0, 0)))), some (.inl x1)], [], μ)) else (bif pz_out (((200 : Int32) + ((20 : Int32) * x1)) + (10 : Int32)) 4400 then False else (bif decide ((1 : Int32) < (qz_im μ 2 0 0 (((200 : Int32) + ((20 : Int32) * x1)) + (10 : Int32)).toNatClampNeg)) then (k 1 ([some (.inr (.inr (some (1, 0, 0)))), some (.inl (x1 + (1 : Int32)))], [], μ)) else (wz_cV qf_481 [.inr (.inr (some (1, 0, 0))), .inl x1] μ (fun μ1 => (k 1 ([some (.inr (.inr (some (1, 0, 0)))), some (.inl (x1 + (1 : Int32)))], [], μ1))) (fun μ1 e => (R μ1 (.inr e)))))))) :
    gb_471_2 k R (L, [], μ) := wz_fgd hL h
set_option maxRecDepth 10000 in
set_option maxHeartbeats 200000 in
theorem fc_471_4  (μ : qz_M) (k : wz_K) (R : wz_R) (L : qz_L) (hL : qz_fg [false, false] L = [none, none])
    (h : (R μ (.inl none))) :
    gc_471_4 k R (L, [], μ) := wz_fgd hL h
set_option maxRecDepth 10000 in
set_option maxHeartbeats 200000 in
theorem fb_471_3 (x1 : Int32) (μ : qz_M) (k : wz_K) (R : wz_R) (L : qz_L) (hL : qz_fg [true, true] L = [some (.inr (.inr (some (1, 0, 0)))), some (.inl x1)])
    (h : (bif decide ((qz_im μ 2 0 0 2000) ≤ x1) then (k 0 ([some (.inr (.inr (some (1, 0, 0)))), some (.inl x1)], [], μ)) else (bif pz_out (((2010 : Int32) + ((16 : Int32) * x1)) + (9 : Int32)) 4400 then False else (bif (!decide ((qz_im μ 2 0 0 (((2010 : Int32) + ((16 : Int32) * x1)) + (9 : Int32)).toNatClampNeg) = (1 : Int32))) then (k 1 ([some (.inr (.inr (some (1, 0, 0)))), some (.inl (x1 + (1 : Int32)))], [], μ)) else (wz_cV qf_482 [.inr (.inr (some (1, 0, 0))), .inl x1] μ (fun μ1 => (k 1 ([some (.inr (.inr (some (1, 0, 0)))), some (.inl (x1 + (1 : Int32)))], [], μ1))) (fun μ1 e => (R μ1 (.inr e)))))))) :
    gb_471_3 k R (L, [], μ) := wz_fgd hL h
/- X12 rAlone -/
set_option maxRecDepth 10000 in
set_option maxHeartbeats 200000 in
theorem fw_460 (a1 : Int32) (μ : qz_M) (R : wz_R)
    (h : (wz_loop qb_460_1 65536 (wz_sk gc_460_2 wz_k0 R) R ([some (.inr (.inr (some (1, 0, 0)))), some (.inl a1)], [], μ))) :
    wz_call qf_460 [.inr (.inr (some (1, 0, 0))), .inl a1] μ R := wz_mt9 (L := [some (.inr (.inr (some (1, 0, 0)))), some (.inl a1)]) sw_460 rfl h
set_option maxRecDepth 10000 in
set_option maxHeartbeats 200000 in
theorem fc_460_2  (μ : qz_M) (k : wz_K) (R : wz_R) (L : qz_L) (hL : qz_fg [false, false] L = [none, none])
    (h : (R μ (.inl none))) :
    gc_460_2 k R (L, [], μ) := wz_fgd hL h
set_option maxRecDepth 10000 in
set_option maxHeartbeats 200000 in
theorem fb_460_1 (x1 : Int32) (μ : qz_M) (k : wz_K) (R : wz_R) (L : qz_L) (hL : qz_fg [true, true] L = [some (.inr (.inr (some (1, 0, 0)))), some (.inl x1)])
    (h : (bif decide (x1 ≤ (qz_im μ 2 0 0 0)) then (k 0 ([some (.inr (.inr (some (1, 0, 0)))), some (.inl x1)], [], μ)) else (wz_wr (qz_wI μ (2, 0, 0) 0 ((qz_im μ 2 0 0 0) + (1 : Int32))) (fun μ1 => (wz_cV qf_471 [.inr (.inr (some (1, 0, 0)))] μ1 (fun μ2 => (k 1 ([some (.inr (.inr (some (1, 0, 0)))), some (.inl x1)], [], μ2))) (fun μ2 e => (R μ2 (.inr e)))))))) :
    gb_460_1 k R (L, [], μ) := wz_fgd hL h
/- X12 mStage -/
/- X12 rFine -/
set_option maxRecDepth 10000 in
set_option maxHeartbeats 200000 in
theorem fw_469  (μ : qz_M) (R : wz_R)
    (h : (wz_loop qb_469_1 65536 (wz_sk gc_469_2 wz_k0 R) R ([some (.inr (.inr (some (1, 0, 0)))), some (.inl (0 : Int32)), some (.inl (0 : Int32))], [], μ))) :
    wz_call qf_469 [.inr (.inr (some (1, 0, 0)))] μ R := wz_mt9 (L := [some (.inr (.inr (some (1, 0, 0)))), none, none]) sw_469 rfl h
set_option maxRecDepth 10000 in
set_option maxHeartbeats 200000 in
theorem fc_469_2 (x1 : Int32) (μ : qz_M) (k : wz_K) (R : wz_R) (L : qz_L) (hL : qz_fg [false, true, false] L = [none, some (.inl x1), none])
    (h : (R μ (.inl (some (.inl x1))))) :
    gc_469_2 k R (L, [], μ) := wz_fgd hL h
set_option maxRecDepth 10000 in
set_option maxHeartbeats 200000 in
theorem fb_469_1 (x1 : Int32) (x2 : Int32) (μ : qz_M) (k : wz_K) (R : wz_R) (L : qz_L) (hL : qz_fg [true, true, true] L = [some (.inr (.inr (some (1, 0, 0)))), some (.inl x1), some (.inl x2)])
    (h : (bif decide ((qz_im μ 2 0 0 102) ≤ x2) then (k 0 ([some (.inr (.inr (some (1, 0, 0)))), some (.inl x1), some (.inl x2)], [], μ)) else (bif pz_out (((200 : Int32) + ((20 : Int32) * x2)) + (10 : Int32)) 4400 then False else (bif decide ((1 : Int32) < (qz_im μ 2 0 0 (((200 : Int32) + ((20 : Int32) * x2)) + (10 : Int32)).toNatClampNeg)) then (k 1 ([some (.inr (.inr (some (1, 0, 0)))), some (.inl (x1 + (0 : Int32))), some (.inl (x2 + (1 : Int32)))], [], μ)) else (bif pz_out (((200 : Int32) + ((20 : Int32) * x2)) + (1 : Int32)) 4400 then False else (bif pz_out (((200 : Int32) + ((20 : Int32) * x2)) + (7 : Int32)) 4400 then False else (bif pz_out (((110 : Int32) + ((5 : Int32) * (qz_im μ 2 0 0 (((200 : Int32) + ((20 : Int32) * x2)) + (1 : Int32)).toNatClampNeg))) + (3 : Int32)) 4400 then False else (bif pz_out (((110 : Int32) + ((5 : Int32) * (qz_im μ 2 0 0 (((200 : Int32) + ((20 : Int32) * x2)) + (1 : Int32)).toNatClampNeg))) + (4 : Int32)) 4400 then False else (bif decide (((qz_im μ 2 0 0 (((110 : Int32) + ((5 : Int32) * (qz_im μ 2 0 0 (((200 : Int32) + ((20 : Int32) * x2)) + (1 : Int32)).toNatClampNeg))) + (3 : Int32)).toNatClampNeg) - (qz_im μ 2 0 0 (((110 : Int32) + ((5 : Int32) * (qz_im μ 2 0 0 (((200 : Int32) + ((20 : Int32) * x2)) + (1 : Int32)).toNatClampNeg))) + (4 : Int32)).toNatClampNeg)) ≤ (qz_im μ 2 0 0 (((200 : Int32) + ((20 : Int32) * x2)) + (7 : Int32)).toNatClampNeg)) then (bif decide (((qz_im μ 2 0 0 (((110 : Int32) + ((5 : Int32) * (qz_im μ 2 0 0 (((200 : Int32) + ((20 : Int32) * x2)) + (1 : Int32)).toNatClampNeg))) + (3 : Int32)).toNatClampNeg) + (qz_im μ 2 0 0 (((110 : Int32) + ((5 : Int32) * (qz_im μ 2 0 0 (((200 : Int32) + ((20 : Int32) * x2)) + (1 : Int32)).toNatClampNeg))) + (4 : Int32)).toNatClampNeg)) < (qz_im μ 2 0 0 (((200 : Int32) + ((20 : Int32) * x2)) + (7 : Int32)).toNatClampNeg)) then (bif decide (((qz_im μ 2 0 0 (((110 : Int32) + ((5 : Int32) * (qz_im μ 2 0 0 (((200 : Int32) + ((20 : Int32) * x2)) + (1 : Int32)).toNatClampNeg))) + (3 : Int32)).toNatClampNeg) + ((3 : Int32) * (qz_im μ 2 0 0 (((110 : Int32) + ((5 : Int32) * (qz_im μ 2 0 0 (((200 : Int32) + ((20 : Int32) * x2)) + (1 : Int32)).toNatClampNeg))) + (4 : Int32)).toNatClampNeg))) < (qz_im μ 2 0 0 (((200 : Int32) + ((20 : Int32) * x2)) + (7 : Int32)).toNatClampNeg)) then (k 1 ([some (.inr (.inr (some (1, 0, 0)))), some (.inl (x1 + (0 : Int32))), some (.inl (x2 + (1 : Int32)))], [], μ)) else (k 1 ([some (.inr (.inr (some (1, 0, 0)))), some (.inl (x1 + (0 : Int32))), some (.inl (x2 + (1 : Int32)))], [], μ))) else (k 1 ([some (.inr (.inr (some (1, 0, 0)))), some (.inl (x1 + (1 : Int32))), some (.inl (x2 + (1 : Int32)))], [], μ))) else (k 1 ([some (.inr (.inr (some (1, 0, 0)))), some (.inl (x1 + (0 : Int32))), some (.inl (x2 + (1 : Int32)))], [], μ))))))))))) :
    gb_469_1 k R (L, [], μ) := wz_fgd hL h
/- X12 release -/
set_option maxRecDepth 10000 in
set_option maxHeartbeats 200000 in
theorem fw_493 (a1 : Int32) (μ : qz_M) (R : wz_R)
    (h : (wz_loop qb_493_1 65536 (wz_sk gc_493_2 wz_k0 R) R ([some (.inr (.inr (some (1, 0, 0)))), some (.inl a1), some (.inl (0 : Int32))], [], μ))) :
    wz_call qf_493 [.inr (.inr (some (1, 0, 0))), .inl a1] μ R := wz_mt9 (L := [some (.inr (.inr (some (1, 0, 0)))), some (.inl a1), none]) sw_493 rfl h
set_option maxRecDepth 10000 in
set_option maxHeartbeats 200000 in
theorem fc_493_2  (μ : qz_M) (k : wz_K) (R : wz_R) (L : qz_L) (hL : qz_fg [false, false, false] L = [none, none, none])
    (h : (R μ (.inl none))) :
    gc_493_2 k R (L, [], μ) := wz_fgd hL h
set_option maxRecDepth 10000 in
set_option maxHeartbeats 200000 in
theorem fb_493_1 (x1 : Int32) (x2 : Int32) (μ : qz_M) (k : wz_K) (R : wz_R) (L : qz_L) (hL : qz_fg [true, true, true] L = [some (.inr (.inr (some (1, 0, 0)))), some (.inl x1), some (.inl x2)])
    (h : (bif decide ((4400 : Int32) ≤ x2) then (k 0 ([some (.inr (.inr (some (1, 0, 0)))), some (.inl x1), some (.inl x2)], [], μ)) else (bif pz_out (((4400 : Int32) * x1) + x2) 8800 then False else (bif pz_out x2 4400 then False else (wz_wr (qz_wI μ (2, 0, 0) x2.toNatClampNeg (qz_im μ 81 0 0 (((4400 : Int32) * x1) + x2).toNatClampNeg)) (fun μ1 => (k 1 ([some (.inr (.inr (some (1, 0, 0)))), some (.inl x1), some (.inl (x2 + (1 : Int32)))], [], μ1)))))))) :
    gb_493_1 k R (L, [], μ) := wz_fgd hL h
/- X12 rFindBest -/
set_option maxRecDepth 10000 in
set_option maxHeartbeats 200000 in
theorem fw_467 (a1 : Int32) (μ : qz_M) (R : wz_R)
    (h : (wz_cV qf_468 [.inr (.inr (some (1, 0, 0)))] μ (fun μ1 => (wz_wr (qz_wI μ1 (1, 0, 0) 6 (-1 : Int32)) (fun μ2 => (wz_cI qf_491 [.inr (.inr (some (1, 0, 0)))] μ2 (fun μ3 v4 => (wz_loop qb_467_1 65536 (wz_sk gc_467_2 wz_k0 R) R ([some (.inr (.inr (some (1, 0, 0)))), some (.inl a1), some (.inl v4), some (.inl (0 : Int32)), none], [], μ3))) (fun μ3 e => (R μ3 (.inr e))))))) (fun μ1 e => (R μ1 (.inr e))))) :
    wz_call qf_467 [.inr (.inr (some (1, 0, 0))), .inl a1] μ R := wz_mt9 (L := [some (.inr (.inr (some (1, 0, 0)))), some (.inl a1), none, none, none]) sw_467 rfl h
set_option maxRecDepth 10000 in
set_option maxHeartbeats 200000 in
theorem fc_467_2  (μ : qz_M) (k : wz_K) (R : wz_R) (L : qz_L) (hL : qz_fg [false, false, false, false, false] L = [none, none, none, none, none])
    (h : (R μ (.inl none))) :
    gc_467_2 k R (L, [], μ) := wz_fgd hL h
set_option maxRecDepth 10000 in
set_option maxHeartbeats 200000 in
theorem fb_467_1 (x1 : Int32) (x2 : Int32) (x3 : Int32) (μ : qz_M) (k : wz_K) (R : wz_R) (L : qz_L) (hL : qz_fg [true, true, true, true, false] L = [some (.inr (.inr (some (1, 0, 0)))), some (.inl x1), some (.inl x2), some (.inl x3), none])
    (h : (bif decide (x2 ≤ x3) then (k 0 ([some (.inr (.inr (some (1, 0, 0)))), some (.inl x1), some (.inl x2), some (.inl x3), none], [], μ)) else (wz_cV qf_351 [.inr (.inr (some (1, 0, 0))), .inl (0 : Int32)] μ (fun μ1 => (wz_cI qf_464 [.inr (.inr (some (1, 0, 0))), .inl x3] μ1 (fun μ2 v3 => (bif decide (v3 = 0) then (wz_cV qf_493 [.inr (.inr (some (1, 0, 0))), .inl (0 : Int32)] μ2 (fun μ4 => (k 1 ([some (.inr (.inr (some (1, 0, 0)))), some (.inl x1), some (.inl x2), some (.inl (x3 + (1 : Int32))), none], [], μ4))) (fun μ4 e => (R μ4 (.inr e)))) else (wz_cV qf_460 [.inr (.inr (some (1, 0, 0))), .inl x1] μ2 (fun μ5 => (wz_cI qf_469 [.inr (.inr (some (1, 0, 0)))] μ5 (fun μ6 v7 => (bif decide (v7 ≤ (qz_im μ6 1 0 0 6)) then (wz_cV qf_493 [.inr (.inr (some (1, 0, 0))), .inl (0 : Int32)] μ6 (fun μ8 => (k 1 ([some (.inr (.inr (some (1, 0, 0)))), some (.inl x1), some (.inl x2), some (.inl (x3 + (1 : Int32))), some (.inl v7)], [], μ8))) (fun μ8 e => (R μ8 (.inr e)))) else (wz_wr (qz_wI μ6 (1, 0, 0) 6 v7) (fun μ9 => (wz_wr (qz_wI μ9 (1, 0, 0) 7 x3) (fun μ10 => (wz_cV qf_493 [.inr (.inr (some (1, 0, 0))), .inl (0 : Int32)] μ10 (fun μ11 => (k 1 ([some (.inr (.inr (some (1, 0, 0)))), some (.inl x1), some (.inl x2), some (.inl (x3 + (1 : Int32))), some (.inl v7)], [], μ11))) (fun μ11 e => (R μ11 (.inr e)))))))))) (fun μ6 e => (R μ6 (.inr e))))) (fun μ5 e => (R μ5 (.inr e)))))) (fun μ2 e => (R μ2 (.inr e))))) (fun μ1 e => (R μ1 (.inr e)))))) :
    gb_467_1 k R (L, [], μ) := wz_fgd hL h
/- X12 best -/
set_option maxRecDepth 10000 in
set_option maxHeartbeats 200000 in
theorem fw_291 (a1 : Int32) (a2 : Int32) (μ : qz_M) (R : wz_R)
    (h : (bif decide ((671 : Int32) ≤ ((qz_im μ 2 0 0 0) + (48 : Int32))) then (bif decide (a1 < (qz_im μ 2 0 0 0)) then (wz_wr (qz_wI μ (1, 0, 0) 2 (1 : Int32)) (fun μ1 => (R μ1 (.inl (some (.inl (0 : Int32))))))) else (bif decide ((671 : Int32) < a1) then (wz_wr (qz_wI μ (1, 0, 0) 2 (1 : Int32)) (fun μ2 => (R μ2 (.inl (some (.inl (0 : Int32))))))) else (bif decide (a2 < (0 : Int32)) then (wz_wr (qz_wI μ (1, 0, 0) 2 (1 : Int32)) (fun μ3 => (R μ3 (.inl (some (.inl (0 : Int32))))))) else (bif decide ((3 : Int32) < a2) then (wz_wr (qz_wI μ (1, 0, 0) 2 (1 : Int32)) (fun μ4 => (R μ4 (.inl (some (.inl (0 : Int32))))))) else (wz_wr (qz_wI μ (1, 0, 0) 2 (0 : Int32)) (fun μ5 => (wz_cV qf_467 [.inr (.inr (some (1, 0, 0))), .inl a1] μ5 (fun μ6 => (bif (!decide (a2 = 0)) then (bif decide (a2 ≤ (qz_im μ6 1 0 0 5)) then (wz_cI qf_466 [.inr (.inr (some (1, 0, 0))), .inl (qz_im μ6 1 0 0 7), .inl (a2 - (1 : Int32))] μ6 (fun μ7 v8 => (bif (!decide (v8 = 0)) then (R μ7 (.inl (some (.inl (v8 - (1 : Int32)))))) else (R μ7 (.inl (some (.inl (6 : Int32))))))) (fun μ7 e => (R μ7 (.inr e)))) else (R μ6 (.inl (some (.inl (-1 : Int32)))))) else (R μ6 (.inl (some (.inl (qz_im μ6 1 0 0 6))))))) (fun μ6 e => (R μ6 (.inr e)))))))))) else (bif decide (a1 < (qz_im μ 2 0 0 0)) then (wz_wr (qz_wI μ (1, 0, 0) 2 (1 : Int32)) (fun μ9 => (R μ9 (.inl (some (.inl (0 : Int32))))))) else (bif decide (((qz_im μ 2 0 0 0) + (48 : Int32)) < a1) then (wz_wr (qz_wI μ (1, 0, 0) 2 (1 : Int32)) (fun μ10 => (R μ10 (.inl (some (.inl (0 : Int32))))))) else (bif decide (a2 < (0 : Int32)) then (wz_wr (qz_wI μ (1, 0, 0) 2 (1 : Int32)) (fun μ11 => (R μ11 (.inl (some (.inl (0 : Int32))))))) else (bif decide ((3 : Int32) < a2) then (wz_wr (qz_wI μ (1, 0, 0) 2 (1 : Int32)) (fun μ12 => (R μ12 (.inl (some (.inl (0 : Int32))))))) else (wz_wr (qz_wI μ (1, 0, 0) 2 (0 : Int32)) (fun μ13 => (wz_cV qf_467 [.inr (.inr (some (1, 0, 0))), .inl a1] μ13 (fun μ14 => (bif (!decide (a2 = 0)) then (bif decide (a2 ≤ (qz_im μ14 1 0 0 5)) then (wz_cI qf_466 [.inr (.inr (some (1, 0, 0))), .inl (qz_im μ14 1 0 0 7), .inl (a2 - (1 : Int32))] μ14 (fun μ15 v16 => (bif (!decide (v16 = 0)) then (R μ15 (.inl (some (.inl (v16 - (1 : Int32)))))) else (R μ15 (.inl (some (.inl (6 : Int32))))))) (fun μ15 e => (R μ15 (.inr e)))) else (R μ14 (.inl (some (.inl (-1 : Int32)))))) else (R μ14 (.inl (some (.inl (qz_im μ14 1 0 0 6))))))) (fun μ14 e => (R μ14 (.inr e)))))))))))) :
    wz_call qf_291 [.inr (.inr (some (1, 0, 0))), .inl a1, .inl a2] μ R := wz_mt9 (L := [some (.inr (.inr (some (1, 0, 0)))), some (.inl a1), some (.inl a2), none, none]) sw_291 rfl h
/- X12 isClock -/
/- X12 cAt -/
/- X12 cLot -/
/- X12 cFirstRow -/
/- X12 cLayRow -/
/- X12 kGrowerOf -/
/- X12 kEnter -/
set_option maxRecDepth 10000 in
set_option maxHeartbeats 200000 in
theorem fw_403 (a1 : Int32) (a2 : Int32) (a3 : Int32) (a4 : Int32) (μ : qz_M) (R : wz_R)
    (h : (bif (!decide (a3 = 0)) then (bif pz_out ((3800 : Int32) + a1) 4400 then False else (bif pz_out ((3800 : Int32) + a1) 4400 then False else (wz_wr (qz_wI μ (2, 0, 0) ((3800 : Int32) + a1).toNatClampNeg ((qz_im μ 2 0 0 ((3800 : Int32) + a1).toNatClampNeg) - a3)) (fun μ1 => (bif pz_out ((3800 : Int32) + a2) 4400 then False else (bif pz_out ((3800 : Int32) + a2) 4400 then False else (wz_wr (qz_wI μ1 (2, 0, 0) ((3800 : Int32) + a2).toNatClampNeg ((qz_im μ1 2 0 0 ((3800 : Int32) + a2).toNatClampNeg) + a3)) (fun μ2 => (bif pz_out ((3950 : Int32) + ((5 : Int32) * ((qz_im μ2 2 0 0 3814) - (qz_im μ2 2 0 0 3814) / (60 : Int32) * (60 : Int32)))) 4400 then False else (wz_wr (qz_wI μ2 (2, 0, 0) ((3950 : Int32) + ((5 : Int32) * ((qz_im μ2 2 0 0 3814) - (qz_im μ2 2 0 0 3814) / (60 : Int32) * (60 : Int32)))).toNatClampNeg a1) (fun μ3 => (bif pz_out (((3950 : Int32) + ((5 : Int32) * ((qz_im μ2 2 0 0 3814) - (qz_im μ2 2 0 0 3814) / (60 : Int32) * (60 : Int32)))) + (1 : Int32)) 4400 then False else (wz_wr (qz_wI μ3 (2, 0, 0) (((3950 : Int32) + ((5 : Int32) * ((qz_im μ2 2 0 0 3814) - (qz_im μ2 2 0 0 3814) / (60 : Int32) * (60 : Int32)))) + (1 : Int32)).toNatClampNeg a2) (fun μ4 => (bif pz_out (((3950 : Int32) + ((5 : Int32) * ((qz_im μ2 2 0 0 3814) - (qz_im μ2 2 0 0 3814) / (60 : Int32) * (60 : Int32)))) + (2 : Int32)) 4400 then False else (wz_wr (qz_wI μ4 (2, 0, 0) (((3950 : Int32) + ((5 : Int32) * ((qz_im μ2 2 0 0 3814) - (qz_im μ2 2 0 0 3814) / (60 : Int32) * (60 : Int32)))) + (2 : Int32)).toNatClampNeg a3) (fun μ5 => (bif pz_out (((3950 : Int32) + ((5 : Int32) * ((qz_im μ2 2 0 0 3814) - (qz_im μ2 2 0 0 3814) / (60 : Int32) * (60 : Int32)))) + (3 : Int32)) 4400 then False else (wz_wr (qz_wI μ5 (2, 0, 0) (((3950 : Int32) + ((5 : Int32) * ((qz_im μ2 2 0 0 3814) - (qz_im μ2 2 0 0 3814) / (60 : Int32) * (60 : Int32)))) + (3 : Int32)).toNatClampNeg a4) (fun μ6 => (bif pz_out (((3950 : Int32) + ((5 : Int32) * ((qz_im μ2 2 0 0 3814) - (qz_im μ2 2 0 0 3814) / (60 : Int32) * (60 : Int32)))) + (4 : Int32)) 4400 then False else (wz_wr (qz_wI μ6 (2, 0, 0) (((3950 : Int32) + ((5 : Int32) * ((qz_im μ2 2 0 0 3814) - (qz_im μ2 2 0 0 3814) / (60 : Int32) * (60 : Int32)))) + (4 : Int32)).toNatClampNeg (qz_im μ6 2 0 0 0)) (fun μ7 => (wz_wr (qz_wI μ7 (2, 0, 0) 3814 ((qz_im μ7 2 0 0 3814) + (1 : Int32))) (fun μ8 => (R μ8 (.inl none))))))))))))))))))))))))))) else (R μ (.inl none)))) :
    wz_call qf_403 [.inr (.inr (some (1, 0, 0))), .inl a1, .inl a2, .inl a3, .inl a4] μ R := wz_mt9 (L := [some (.inr (.inr (some (1, 0, 0)))), some (.inl a1), some (.inl a2), some (.inl a3), some (.inl a4), none]) sw_403 rfl h
/- X12 dCut -/
/- X12 kFee -/
/- X12 gAt -/
/- X12 kSold -/
-- fw_419 is taken out
/- X12 mSold -/
-- fw_433 is taken out
/- X12 cTakeOut -/
/- X12 cSell -/

/-! what the methods ask, 18 -/
/- X12 cTry -/
/- X12 cSwap -/
/- X12 cNextRow -/
/- X12 cFind -/
/- X12 bestRow -/
set_option maxRecDepth 10000 in
set_option maxHeartbeats 200000 in
theorem fw_292 (a1 : Int32) (a2 : Int32) (μ : qz_M) (R : wz_R)
    (h : (bif decide (a1 < (0 : Int32)) then (wz_wr (qz_wI μ (1, 0, 0) 2 (1 : Int32)) (fun μ1 => (R μ1 (.inl (some (.inl (0 : Int32))))))) else (bif decide (((qz_im μ 2 0 0 3000) - (1 : Int32)) < a1) then (wz_wr (qz_wI μ (1, 0, 0) 2 (1 : Int32)) (fun μ2 => (R μ2 (.inl (some (.inl (0 : Int32))))))) else (wz_wr (qz_wI μ (1, 0, 0) 2 (0 : Int32)) (fun μ3 => (bif decide (a2 = (-1 : Int32)) then (wz_wr (qz_wI μ3 (1, 0, 0) 2 (0 : Int32)) (fun μ4 => (bif pz_out (((3010 : Int32) + ((60 : Int32) * a1)) + (5 : Int32)) 4400 then False else (bif decide ((qz_im μ4 2 0 0 (((3010 : Int32) + ((60 : Int32) * a1)) + (5 : Int32)).toNatClampNeg) < (1 : Int32)) then (wz_wr (qz_wI μ4 (1, 0, 0) 2 (2 : Int32)) (fun μ5 => (R μ5 (.inl (some (.inl (0 : Int32))))))) else (bif decide ((5 : Int32) < (qz_im μ4 2 0 0 (((3010 : Int32) + ((60 : Int32) * a1)) + (5 : Int32)).toNatClampNeg)) then (wz_wr (qz_wI μ4 (1, 0, 0) 2 (2 : Int32)) (fun μ6 => (R μ6 (.inl (some (.inl (0 : Int32))))))) else (wz_wr (qz_wI μ4 (1, 0, 0) 2 (0 : Int32)) (fun μ7 => (wz_cV qf_298 [.inr (.inr (some (1, 0, 0))), .inl a1] μ7 (fun μ8 => (bif (!decide (a2 = (-1 : Int32))) then (bif pz_out a2 5 then False else (R μ8 (.inl (some (.inl (qz_im μ8 93 0 0 a2.toNatClampNeg)))))) else (R μ8 (.inl (some (.inl (qz_im μ8 1 0 0 20))))))) (fun μ8 e => (R μ8 (.inr e))))))))))) else (bif pz_out (((3010 : Int32) + ((60 : Int32) * a1)) + (5 : Int32)) 4400 then False else (bif decide (a2 < (0 : Int32)) then (wz_wr (qz_wI μ3 (1, 0, 0) 2 (1 : Int32)) (fun μ9 => (R μ9 (.inl (some (.inl (0 : Int32))))))) else (bif decide (((qz_im μ3 2 0 0 (((3010 : Int32) + ((60 : Int32) * a1)) + (5 : Int32)).toNatClampNeg) - (1 : Int32)) < a2) then (wz_wr (qz_wI μ3 (1, 0, 0) 2 (1 : Int32)) (fun μ10 => (R μ10 (.inl (some (.inl (0 : Int32))))))) else (wz_wr (qz_wI μ3 (1, 0, 0) 2 (0 : Int32)) (fun μ11 => (bif pz_out (((3010 : Int32) + ((60 : Int32) * a1)) + (5 : Int32)) 4400 then False else (bif decide ((qz_im μ11 2 0 0 (((3010 : Int32) + ((60 : Int32) * a1)) + (5 : Int32)).toNatClampNeg) < (1 : Int32)) then (wz_wr (qz_wI μ11 (1, 0, 0) 2 (2 : Int32)) (fun μ12 => (R μ12 (.inl (some (.inl (0 : Int32))))))) else (bif decide ((5 : Int32) < (qz_im μ11 2 0 0 (((3010 : Int32) + ((60 : Int32) * a1)) + (5 : Int32)).toNatClampNeg)) then (wz_wr (qz_wI μ11 (1, 0, 0) 2 (2 : Int32)) (fun μ13 => (R μ13 (.inl (some (.inl (0 : Int32))))))) else (wz_wr (qz_wI μ11 (1, 0, 0) 2 (0 : Int32)) (fun μ14 => (wz_cV qf_298 [.inr (.inr (some (1, 0, 0))), .inl a1] μ14 (fun μ15 => (bif (!decide (a2 = (-1 : Int32))) then (bif pz_out a2 5 then False else (R μ15 (.inl (some (.inl (qz_im μ15 93 0 0 a2.toNatClampNeg)))))) else (R μ15 (.inl (some (.inl (qz_im μ15 1 0 0 20))))))) (fun μ15 e => (R μ15 (.inr e)))))))))))))))))))) :
    wz_call qf_292 [.inr (.inr (some (1, 0, 0))), .inl a1, .inl a2] μ R := wz_mt9 (L := [some (.inr (.inr (some (1, 0, 0)))), some (.inl a1), some (.inl a2)]) sw_292 rfl h
/- X12 isPallet -/
/- X12 cFindStart -/
-- fb_299_1 is taken out
/- X12 bestStart -/
set_option maxRecDepth 10000 in
set_option maxHeartbeats 200000 in
theorem fw_293 (a1 : Int32) (a2 : Int32) (a3 : Int32) (a4 : Int32) (μ : qz_M) (R : wz_R)
    (h : (bif decide (a1 < (0 : Int32)) then (wz_wr (qz_wI μ (1, 0, 0) 2 (1 : Int32)) (fun μ1 => (R μ1 (.inl (some (.inl (0 : Int32))))))) else (bif decide (((qz_im μ 2 0 0 3000) - (1 : Int32)) < a1) then (wz_wr (qz_wI μ (1, 0, 0) 2 (1 : Int32)) (fun μ2 => (R μ2 (.inl (some (.inl (0 : Int32))))))) else (bif decide (a2 < (0 : Int32)) then (wz_wr (qz_wI μ (1, 0, 0) 2 (1 : Int32)) (fun μ3 => (R μ3 (.inl (some (.inl (0 : Int32))))))) else (bif decide (((qz_im μ 2 0 0 102) - (1 : Int32)) < a2) then (wz_wr (qz_wI μ (1, 0, 0) 2 (1 : Int32)) (fun μ4 => (R μ4 (.inl (some (.inl (0 : Int32))))))) else (wz_wr (qz_wI μ (1, 0, 0) 2 (0 : Int32)) (fun μ5 => (bif decide (a3 < (1 : Int32)) then (wz_wr (qz_wI μ5 (1, 0, 0) 2 (2 : Int32)) (fun μ6 => (R μ6 (.inl (some (.inl (0 : Int32))))))) else (bif decide ((9999 : Int32) < a3) then (wz_wr (qz_wI μ5 (1, 0, 0) 2 (2 : Int32)) (fun μ7 => (R μ7 (.inl (some (.inl (0 : Int32))))))) else (bif decide (a4 < (0 : Int32)) then (wz_wr (qz_wI μ5 (1, 0, 0) 2 (2 : Int32)) (fun μ8 => (R μ8 (.inl (some (.inl (0 : Int32))))))) else (bif decide ((1 : Int32) < a4) then (wz_wr (qz_wI μ5 (1, 0, 0) 2 (2 : Int32)) (fun μ9 => (R μ9 (.inl (some (.inl (0 : Int32))))))) else (wz_wr (qz_wI μ5 (1, 0, 0) 2 (0 : Int32)) (fun μ10 => (bif pz_out (((200 : Int32) + ((20 : Int32) * a2)) + (4 : Int32)) 4400 then False else (bif decide ((qz_im μ10 2 0 0 (((200 : Int32) + ((20 : Int32) * a2)) + (4 : Int32)).toNatClampNeg) ≤ 0) then (wz_wr (qz_wI μ10 (1, 0, 0) 2 (3 : Int32)) (fun μ11 => (R μ11 (.inl (some (.inl (0 : Int32))))))) else (wz_wr (qz_wI μ10 (1, 0, 0) 2 (0 : Int32)) (fun μ12 => (wz_cV qf_299 [.inr (.inr (some (1, 0, 0))), .inl a1, .inl a2, .inl a3] μ12 (fun μ13 => (bif (!decide (a4 = 0)) then (R μ13 (.inl (some (.inl (qz_im μ13 1 0 0 20))))) else (R μ13 (.inl (some (.inl (qz_im μ13 1 0 0 21))))))) (fun μ13 e => (R μ13 (.inr e))))))))))))))))))))) :
    wz_call qf_293 [.inr (.inr (some (1, 0, 0))), .inl a1, .inl a2, .inl a3, .inl a4] μ R := wz_mt9 (L := [some (.inr (.inr (some (1, 0, 0)))), some (.inl a1), some (.inl a2), some (.inl a3), some (.inl a4)]) sw_293 rfl h
/- X12 isParcel -/
/- X12 kStage -/
/- X12 kBound -/
/- X12 kAward -/
/- X12 kRipened -/
/- X12 kWeight -/
/- X12 kOne -/
/- X12 kAhead -/
/- X12 kShare -/
set_option maxRecDepth 10000 in
set_option maxHeartbeats 200000 in
theorem fw_418 (a0 : Int32) (a1 : Int32) (a2 : Int32) (a3 : Int32) (a4 : Int32) (μ : qz_M) (R : wz_R)
    (h : (bif decide (((a1 + a2) + a3) = 0) then False else (bif decide (((a1 + a2) + a3) = 0) then False else (bif decide (((a1 + a2) + a3) = 0) then False else (bif (!decide (a4 = 0)) then (bif (!decide (a4 = (1 : Int32))) then (wz_loop qb_418_1 65536 (wz_sk gc_418_2 wz_k0 R) R ([some (.inl a0), some (.inl a1), some (.inl a2), some (.inl a3), some (.inl a4), some (.inl ((a1 + a2) + a3)), some (.inl (((a0 - ((a0 * a1) / ((a1 + a2) + a3))) - ((a0 * a2) / ((a1 + a2) + a3))) - ((a0 * a3) / ((a1 + a2) + a3)))), some (.inl a3), some (.inl (0 : Int32)), some (.inl (0 : Int32)), none], [], μ)) else (wz_loop qb_418_1 65536 (wz_sk gc_418_2 wz_k0 R) R ([some (.inl a0), some (.inl a1), some (.inl a2), some (.inl a3), some (.inl a4), some (.inl ((a1 + a2) + a3)), some (.inl (((a0 - ((a0 * a1) / ((a1 + a2) + a3))) - ((a0 * a2) / ((a1 + a2) + a3))) - ((a0 * a3) / ((a1 + a2) + a3)))), some (.inl a2), some (.inl (0 : Int32)), some (.inl (0 : Int32)), none], [], μ))) else (wz_loop qb_418_1 65536 (wz_sk gc_418_2 wz_k0 R) R ([some (.inl a0), some (.inl a1), some (.inl a2), some (.inl a3), some (.inl a4), some (.inl ((a1 + a2) + a3)), some (.inl (((a0 - ((a0 * a1) / ((a1 + a2) + a3))) - ((a0 * a2) / ((a1 + a2) + a3))) - ((a0 * a3) / ((a1 + a2) + a3)))), some (.inl a1), some (.inl (0 : Int32)), some (.inl (0 : Int32)), none], [], μ))))))) :
    wz_call qf_418 [.inl a0, .inl a1, .inl a2, .inl a3, .inl a4] μ R := wz_mt9 (L := [some (.inl a0), some (.inl a1), some (.inl a2), some (.inl a3), some (.inl a4), none, none, none, none, none, none]) sw_418 rfl h
set_option maxRecDepth 10000 in
set_option maxHeartbeats 200000 in
theorem fc_418_2 (x0 : Int32) (x5 : Int32) (x6 : Int32) (x7 : Int32) (x8 : Int32) (μ : qz_M) (k : wz_K) (R : wz_R) (L : qz_L) (hL : qz_fg [true, false, false, false, false, true, true, true, true, false, false] L = [some (.inl x0), none, none, none, none, some (.inl x5), some (.inl x6), some (.inl x7), some (.inl x8), none, none])
    (h : (bif decide (x5 = 0) then False else (bif decide (x6 ≤ x8) then (R μ (.inl (some (.inl (((x0 * x7) / x5) + (0 : Int32)))))) else (R μ (.inl (some (.inl (((x0 * x7) / x5) + (1 : Int32))))))))) :
    gc_418_2 k R (L, [], μ) := wz_fgd hL h
set_option maxRecDepth 10000 in
set_option maxHeartbeats 200000 in
theorem fb_418_1 (x0 : Int32) (x1 : Int32) (x2 : Int32) (x3 : Int32) (x4 : Int32) (x5 : Int32) (x6 : Int32) (x7 : Int32) (x8 : Int32) (x9 : Int32) (μ : qz_M) (k : wz_K) (R : wz_R) (L : qz_L) (hL : qz_fg [true, true, true, true, true, true, true, true, true, true, false] L = [some (.inl x0), some (.inl x1), some (.inl x2), some (.inl x3), some (.inl x4), some (.inl x5), some (.inl x6), some (.inl x7), some (.inl x8), some (.inl x9), none])
    (h : (bif decide ((3 : Int32) ≤ x9) then (k 0 ([some (.inl x0), some (.inl x1), some (.inl x2), some (.inl x3), some (.inl x4), some (.inl x5), some (.inl x6), some (.inl x7), some (.inl x8), some (.inl x9), none], [], μ)) else (bif (!decide (x9 = 0)) then (bif (!decide (x9 = (1 : Int32))) then (bif decide (x5 = 0) then False else (bif decide (x9 = x4) then (k 1 ([some (.inl x0), some (.inl x1), some (.inl x2), some (.inl x3), some (.inl x4), some (.inl x5), some (.inl x6), some (.inl x7), some (.inl (x8 + (0 : Int32))), some (.inl (x9 + (1 : Int32))), some (.inl ((x0 * x3) - (x0 * x3) / x5 * x5))], [], μ)) else (bif decide (x5 = 0) then False else (bif decide (((x0 * x7) - (x0 * x7) / x5 * x5) < ((x0 * x3) - (x0 * x3) / x5 * x5)) then (k 1 ([some (.inl x0), some (.inl x1), some (.inl x2), some (.inl x3), some (.inl x4), some (.inl x5), some (.inl x6), some (.inl x7), some (.inl (x8 + (1 : Int32))), some (.inl (x9 + (1 : Int32))), some (.inl ((x0 * x3) - (x0 * x3) / x5 * x5))], [], μ)) else (bif (!decide (((x0 * x3) - (x0 * x3) / x5 * x5) = ((x0 * x7) - (x0 * x7) / x5 * x5))) then (k 1 ([some (.inl x0), some (.inl x1), some (.inl x2), some (.inl x3), some (.inl x4), some (.inl x5), some (.inl x6), some (.inl x7), some (.inl (x8 + (0 : Int32))), some (.inl (x9 + (1 : Int32))), some (.inl ((x0 * x3) - (x0 * x3) / x5 * x5))], [], μ)) else (bif decide (x4 ≤ x9) then (k 1 ([some (.inl x0), some (.inl x1), some (.inl x2), some (.inl x3), some (.inl x4), some (.inl x5), some (.inl x6), some (.inl x7), some (.inl (x8 + (0 : Int32))), some (.inl (x9 + (1 : Int32))), some (.inl ((x0 * x3) - (x0 * x3) / x5 * x5))], [], μ)) else (k 1 ([some (.inl x0), some (.inl x1), some (.inl x2), some (.inl x3), some (.inl x4), some (.inl x5), some (.inl x6), some (.inl x7), some (.inl (x8 + (1 : Int32))), some (.inl (x9 + (1 : Int32))), some (.inl ((x0 * x3) - (x0 * x3) / x5 * x5))], [], μ)))))))) else (bif decide (x5 = 0) then False else (bif decide (x9 = x4) then (k 1 ([some (.inl x0), some (.inl x1), some (.inl x2), some (.inl x3), some (.inl x4), some (.inl x5), some (.inl x6), some (.inl x7), some (.inl (x8 + (0 : Int32))), some (.inl (x9 + (1 : Int32))), some (.inl ((x0 * x2) - (x0 * x2) / x5 * x5))], [], μ)) else (bif decide (x5 = 0) then False else (bif decide (((x0 * x7) - (x0 * x7) / x5 * x5) < ((x0 * x2) - (x0 * x2) / x5 * x5)) then (k 1 ([some (.inl x0), some (.inl x1), some (.inl x2), some (.inl x3), some (.inl x4), some (.inl x5), some (.inl x6), some (.inl x7), some (.inl (x8 + (1 : Int32))), some (.inl (x9 + (1 : Int32))), some (.inl ((x0 * x2) - (x0 * x2) / x5 * x5))], [], μ)) else (bif (!decide (((x0 * x2) - (x0 * x2) / x5 * x5) = ((x0 * x7) - (x0 * x7) / x5 * x5))) then (k 1 ([some (.inl x0), some (.inl x1), some (.inl x2), some (.inl x3), some (.inl x4), some (.inl x5), some (.inl x6), some (.inl x7), some (.inl (x8 + (0 : Int32))), some (.inl (x9 + (1 : Int32))), some (.inl ((x0 * x2) - (x0 * x2) / x5 * x5))], [], μ)) else (bif decide (x4 ≤ x9) then (k 1 ([some (.inl x0), some (.inl x1), some (.inl x2), some (.inl x3), some (.inl x4), some (.inl x5), some (.inl x6), some (.inl x7), some (.inl (x8 + (0 : Int32))), some (.inl (x9 + (1 : Int32))), some (.inl ((x0 * x2) - (x0 * x2) / x5 * x5))], [], μ)) else (k 1 ([some (.inl x0), some (.inl x1), some (.inl x2), some (.inl x3), some (.inl x4), some (.inl x5), some (.inl x6), some (.inl x7), some (.inl (x8 + (1 : Int32))), some (.inl (x9 + (1 : Int32))), some (.inl ((x0 * x2) - (x0 * x2) / x5 * x5))], [], μ))))))))) else (bif decide (x5 = 0) then False else (bif decide (x9 = x4) then (k 1 ([some (.inl x0), some (.inl x1), some (.inl x2), some (.inl x3), some (.inl x4), some (.inl x5), some (.inl x6), some (.inl x7), some (.inl (x8 + (0 : Int32))), some (.inl (x9 + (1 : Int32))), some (.inl ((x0 * x1) - (x0 * x1) / x5 * x5))], [], μ)) else (bif decide (x5 = 0) then False else (bif decide (((x0 * x7) - (x0 * x7) / x5 * x5) < ((x0 * x1) - (x0 * x1) / x5 * x5)) then (k 1 ([some (.inl x0), some (.inl x1), some (.inl x2), some (.inl x3), some (.inl x4), some (.inl x5), some (.inl x6), some (.inl x7), some (.inl (x8 + (1 : Int32))), some (.inl (x9 + (1 : Int32))), some (.inl ((x0 * x1) - (x0 * x1) / x5 * x5))], [], μ)) else (bif (!decide (((x0 * x1) - (x0 * x1) / x5 * x5) = ((x0 * x7) - (x0 * x7) / x5 * x5))) then (k 1 ([some (.inl x0), some (.inl x1), some (.inl x2), some (.inl x3), some (.inl x4), some (.inl x5), some (.inl x6), some (.inl x7), some (.inl (x8 + (0 : Int32))), some (.inl (x9 + (1 : Int32))), some (.inl ((x0 * x1) - (x0 * x1) / x5 * x5))], [], μ)) else (bif decide (x4 ≤ x9) then (k 1 ([some (.inl x0), some (.inl x1), some (.inl x2), some (.inl x3), some (.inl x4), some (.inl x5), some (.inl x6), some (.inl x7), some (.inl (x8 + (0 : Int32))), some (.inl (x9 + (1 : Int32))), some (.inl ((x0 * x1) - (x0 * x1) / x5 * x5))], [], μ)) else (k 1 ([some (.inl x0), some (.inl x1), some (.inl x2), some (.inl x3), some (.inl x4), some (.inl x5), some (.inl x6), some (.inl x7), some (.inl (x8 + (1 : Int32))), some (.inl (x9 + (1 : Int32))), some (.inl ((x0 * x1) - (x0 * x1) / x5 * x5))], [], μ))))))))))) :
    gb_418_1 k R (L, [], μ) := wz_fgd hL h
/- X12 kBears -/
/- X12 blame -/
set_option maxRecDepth 10000 in
set_option maxHeartbeats 200000 in
theorem fw_294 (a1 : Int32) (a2 : Int32) (a3 : Int32) (μ : qz_M) (R : wz_R)
    (h : (bif decide (a1 < (0 : Int32)) then (wz_wr (qz_wI μ (1, 0, 0) 2 (1 : Int32)) (fun μ1 => (R μ1 (.inl (some (.inl (0 : Int32))))))) else (bif decide (((qz_im μ 2 0 0 2000) - (1 : Int32)) < a1) then (wz_wr (qz_wI μ (1, 0, 0) 2 (1 : Int32)) (fun μ2 => (R μ2 (.inl (some (.inl (0 : Int32))))))) else (wz_wr (qz_wI μ (1, 0, 0) 2 (0 : Int32)) (fun μ3 => (bif decide (a2 < (0 : Int32)) then (wz_wr (qz_wI μ3 (1, 0, 0) 2 (2 : Int32)) (fun μ4 => (R μ4 (.inl (some (.inl (0 : Int32))))))) else (bif decide ((3 : Int32) < a2) then (wz_wr (qz_wI μ3 (1, 0, 0) 2 (2 : Int32)) (fun μ5 => (R μ5 (.inl (some (.inl (0 : Int32))))))) else (bif decide (a3 < (0 : Int32)) then (wz_wr (qz_wI μ3 (1, 0, 0) 2 (2 : Int32)) (fun μ6 => (R μ6 (.inl (some (.inl (0 : Int32))))))) else (bif decide ((3 : Int32) < a3) then (wz_wr (qz_wI μ3 (1, 0, 0) 2 (2 : Int32)) (fun μ7 => (R μ7 (.inl (some (.inl (0 : Int32))))))) else (wz_wr (qz_wI μ3 (1, 0, 0) 2 (0 : Int32)) (fun μ8 => (bif pz_out (((2010 : Int32) + ((16 : Int32) * a1)) + (9 : Int32)) 4400 then False else (bif (!decide ((qz_im μ8 2 0 0 (((2010 : Int32) + ((16 : Int32) * a1)) + (9 : Int32)).toNatClampNeg) = (2 : Int32))) then (wz_wr (qz_wI μ8 (1, 0, 0) 2 (3 : Int32)) (fun μ9 => (R μ9 (.inl (some (.inl (0 : Int32))))))) else (wz_wr (qz_wI μ8 (1, 0, 0) 2 (0 : Int32)) (fun μ10 => (wz_cI qf_398 [.inr (.inr (some (1, 0, 0))), .inl a1, .inl a2] μ10 (fun μ11 v12 => (bif (!decide (a3 = (3 : Int32))) then (wz_cI qf_423 [.inr (.inr (some (1, 0, 0))), .inl a1, .inl a2, .inl (0 : Int32)] μ11 (fun μ13 v14 => (wz_cI qf_423 [.inr (.inr (some (1, 0, 0))), .inl a1, .inl a2, .inl (1 : Int32)] μ13 (fun μ15 v16 => (wz_cI qf_423 [.inr (.inr (some (1, 0, 0))), .inl a1, .inl a2, .inl (2 : Int32)] μ15 (fun μ17 v18 => (bif (!decide (((v14 + v16) + v18) = 0)) then (wz_cI qf_418 [.inl v12, .inl v14, .inl v16, .inl v18, .inl a3] μ17 (fun μ19 v20 => (R μ19 (.inl (some (.inl v20))))) (fun μ19 e => (R μ19 (.inr e)))) else (wz_cI qf_418 [.inl v12, .inl v14, .inl (1 : Int32), .inl v18, .inl a3] μ17 (fun μ21 v22 => (R μ21 (.inl (some (.inl v22))))) (fun μ21 e => (R μ21 (.inr e)))))) (fun μ17 e => (R μ17 (.inr e))))) (fun μ15 e => (R μ15 (.inr e))))) (fun μ13 e => (R μ13 (.inr e)))) else (R μ11 (.inl (some (.inl v12)))))) (fun μ11 e => (R μ11 (.inr e))))))))))))))))))) :
    wz_call qf_294 [.inr (.inr (some (1, 0, 0))), .inl a1, .inl a2, .inl a3] μ R := wz_mt9 (L := [some (.inr (.inr (some (1, 0, 0)))), some (.inl a1), some (.inl a2), some (.inl a3), none]) sw_294 rfl h
/- X12 cClock -/
set_option maxRecDepth 10000 in
set_option maxHeartbeats 200000 in
theorem fw_297 (a1 : Int32) (a2 : Int32) (a3 : Int32) (a4 : Int32) (a5 : Int32) (μ : qz_M) (R : wz_R)
    (h : (wz_wr (qz_wI μ (2, 0, 0) 3000 ((qz_im μ 2 0 0 3000) + (1 : Int32))) (fun μ1 => (bif pz_out (((3010 : Int32) + ((60 : Int32) * (qz_im μ 2 0 0 3000))) + (0 : Int32)) 4400 then False else (wz_wr (qz_wI μ1 (2, 0, 0) (((3010 : Int32) + ((60 : Int32) * (qz_im μ 2 0 0 3000))) + (0 : Int32)).toNatClampNeg a1) (fun μ2 => (bif pz_out (((3010 : Int32) + ((60 : Int32) * (qz_im μ 2 0 0 3000))) + (1 : Int32)) 4400 then False else (wz_wr (qz_wI μ2 (2, 0, 0) (((3010 : Int32) + ((60 : Int32) * (qz_im μ 2 0 0 3000))) + (1 : Int32)).toNatClampNeg a2) (fun μ3 => (bif pz_out (((3010 : Int32) + ((60 : Int32) * (qz_im μ 2 0 0 3000))) + (2 : Int32)) 4400 then False else (wz_wr (qz_wI μ3 (2, 0, 0) (((3010 : Int32) + ((60 : Int32) * (qz_im μ 2 0 0 3000))) + (2 : Int32)).toNatClampNeg a3) (fun μ4 => (bif pz_out (((3010 : Int32) + ((60 : Int32) * (qz_im μ 2 0 0 3000))) + (3 : Int32)) 4400 then False else (wz_wr (qz_wI μ4 (2, 0, 0) (((3010 : Int32) + ((60 : Int32) * (qz_im μ 2 0 0 3000))) + (3 : Int32)).toNatClampNeg a4) (fun μ5 => (bif pz_out (((3010 : Int32) + ((60 : Int32) * (qz_im μ 2 0 0 3000))) + (4 : Int32)) 4400 then False else (wz_wr (qz_wI μ5 (2, 0, 0) (((3010 : Int32) + ((60 : Int32) * (qz_im μ 2 0 0 3000))) + (4 : Int32)).toNatClampNeg a5) (fun μ6 => (bif pz_out (((3010 : Int32) + ((60 : Int32) * (qz_im μ 2 0 0 3000))) + (6 : Int32)) 4400 then False else (wz_wr (qz_wI μ6 (2, 0, 0) (((3010 : Int32) + ((60 : Int32) * (qz_im μ 2 0 0 3000))) + (6 : Int32)).toNatClampNeg (-1 : Int32)) (fun μ7 => (bif pz_out (((3010 : Int32) + ((60 : Int32) * (qz_im μ 2 0 0 3000))) + (7 : Int32)) 4400 then False else (wz_wr (qz_wI μ7 (2, 0, 0) (((3010 : Int32) + ((60 : Int32) * (qz_im μ 2 0 0 3000))) + (7 : Int32)).toNatClampNeg (-1 : Int32)) (fun μ8 => (R μ8 (.inl (some (.inl (qz_im μ 2 0 0 3000))))))))))))))))))))))))))))) :
    wz_call qf_297 [.inr (.inr (some (1, 0, 0))), .inl a1, .inl a2, .inl a3, .inl a4, .inl a5] μ R := wz_mt9 (L := [some (.inr (.inr (some (1, 0, 0)))), some (.inl a1), some (.inl a2), some (.inl a3), some (.inl a4), some (.inl a5), none]) sw_297 rfl h
/- X12 hour -/
