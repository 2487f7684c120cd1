/-! checks of methods 265 to 315 -/
theorem pk_265 : pz_ckm 12 82 153 ps_12 cX12_bClose pr_265 = true := by decide +kernel
theorem pv_265 : pz_c60 pr_265 = true := by decide +kernel
theorem pk_266 : pz_ckm 12 82 153 ps_12 cX12_bCome pr_266 = true := by decide +kernel
theorem pv_266 : pz_c60 pr_266 = true := by decide +kernel
theorem pk_267 : pz_ckm 12 82 153 ps_12 cX12_bCrates pr_267 = true := by decide +kernel
theorem pv_267 : pz_c60 pr_267 = true := by decide +kernel
theorem pk_268 : pz_ckm 12 82 153 ps_12 cX12_bFill pr_268 = true := by decide +kernel
theorem pv_268 : pz_c60 pr_268 = true := by decide +kernel
theorem pk_269 : pz_ckm 12 82 153 ps_12 cX12_bFirstDue pr_269 = true := by decide +kernel
theorem pv_269 : pz_c60 pr_269 = true := by decide +kernel
theorem pk_270 : pz_ckm 12 82 153 ps_12 cX12_bFits pr_270 = true := by decide +kernel
theorem pv_270 : pz_c60 pr_270 = true := by decide +kernel
theorem pk_271 : pz_ckm 12 82 153 ps_12 cX12_bGetsOne pr_271 = true := by decide +kernel
theorem pv_271 : pz_c60 pr_271 = true := by decide +kernel
theorem pk_272 : pz_ckm 12 82 153 ps_12 cX12_bGiven pr_272 = true := by decide +kernel
theorem pv_272 : pz_c60 pr_272 = true := by decide +kernel
theorem pk_273 : pz_ckm 12 82 153 ps_12 cX12_bIsToday pr_273 = true := by decide +kernel
theorem pv_273 : pz_c60 pr_273 = true := by decide +kernel
theorem pk_274 : pz_ckm 12 82 153 ps_12 cX12_bLayFilling pr_274 = true := by decide +kernel
theorem pv_274 : pz_c60 pr_274 = true := by decide +kernel
theorem pk_275 : pz_ckm 12 82 153 ps_12 cX12_bLeft pr_275 = true := by decide +kernel
theorem pv_275 : pz_c60 pr_275 = true := by decide +kernel
theorem pk_276 : pz_ckm 12 82 153 ps_12 cX12_bLost pr_276 = true := by decide +kernel
theorem pv_276 : pz_c60 pr_276 = true := by decide +kernel
theorem pk_277 : pz_ckm 12 82 153 ps_12 cX12_bNextToServe pr_277 = true := by decide +kernel
theorem pv_277 : pz_c60 pr_277 = true := by decide +kernel
theorem pk_278 : pz_ckm 12 82 153 ps_12 cX12_bOpenBills pr_278 = true := by decide +kernel
theorem pv_278 : pz_c60 pr_278 = true := by decide +kernel
theorem pk_279 : pz_ckm 12 82 153 ps_12 cX12_bOrders pr_279 = true := by decide +kernel
theorem pv_279 : pz_c60 pr_279 = true := by decide +kernel
theorem pk_280 : pz_ckm 12 82 153 ps_12 cX12_bOverdue pr_280 = true := by decide +kernel
theorem pv_280 : pz_c60 pr_280 = true := by decide +kernel
theorem pk_281 : pz_ckm 12 82 153 ps_12 cX12_bPays pr_281 = true := by decide +kernel
theorem pv_281 : pz_c60 pr_281 = true := by decide +kernel
theorem pk_282 : pz_ckm 12 82 153 ps_12 cX12_bSeason pr_282 = true := by decide +kernel
theorem pv_282 : pz_c60 pr_282 = true := by decide +kernel
theorem pk_283 : pz_ckm 12 82 153 ps_12 cX12_bShifts pr_283 = true := by decide +kernel
theorem pv_283 : pz_c60 pr_283 = true := by decide +kernel
theorem pk_284 : pz_ckm 12 82 153 ps_12 cX12_bSold pr_284 = true := by decide +kernel
theorem pv_284 : pz_c60 pr_284 = true := by decide +kernel
theorem pk_285 : pz_ckm 12 82 153 ps_12 cX12_bSound pr_285 = true := by decide +kernel
theorem pv_285 : pz_c60 pr_285 = true := by decide +kernel
theorem pk_286 : pz_ckm 12 82 153 ps_12 cX12_bTaker pr_286 = true := by decide +kernel
theorem pv_286 : pz_c60 pr_286 = true := by decide +kernel
theorem pk_287 : pz_ckm 12 82 153 ps_12 cX12_bTakes pr_287 = true := by decide +kernel
theorem pv_287 : pz_c60 pr_287 = true := by decide +kernel
theorem pk_288 : pz_ckm 12 82 153 ps_12 cX12_bTown pr_288 = true := by decide +kernel
theorem pv_288 : pz_c60 pr_288 = true := by decide +kernel
theorem pk_289 : pz_ckm 12 82 153 ps_12 cX12_bUnpaid pr_289 = true := by decide +kernel
theorem pv_289 : pz_c60 pr_289 = true := by decide +kernel
theorem pk_290 : pz_ckm 12 82 153 ps_12 cX12_begin pr_290 = true := by decide +kernel
theorem pv_290 : pz_c60 pr_290 = true := by decide +kernel
theorem pk_291 : pz_ckm 12 82 153 ps_12 cX12_best pr_291 = true := by decide +kernel
theorem pv_291 : pz_c60 pr_291 = true := by decide +kernel
theorem pk_292 : pz_ckm 12 82 153 ps_12 cX12_bestRow pr_292 = true := by decide +kernel
theorem pv_292 : pz_c60 pr_292 = true := by decide +kernel
theorem pk_293 : pz_ckm 12 82 153 ps_12 cX12_bestStart pr_293 = true := by decide +kernel
theorem pv_293 : pz_c60 pr_293 = true := by decide +kernel
theorem pk_294 : pz_ckm 12 82 153 ps_12 cX12_blame pr_294 = true := by decide +kernel
theorem pv_294 : pz_c60 pr_294 = true := by decide +kernel
theorem pk_295 : pz_ckm 12 82 153 ps_12 cX12_buyer pr_295 = true := by decide +kernel
theorem pv_295 : pz_c60 pr_295 = true := by decide +kernel
theorem pk_296 : pz_ckm 12 82 153 ps_12 cX12_cAt pr_296 = true := by decide +kernel
theorem pv_296 : pz_c60 pr_296 = true := by decide +kernel
theorem pk_297 : pz_ckm 12 82 153 ps_12 cX12_cClock pr_297 = true := by decide +kernel
theorem pv_297 : pz_c60 pr_297 = true := by decide +kernel
theorem pk_298 : pz_ckm 12 82 153 ps_12 cX12_cFind pr_298 = true := by decide +kernel
theorem pv_298 : pz_c60 pr_298 = true := by decide +kernel
theorem pk_299 : pz_ckm 12 82 153 ps_12 cX12_cFindStart pr_299 = true := by decide +kernel
theorem pv_299 : pz_c60 pr_299 = true := by decide +kernel
theorem pk_300 : pz_ckm 12 82 153 ps_12 cX12_cFirstRow pr_300 = true := by decide +kernel
theorem pv_300 : pz_c60 pr_300 = true := by decide +kernel
theorem pk_301 : pz_ckm 12 82 153 ps_12 cX12_cHour pr_301 = true := by decide +kernel
theorem pv_301 : pz_c60 pr_301 = true := by decide +kernel
theorem pk_302 : pz_ckm 12 82 153 ps_12 cX12_cLayRow pr_302 = true := by decide +kernel
theorem pv_302 : pz_c60 pr_302 = true := by decide +kernel
theorem pk_303 : pz_ckm 12 82 153 ps_12 cX12_cLot pr_303 = true := by decide +kernel
theorem pv_303 : pz_c60 pr_303 = true := by decide +kernel
theorem pk_304 : pz_ckm 12 82 153 ps_12 cX12_cNextRow pr_304 = true := by decide +kernel
theorem pv_304 : pz_c60 pr_304 = true := by decide +kernel
theorem pk_305 : pz_ckm 12 82 153 ps_12 cX12_cOf pr_305 = true := by decide +kernel
theorem pv_305 : pz_c60 pr_305 = true := by decide +kernel
theorem pk_306 : pz_ckm 12 82 153 ps_12 cX12_cPlace pr_306 = true := by decide +kernel
theorem pv_306 : pz_c60 pr_306 = true := by decide +kernel
theorem pk_307 : pz_ckm 12 82 153 ps_12 cX12_cQueue pr_307 = true := by decide +kernel
theorem pv_307 : pz_c60 pr_307 = true := by decide +kernel
theorem pk_308 : pz_ckm 12 82 153 ps_12 cX12_cSeason pr_308 = true := by decide +kernel
theorem pv_308 : pz_c60 pr_308 = true := by decide +kernel
theorem pk_309 : pz_ckm 12 82 153 ps_12 cX12_cSell pr_309 = true := by decide +kernel
theorem pv_309 : pz_c60 pr_309 = true := by decide +kernel
theorem pk_310 : pz_ckm 12 82 153 ps_12 cX12_cSound pr_310 = true := by decide +kernel
theorem pv_310 : pz_c60 pr_310 = true := by decide +kernel
theorem pk_311 : pz_ckm 12 82 153 ps_12 cX12_cSwap pr_311 = true := by decide +kernel
theorem pv_311 : pz_c60 pr_311 = true := by decide +kernel
theorem pk_312 : pz_ckm 12 82 153 ps_12 cX12_cTakeOut pr_312 = true := by decide +kernel
theorem pv_312 : pz_c60 pr_312 = true := by decide +kernel
theorem pk_313 : pz_ckm 12 82 153 ps_12 cX12_cTry pr_313 = true := by decide +kernel
theorem pv_313 : pz_c60 pr_313 = true := by decide +kernel
theorem pk_314 : pz_ckm 12 82 153 ps_12 cX12_cUnqueue pr_314 = true := by decide +kernel
theorem pv_314 : pz_c60 pr_314 = true := by decide +kernel
theorem pk_315 : pz_ckm 12 82 153 ps_12 cX12_cancel pr_315 = true := by decide +kernel
theorem pv_315 : pz_c60 pr_315 = true := by decide +kernel
