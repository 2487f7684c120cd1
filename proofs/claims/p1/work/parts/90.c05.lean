/-! checks of methods 316 to 392 -/
theorem pk_316 : pz_ckm 12 82 153 ps_12 cX12_clock pr_316 = true := by decide +kernel
theorem pv_316 : pz_c60 pr_316 = true := by decide +kernel
theorem pk_317 : pz_ckm 12 82 153 ps_12 cX12_dAdds pr_317 = true := by decide +kernel
theorem pv_317 : pz_c60 pr_317 = true := by decide +kernel
theorem pk_318 : pz_ckm 12 82 153 ps_12 cX12_dBegin pr_318 = true := by decide +kernel
theorem pv_318 : pz_c60 pr_318 = true := by decide +kernel
theorem pk_319 : pz_ckm 12 82 153 ps_12 cX12_dChoose pr_319 = true := by decide +kernel
theorem pv_319 : pz_c60 pr_319 = true := by decide +kernel
theorem pk_320 : pz_ckm 12 82 153 ps_12 cX12_dCut pr_320 = true := by decide +kernel
theorem pv_320 : pz_c60 pr_320 = true := by decide +kernel
theorem pk_321 : pz_ckm 12 82 153 ps_12 cX12_dFloorLeft pr_321 = true := by decide +kernel
theorem pv_321 : pz_c60 pr_321 = true := by decide +kernel
theorem pk_322 : pz_ckm 12 82 153 ps_12 cX12_dFound pr_322 = true := by decide +kernel
theorem pv_322 : pz_c60 pr_322 = true := by decide +kernel
theorem pk_323 : pz_ckm 12 82 153 ps_12 cX12_dGrower pr_323 = true := by decide +kernel
theorem pv_323 : pz_c60 pr_323 = true := by decide +kernel
theorem pk_324 : pz_ckm 12 82 153 ps_12 cX12_dGrown pr_324 = true := by decide +kernel
theorem pv_324 : pz_c60 pr_324 = true := by decide +kernel
theorem pk_325 : pz_ckm 12 82 153 ps_12 cX12_dIsWell pr_325 = true := by decide +kernel
theorem pv_325 : pz_c60 pr_325 = true := by decide +kernel
theorem pk_326 : pz_ckm 12 82 153 ps_12 cX12_dLeast pr_326 = true := by decide +kernel
theorem pv_326 : pz_c60 pr_326 = true := by decide +kernel
theorem pk_327 : pz_ckm 12 82 153 ps_12 cX12_dPallet pr_327 = true := by decide +kernel
theorem pv_327 : pz_c60 pr_327 = true := by decide +kernel
theorem pk_328 : pz_ckm 12 82 153 ps_12 cX12_dSeason pr_328 = true := by decide +kernel
theorem pv_328 : pz_c60 pr_328 = true := by decide +kernel
theorem pk_329 : pz_ckm 12 82 153 ps_12 cX12_dSoldOf pr_329 = true := by decide +kernel
theorem pv_329 : pz_c60 pr_329 = true := by decide +kernel
theorem pk_330 : pz_ckm 12 82 153 ps_12 cX12_dSort pr_330 = true := by decide +kernel
theorem pv_330 : pz_c60 pr_330 = true := by decide +kernel
theorem pk_331 : pz_ckm 12 82 153 ps_12 cX12_dSound pr_331 = true := by decide +kernel
theorem pv_331 : pz_c60 pr_331 = true := by decide +kernel
theorem pk_332 : pz_ckm 12 82 153 ps_12 cX12_dTerm pr_332 = true := by decide +kernel
theorem pv_332 : pz_c60 pr_332 = true := by decide +kernel
theorem pk_333 : pz_ckm 12 82 153 ps_12 cX12_dWays pr_333 = true := by decide +kernel
theorem pv_333 : pz_c60 pr_333 = true := by decide +kernel
theorem pk_334 : pz_ckm 12 82 153 ps_12 cX12_deed pr_334 = true := by decide +kernel
theorem pv_334 : pz_c60 pr_334 = true := by decide +kernel
theorem pk_335 : pz_ckm 12 82 153 ps_12 cX12_deliver pr_335 = true := by decide +kernel
theorem pv_335 : pz_c60 pr_335 = true := by decide +kernel
theorem pk_336 : pz_ckm 12 82 153 ps_12 cX12_docks pr_336 = true := by decide +kernel
theorem pv_336 : pz_c60 pr_336 = true := by decide +kernel
theorem pk_337 : pz_ckm 12 82 153 ps_12 cX12_draw pr_337 = true := by decide +kernel
theorem pv_337 : pz_c60 pr_337 = true := by decide +kernel
theorem pk_338 : pz_ckm 12 82 153 ps_12 cX12_dump pr_338 = true := by decide +kernel
theorem pv_338 : pz_c60 pr_338 = true := by decide +kernel
theorem pk_339 : pz_ckm 12 82 153 ps_12 cX12_entry pr_339 = true := by decide +kernel
theorem pv_339 : pz_c60 pr_339 = true := by decide +kernel
theorem pk_340 : pz_ckm 12 82 153 ps_12 cX12_fails pr_340 = true := by decide +kernel
theorem pv_340 : pz_c60 pr_340 = true := by decide +kernel
theorem pk_341 : pz_ckm 12 82 153 ps_12 cX12_fewest pr_341 = true := by decide +kernel
theorem pv_341 : pz_c60 pr_341 = true := by decide +kernel
theorem pk_342 : pz_ckm 12 82 153 ps_12 cX12_found pr_342 = true := by decide +kernel
theorem pv_342 : pz_c60 pr_342 = true := by decide +kernel
theorem pk_343 : pz_ckm 12 82 153 ps_12 cX12_gAt pr_343 = true := by decide +kernel
theorem pv_343 : pz_c60 pr_343 = true := by decide +kernel
theorem pk_344 : pz_ckm 12 82 153 ps_12 cX12_gas pr_344 = true := by decide +kernel
theorem pv_344 : pz_c60 pr_344 = true := by decide +kernel
theorem pk_345 : pz_ckm 12 82 153 ps_12 cX12_grade pr_345 = true := by decide +kernel
theorem pv_345 : pz_c60 pr_345 = true := by decide +kernel
theorem pk_346 : pz_ckm 12 82 153 ps_12 cX12_gross pr_346 = true := by decide +kernel
theorem pv_346 : pz_c60 pr_346 = true := by decide +kernel
theorem pk_347 : pz_ckm 12 82 153 ps_12 cX12_grower pr_347 = true := by decide +kernel
theorem pv_347 : pz_c60 pr_347 = true := by decide +kernel
theorem pk_348 : pz_ckm 12 82 153 ps_12 cX12_grown pr_348 = true := by decide +kernel
theorem pv_348 : pz_c60 pr_348 = true := by decide +kernel
theorem pk_349 : pz_ckm 12 82 153 ps_12 cX12_hand pr_349 = true := by decide +kernel
theorem pv_349 : pz_c60 pr_349 = true := by decide +kernel
theorem pk_350 : pz_ckm 12 82 153 ps_12 cX12_haul pr_350 = true := by decide +kernel
theorem pv_350 : pz_c60 pr_350 = true := by decide +kernel
theorem pk_351 : pz_ckm 12 82 153 ps_12 cX12_hold pr_351 = true := by decide +kernel
theorem pv_351 : pz_c60 pr_351 = true := by decide +kernel
theorem pk_352 : pz_ckm 12 82 153 ps_12 cX12_hour pr_352 = true := by decide +kernel
theorem pv_352 : pz_c60 pr_352 = true := by decide +kernel
theorem pk_353 : pz_ckm 12 82 153 ps_12 cX12_iAt pr_353 = true := by decide +kernel
theorem pv_353 : pz_c60 pr_353 = true := by decide +kernel
theorem pk_354 : pz_ckm 12 82 153 ps_12 cX12_iBegin pr_354 = true := by decide +kernel
theorem pv_354 : pz_c60 pr_354 = true := by decide +kernel
theorem pk_355 : pz_ckm 12 82 153 ps_12 cX12_iFigureAt pr_355 = true := by decide +kernel
theorem pv_355 : pz_c60 pr_355 = true := by decide +kernel
theorem pk_356 : pz_ckm 12 82 153 ps_12 cX12_iFindMost pr_356 = true := by decide +kernel
theorem pv_356 : pz_c60 pr_356 = true := by decide +kernel
theorem pk_357 : pz_ckm 12 82 153 ps_12 cX12_iFinds pr_357 = true := by decide +kernel
theorem pv_357 : pz_c60 pr_357 = true := by decide +kernel
theorem pk_358 : pz_ckm 12 82 153 ps_12 cX12_iHour pr_358 = true := by decide +kernel
theorem pv_358 : pz_c60 pr_358 = true := by decide +kernel
theorem pk_359 : pz_ckm 12 82 153 ps_12 cX12_iInspector pr_359 = true := by decide +kernel
theorem pv_359 : pz_c60 pr_359 = true := by decide +kernel
theorem pk_360 : pz_ckm 12 82 153 ps_12 cX12_iInspectors pr_360 = true := by decide +kernel
theorem pv_360 : pz_c60 pr_360 = true := by decide +kernel
theorem pk_361 : pz_ckm 12 82 153 ps_12 cX12_iIsRow pr_361 = true := by decide +kernel
theorem pv_361 : pz_c60 pr_361 = true := by decide +kernel
theorem pk_362 : pz_ckm 12 82 153 ps_12 cX12_iIsWell pr_362 = true := by decide +kernel
theorem pv_362 : pz_c60 pr_362 = true := by decide +kernel
theorem pk_363 : pz_ckm 12 82 153 ps_12 cX12_iKeep pr_363 = true := by decide +kernel
theorem pv_363 : pz_c60 pr_363 = true := by decide +kernel
theorem pk_364 : pz_ckm 12 82 153 ps_12 cX12_iKind pr_364 = true := by decide +kernel
theorem pv_364 : pz_c60 pr_364 = true := by decide +kernel
theorem pk_365 : pz_ckm 12 82 153 ps_12 cX12_iLook pr_365 = true := by decide +kernel
theorem pv_365 : pz_c60 pr_365 = true := by decide +kernel
theorem pk_366 : pz_ckm 12 82 153 ps_12 cX12_iLooked pr_366 = true := by decide +kernel
theorem pv_366 : pz_c60 pr_366 = true := by decide +kernel
theorem pk_367 : pz_ckm 12 82 153 ps_12 cX12_iNext pr_367 = true := by decide +kernel
theorem pv_367 : pz_c60 pr_367 = true := by decide +kernel
theorem pk_368 : pz_ckm 12 82 153 ps_12 cX12_iPlace pr_368 = true := by decide +kernel
theorem pv_368 : pz_c60 pr_368 = true := by decide +kernel
theorem pk_369 : pz_ckm 12 82 153 ps_12 cX12_iSearch pr_369 = true := by decide +kernel
theorem pv_369 : pz_c60 pr_369 = true := by decide +kernel
theorem pk_370 : pz_ckm 12 82 153 ps_12 cX12_iSeason pr_370 = true := by decide +kernel
theorem pv_370 : pz_c60 pr_370 = true := by decide +kernel
theorem pk_371 : pz_ckm 12 82 153 ps_12 cX12_iSeized pr_371 = true := by decide +kernel
theorem pv_371 : pz_c60 pr_371 = true := by decide +kernel
theorem pk_372 : pz_ckm 12 82 153 ps_12 cX12_iSound pr_372 = true := by decide +kernel
theorem pv_372 : pz_c60 pr_372 = true := by decide +kernel
theorem pk_373 : pz_ckm 12 82 153 ps_12 cX12_iStop pr_373 = true := by decide +kernel
theorem pv_373 : pz_c60 pr_373 = true := by decide +kernel
theorem pk_374 : pz_ckm 12 82 153 ps_12 cX12_iStops pr_374 = true := by decide +kernel
theorem pv_374 : pz_c60 pr_374 = true := by decide +kernel
theorem pk_375 : pz_ckm 12 82 153 ps_12 cX12_in pr_375 = true := by decide +kernel
theorem pv_375 : pz_c60 pr_375 = true := by decide +kernel
theorem pk_376 : pz_ckm 12 82 153 ps_12 cX12_init pr_376 = true := by decide +kernel
theorem pv_376 : pz_c60 pr_376 = true := by decide +kernel
theorem pk_377 : pz_ckm 12 82 153 ps_12 cX12_inspector pr_377 = true := by decide +kernel
theorem pv_377 : pz_c60 pr_377 = true := by decide +kernel
theorem pk_378 : pz_ckm 12 82 153 ps_12 cX12_isAtDock pr_378 = true := by decide +kernel
theorem pv_378 : pz_c60 pr_378 = true := by decide +kernel
theorem pk_379 : pz_ckm 12 82 153 ps_12 cX12_isBuyer pr_379 = true := by decide +kernel
theorem pv_379 : pz_c60 pr_379 = true := by decide +kernel
theorem pk_380 : pz_ckm 12 82 153 ps_12 cX12_isClock pr_380 = true := by decide +kernel
theorem pv_380 : pz_c60 pr_380 = true := by decide +kernel
theorem pk_381 : pz_ckm 12 82 153 ps_12 cX12_isGrower pr_381 = true := by decide +kernel
theorem pv_381 : pz_c60 pr_381 = true := by decide +kernel
theorem pk_382 : pz_ckm 12 82 153 ps_12 cX12_isIn pr_382 = true := by decide +kernel
theorem pv_382 : pz_c60 pr_382 = true := by decide +kernel
theorem pk_383 : pz_ckm 12 82 153 ps_12 cX12_isInspector pr_383 = true := by decide +kernel
theorem pv_383 : pz_c60 pr_383 = true := by decide +kernel
theorem pk_384 : pz_ckm 12 82 153 ps_12 cX12_isOpen pr_384 = true := by decide +kernel
theorem pv_384 : pz_c60 pr_384 = true := by decide +kernel
theorem pk_385 : pz_ckm 12 82 153 ps_12 cX12_isOrder pr_385 = true := by decide +kernel
theorem pv_385 : pz_c60 pr_385 = true := by decide +kernel
theorem pk_386 : pz_ckm 12 82 153 ps_12 cX12_isOut pr_386 = true := by decide +kernel
theorem pv_386 : pz_c60 pr_386 = true := by decide +kernel
theorem pk_387 : pz_ckm 12 82 153 ps_12 cX12_isPallet pr_387 = true := by decide +kernel
theorem pv_387 : pz_c60 pr_387 = true := by decide +kernel
theorem pk_388 : pz_ckm 12 82 153 ps_12 cX12_isParcel pr_388 = true := by decide +kernel
theorem pv_388 : pz_c60 pr_388 = true := by decide +kernel
theorem pk_389 : pz_ckm 12 82 153 ps_12 cX12_isRoom pr_389 = true := by decide +kernel
theorem pv_389 : pz_c60 pr_389 = true := by decide +kernel
theorem pk_390 : pz_ckm 12 82 153 ps_12 cX12_isShut pr_390 = true := by decide +kernel
theorem pv_390 : pz_c60 pr_390 = true := by decide +kernel
theorem pk_391 : pz_ckm 12 82 153 ps_12 cX12_isSort pr_391 = true := by decide +kernel
theorem pv_391 : pz_c60 pr_391 = true := by decide +kernel
theorem pk_392 : pz_ckm 12 82 153 ps_12 cX12_isSound pr_392 = true := by decide +kernel
theorem pv_392 : pz_c60 pr_392 = true := by decide +kernel
