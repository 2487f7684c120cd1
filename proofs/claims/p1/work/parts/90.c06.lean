/-! checks of methods 393 to 459 -/
theorem pk_393 : pz_ckm 12 82 153 ps_12 cX12_isThere pr_393 = true := by decide +kernel
theorem pv_393 : pz_c60 pr_393 = true := by decide +kernel
theorem pk_394 : pz_ckm 12 82 153 ps_12 cX12_isTruck pr_394 = true := by decide +kernel
theorem pv_394 : pz_c60 pr_394 = true := by decide +kernel
theorem pk_395 : pz_ckm 12 82 153 ps_12 cX12_isWaitingOf pr_395 = true := by decide +kernel
theorem pv_395 : pz_c60 pr_395 = true := by decide +kernel
theorem pk_396 : pz_ckm 12 82 153 ps_12 cX12_kAhead pr_396 = true := by decide +kernel
theorem pv_396 : pz_c60 pr_396 = true := by decide +kernel
theorem pk_397 : pz_ckm 12 82 153 ps_12 cX12_kAt pr_397 = true := by decide +kernel
theorem pv_397 : pz_c60 pr_397 = true := by decide +kernel
theorem pk_398 : pz_ckm 12 82 153 ps_12 cX12_kAward pr_398 = true := by decide +kernel
theorem pv_398 : pz_c60 pr_398 = true := by decide +kernel
theorem pk_399 : pz_ckm 12 82 153 ps_12 cX12_kBears pr_399 = true := by decide +kernel
theorem pv_399 : pz_c60 pr_399 = true := by decide +kernel
theorem pk_400 : pz_ckm 12 82 153 ps_12 cX12_kBegin pr_400 = true := by decide +kernel
theorem pv_400 : pz_c60 pr_400 = true := by decide +kernel
theorem pk_401 : pz_ckm 12 82 153 ps_12 cX12_kBound pr_401 = true := by decide +kernel
theorem pv_401 : pz_c60 pr_401 = true := by decide +kernel
theorem pk_402 : pz_ckm 12 82 153 ps_12 cX12_kClose pr_402 = true := by decide +kernel
theorem pv_402 : pz_c60 pr_402 = true := by decide +kernel
theorem pk_403 : pz_ckm 12 82 153 ps_12 cX12_kEnter pr_403 = true := by decide +kernel
theorem pv_403 : pz_c60 pr_403 = true := by decide +kernel
theorem pk_404 : pz_ckm 12 82 153 ps_12 cX12_kFee pr_404 = true := by decide +kernel
theorem pv_404 : pz_c60 pr_404 = true := by decide +kernel
theorem pk_405 : pz_ckm 12 82 153 ps_12 cX12_kFinding pr_405 = true := by decide +kernel
theorem pv_405 : pz_c60 pr_405 = true := by decide +kernel
theorem pk_406 : pz_ckm 12 82 153 ps_12 cX12_kGrowerOf pr_406 = true := by decide +kernel
theorem pv_406 : pz_c60 pr_406 = true := by decide +kernel
theorem pk_407 : pz_ckm 12 82 153 ps_12 cX12_kHauled pr_407 = true := by decide +kernel
theorem pv_407 : pz_c60 pr_407 = true := by decide +kernel
theorem pk_408 : pz_ckm 12 82 153 ps_12 cX12_kJudges pr_408 = true := by decide +kernel
theorem pv_408 : pz_c60 pr_408 = true := by decide +kernel
theorem pk_409 : pz_ckm 12 82 153 ps_12 cX12_kLost pr_409 = true := by decide +kernel
theorem pv_409 : pz_c60 pr_409 = true := by decide +kernel
theorem pk_410 : pz_ckm 12 82 153 ps_12 cX12_kMayQuarrel pr_410 = true := by decide +kernel
theorem pv_410 : pz_c60 pr_410 = true := by decide +kernel
theorem pk_411 : pz_ckm 12 82 153 ps_12 cX12_kOne pr_411 = true := by decide +kernel
theorem pv_411 : pz_c60 pr_411 = true := by decide +kernel
theorem pk_412 : pz_ckm 12 82 153 ps_12 cX12_kPaid pr_412 = true := by decide +kernel
theorem pv_412 : pz_c60 pr_412 = true := by decide +kernel
theorem pk_413 : pz_ckm 12 82 153 ps_12 cX12_kPaysGrowers pr_413 = true := by decide +kernel
theorem pv_413 : pz_c60 pr_413 = true := by decide +kernel
theorem pk_414 : pz_ckm 12 82 153 ps_12 cX12_kQuarrels pr_414 = true := by decide +kernel
theorem pv_414 : pz_c60 pr_414 = true := by decide +kernel
theorem pk_415 : pz_ckm 12 82 153 ps_12 cX12_kQuarrelsSound pr_415 = true := by decide +kernel
theorem pv_415 : pz_c60 pr_415 = true := by decide +kernel
theorem pk_416 : pz_ckm 12 82 153 ps_12 cX12_kRipened pr_416 = true := by decide +kernel
theorem pv_416 : pz_c60 pr_416 = true := by decide +kernel
theorem pk_417 : pz_ckm 12 82 153 ps_12 cX12_kSample pr_417 = true := by decide +kernel
theorem pv_417 : pz_c60 pr_417 = true := by decide +kernel
theorem pk_418 : pz_ckm 12 82 153 ps_12 cX12_kShare pr_418 = true := by decide +kernel
theorem pv_418 : pz_c60 pr_418 = true := by decide +kernel
theorem pk_419 : pz_ckm 12 82 153 ps_12 cX12_kSold pr_419 = true := by decide +kernel
theorem pv_419 : pz_c60 pr_419 = true := by decide +kernel
theorem pk_420 : pz_ckm 12 82 153 ps_12 cX12_kSound pr_420 = true := by decide +kernel
theorem pv_420 : pz_c60 pr_420 = true := by decide +kernel
theorem pk_421 : pz_ckm 12 82 153 ps_12 cX12_kStage pr_421 = true := by decide +kernel
theorem pv_421 : pz_c60 pr_421 = true := by decide +kernel
theorem pk_422 : pz_ckm 12 82 153 ps_12 cX12_kToResult pr_422 = true := by decide +kernel
theorem pv_422 : pz_c60 pr_422 = true := by decide +kernel
theorem pk_423 : pz_ckm 12 82 153 ps_12 cX12_kWeight pr_423 = true := by decide +kernel
theorem pv_423 : pz_c60 pr_423 = true := by decide +kernel
theorem pk_424 : pz_ckm 12 82 153 ps_12 cX12_keep pr_424 = true := by decide +kernel
theorem pv_424 : pz_c60 pr_424 = true := by decide +kernel
theorem pk_425 : pz_ckm 12 82 153 ps_12 cX12_kept pr_425 = true := by decide +kernel
theorem pv_425 : pz_c60 pr_425 = true := by decide +kernel
theorem pk_426 : pz_ckm 12 82 153 ps_12 cX12_load pr_426 = true := by decide +kernel
theorem pv_426 : pz_c60 pr_426 = true := by decide +kernel
theorem pk_427 : pz_ckm 12 82 153 ps_12 cX12_looked pr_427 = true := by decide +kernel
theorem pv_427 : pz_c60 pr_427 = true := by decide +kernel
theorem pk_428 : pz_ckm 12 82 153 ps_12 cX12_lot pr_428 = true := by decide +kernel
theorem pv_428 : pz_c60 pr_428 = true := by decide +kernel
theorem pk_429 : pz_ckm 12 82 153 ps_12 cX12_mCleared pr_429 = true := by decide +kernel
theorem pv_429 : pz_c60 pr_429 = true := by decide +kernel
theorem pk_430 : pz_ckm 12 82 153 ps_12 cX12_mCome pr_430 = true := by decide +kernel
theorem pv_430 : pz_c60 pr_430 = true := by decide +kernel
theorem pk_431 : pz_ckm 12 82 153 ps_12 cX12_mGone pr_431 = true := by decide +kernel
theorem pv_431 : pz_c60 pr_431 = true := by decide +kernel
theorem pk_432 : pz_ckm 12 82 153 ps_12 cX12_mLost pr_432 = true := by decide +kernel
theorem pv_432 : pz_c60 pr_432 = true := by decide +kernel
theorem pk_433 : pz_ckm 12 82 153 ps_12 cX12_mSold pr_433 = true := by decide +kernel
theorem pv_433 : pz_c60 pr_433 = true := by decide +kernel
theorem pk_434 : pz_ckm 12 82 153 ps_12 cX12_mStage pr_434 = true := by decide +kernel
theorem pv_434 : pz_c60 pr_434 = true := by decide +kernel
theorem pk_435 : pz_ckm 12 82 153 ps_12 cX12_mWaiting pr_435 = true := by decide +kernel
theorem pv_435 : pz_c60 pr_435 = true := by decide +kernel
theorem pk_436 : pz_ckm 12 82 153 ps_12 cX12_match pr_436 = true := by decide +kernel
theorem pv_436 : pz_c60 pr_436 = true := by decide +kernel
theorem pk_437 : pz_ckm 12 82 153 ps_12 cX12_mayLoad pr_437 = true := by decide +kernel
theorem pv_437 : pz_c60 pr_437 = true := by decide +kernel
theorem pk_438 : pz_ckm 12 82 153 ps_12 cX12_now pr_438 = true := by decide +kernel
theorem pv_438 : pz_c60 pr_438 = true := by decide +kernel
theorem pk_439 : pz_ckm 12 82 153 ps_12 cX12_oAt pr_439 = true := by decide +kernel
theorem pv_439 : pz_c60 pr_439 = true := by decide +kernel
theorem pk_440 : pz_ckm 12 82 153 ps_12 cX12_odds pr_440 = true := by decide +kernel
theorem pv_440 : pz_c60 pr_440 = true := by decide +kernel
theorem pk_441 : pz_ckm 12 82 153 ps_12 cX12_order pr_441 = true := by decide +kernel
theorem pv_441 : pz_c60 pr_441 = true := by decide +kernel
theorem pk_442 : pz_ckm 12 82 153 ps_12 cX12_ordered pr_442 = true := by decide +kernel
theorem pv_442 : pz_c60 pr_442 = true := by decide +kernel
theorem pk_443 : pz_ckm 12 82 153 ps_12 cX12_outside pr_443 = true := by decide +kernel
theorem pv_443 : pz_c60 pr_443 = true := by decide +kernel
theorem pk_444 : pz_ckm 12 82 153 ps_12 cX12_owed pr_444 = true := by decide +kernel
theorem pv_444 : pz_c60 pr_444 = true := by decide +kernel
theorem pk_445 : pz_ckm 12 82 153 ps_12 cX12_owes pr_445 = true := by decide +kernel
theorem pv_445 : pz_c60 pr_445 = true := by decide +kernel
theorem pk_446 : pz_ckm 12 82 153 ps_12 cX12_pAt pr_446 = true := by decide +kernel
theorem pv_446 : pz_c60 pr_446 = true := by decide +kernel
theorem pk_447 : pz_ckm 12 82 153 ps_12 cX12_pal pr_447 = true := by decide +kernel
theorem pv_447 : pz_c60 pr_447 = true := by decide +kernel
theorem pk_448 : pz_ckm 12 82 153 ps_12 cX12_pallet pr_448 = true := by decide +kernel
theorem pv_448 : pz_c60 pr_448 = true := by decide +kernel
theorem pk_449 : pz_ckm 12 82 153 ps_12 cX12_parcel pr_449 = true := by decide +kernel
theorem pv_449 : pz_c60 pr_449 = true := by decide +kernel
theorem pk_450 : pz_ckm 12 82 153 ps_12 cX12_pass pr_450 = true := by decide +kernel
theorem pv_450 : pz_c60 pr_450 = true := by decide +kernel
theorem pk_451 : pz_ckm 12 82 153 ps_12 cX12_pay pr_451 = true := by decide +kernel
theorem pv_451 : pz_c60 pr_451 = true := by decide +kernel
theorem pk_452 : pz_ckm 12 82 153 ps_12 cX12_plan pr_452 = true := by decide +kernel
theorem pv_452 : pz_c60 pr_452 = true := by decide +kernel
theorem pk_453 : pz_ckm 12 82 153 ps_12 cX12_put pr_453 = true := by decide +kernel
theorem pv_453 : pz_c60 pr_453 = true := by decide +kernel
theorem pk_454 : pz_ckm 12 82 153 ps_12 cX12_qAt pr_454 = true := by decide +kernel
theorem pv_454 : pz_c60 pr_454 = true := by decide +kernel
theorem pk_455 : pz_ckm 12 82 153 ps_12 cX12_qHarm pr_455 = true := by decide +kernel
theorem pv_455 : pz_c60 pr_455 = true := by decide +kernel
theorem pk_456 : pz_ckm 12 82 153 ps_12 cX12_qRipe pr_456 = true := by decide +kernel
theorem pv_456 : pz_c60 pr_456 = true := by decide +kernel
theorem pk_457 : pz_ckm 12 82 153 ps_12 cX12_quarrel pr_457 = true := by decide +kernel
theorem pv_457 : pz_c60 pr_457 = true := by decide +kernel
theorem pk_458 : pz_ckm 12 82 153 ps_12 cX12_quarrelled pr_458 = true := by decide +kernel
theorem pv_458 : pz_c60 pr_458 = true := by decide +kernel
theorem pk_459 : pz_ckm 12 82 153 ps_12 cX12_queue pr_459 = true := by decide +kernel
theorem pv_459 : pz_c60 pr_459 = true := by decide +kernel
