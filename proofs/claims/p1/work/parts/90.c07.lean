/-! checks of methods 460 to 531 -/
theorem pk_460 : pz_ckm 12 82 153 ps_12 cX12_rAlone pr_460 = true := by decide +kernel
theorem pv_460 : pz_c60 pr_460 = true := by decide +kernel
theorem pk_461 : pz_ckm 12 82 153 ps_12 cX12_rAt pr_461 = true := by decide +kernel
theorem pv_461 : pz_c60 pr_461 = true := by decide +kernel
theorem pk_462 : pz_ckm 12 82 153 ps_12 cX12_rBegin pr_462 = true := by decide +kernel
theorem pv_462 : pz_c60 pr_462 = true := by decide +kernel
theorem pk_463 : pz_ckm 12 82 153 ps_12 cX12_rClosed pr_463 = true := by decide +kernel
theorem pv_463 : pz_c60 pr_463 = true := by decide +kernel
theorem pk_464 : pz_ckm 12 82 153 ps_12 cX12_rDoes pr_464 = true := by decide +kernel
theorem pv_464 : pz_c60 pr_464 = true := by decide +kernel
theorem pk_465 : pz_ckm 12 82 153 ps_12 cX12_rDoor pr_465 = true := by decide +kernel
theorem pv_465 : pz_c60 pr_465 = true := by decide +kernel
theorem pk_466 : pz_ckm 12 82 153 ps_12 cX12_rFigure pr_466 = true := by decide +kernel
theorem pv_466 : pz_c60 pr_466 = true := by decide +kernel
theorem pk_467 : pz_ckm 12 82 153 ps_12 cX12_rFindBest pr_467 = true := by decide +kernel
theorem pv_467 : pz_c60 pr_467 = true := by decide +kernel
theorem pk_468 : pz_ckm 12 82 153 ps_12 cX12_rFindThree pr_468 = true := by decide +kernel
theorem pv_468 : pz_c60 pr_468 = true := by decide +kernel
theorem pk_469 : pz_ckm 12 82 153 ps_12 cX12_rFine pr_469 = true := by decide +kernel
theorem pv_469 : pz_c60 pr_469 = true := by decide +kernel
theorem pk_470 : pz_ckm 12 82 153 ps_12 cX12_rHarms pr_470 = true := by decide +kernel
theorem pv_470 : pz_c60 pr_470 = true := by decide +kernel
theorem pk_471 : pz_ckm 12 82 153 ps_12 cX12_rHour pr_471 = true := by decide +kernel
theorem pv_471 : pz_c60 pr_471 = true := by decide +kernel
theorem pk_472 : pz_ckm 12 82 153 ps_12 cX12_rInto pr_472 = true := by decide +kernel
theorem pv_472 : pz_c60 pr_472 = true := by decide +kernel
theorem pk_473 : pz_ckm 12 82 153 ps_12 cX12_rIsOlder pr_473 = true := by decide +kernel
theorem pv_473 : pz_c60 pr_473 = true := by decide +kernel
theorem pk_474 : pz_ckm 12 82 153 ps_12 cX12_rIsPlaced pr_474 = true := by decide +kernel
theorem pv_474 : pz_c60 pr_474 = true := by decide +kernel
theorem pk_475 : pz_ckm 12 82 153 ps_12 cX12_rKept pr_475 = true := by decide +kernel
theorem pv_475 : pz_c60 pr_475 = true := by decide +kernel
theorem pk_476 : pz_ckm 12 82 153 ps_12 cX12_rLeft pr_476 = true := by decide +kernel
theorem pv_476 : pz_c60 pr_476 = true := by decide +kernel
theorem pk_477 : pz_ckm 12 82 153 ps_12 cX12_rMayPut pr_477 = true := by decide +kernel
theorem pv_477 : pz_c60 pr_477 = true := by decide +kernel
theorem pk_478 : pz_ckm 12 82 153 ps_12 cX12_rOut pr_478 = true := by decide +kernel
theorem pv_478 : pz_c60 pr_478 = true := by decide +kernel
theorem pk_479 : pz_ckm 12 82 153 ps_12 cX12_rOutside pr_479 = true := by decide +kernel
theorem pv_479 : pz_c60 pr_479 = true := by decide +kernel
theorem pk_480 : pz_ckm 12 82 153 ps_12 cX12_rPallet pr_480 = true := by decide +kernel
theorem pv_480 : pz_c60 pr_480 = true := by decide +kernel
theorem pk_481 : pz_ckm 12 82 153 ps_12 cX12_rPalletAges pr_481 = true := by decide +kernel
theorem pv_481 : pz_c60 pr_481 = true := by decide +kernel
theorem pk_482 : pz_ckm 12 82 153 ps_12 cX12_rParcelAges pr_482 = true := by decide +kernel
theorem pv_482 : pz_c60 pr_482 = true := by decide +kernel
theorem pk_483 : pz_ckm 12 82 153 ps_12 cX12_rRipe pr_483 = true := by decide +kernel
theorem pv_483 : pz_c60 pr_483 = true := by decide +kernel
theorem pk_484 : pz_ckm 12 82 153 ps_12 cX12_rRipens pr_484 = true := by decide +kernel
theorem pv_484 : pz_c60 pr_484 = true := by decide +kernel
theorem pk_485 : pz_ckm 12 82 153 ps_12 cX12_rRoom pr_485 = true := by decide +kernel
theorem pv_485 : pz_c60 pr_485 = true := by decide +kernel
theorem pk_486 : pz_ckm 12 82 153 ps_12 cX12_rSeason pr_486 = true := by decide +kernel
theorem pv_486 : pz_c60 pr_486 = true := by decide +kernel
theorem pk_487 : pz_ckm 12 82 153 ps_12 cX12_rSound pr_487 = true := by decide +kernel
theorem pv_487 : pz_c60 pr_487 = true := by decide +kernel
theorem pk_488 : pz_ckm 12 82 153 ps_12 cX12_rStanding pr_488 = true := by decide +kernel
theorem pv_488 : pz_c60 pr_488 = true := by decide +kernel
theorem pk_489 : pz_ckm 12 82 153 ps_12 cX12_rTowards pr_489 = true := by decide +kernel
theorem pv_489 : pz_c60 pr_489 = true := by decide +kernel
theorem pk_490 : pz_ckm 12 82 153 ps_12 cX12_rWarms pr_490 = true := by decide +kernel
theorem pv_490 : pz_c60 pr_490 = true := by decide +kernel
theorem pk_491 : pz_ckm 12 82 153 ps_12 cX12_rWays pr_491 = true := by decide +kernel
theorem pv_491 : pz_c60 pr_491 = true := by decide +kernel
theorem pk_492 : pz_ckm 12 82 153 ps_12 cX12_rWorked pr_492 = true := by decide +kernel
theorem pv_492 : pz_c60 pr_492 = true := by decide +kernel
theorem pk_493 : pz_ckm 12 82 153 ps_12 cX12_release pr_493 = true := by decide +kernel
theorem pv_493 : pz_c60 pr_493 = true := by decide +kernel
theorem pk_494 : pz_ckm 12 82 153 ps_12 cX12_ripe pr_494 = true := by decide +kernel
theorem pv_494 : pz_c60 pr_494 = true := by decide +kernel
theorem pk_495 : pz_ckm 12 82 153 ps_12 cX12_room pr_495 = true := by decide +kernel
theorem pv_495 : pz_c60 pr_495 = true := by decide +kernel
theorem pk_496 : pz_ckm 12 82 153 ps_12 cX12_round pr_496 = true := by decide +kernel
theorem pv_496 : pz_c60 pr_496 = true := by decide +kernel
theorem pk_497 : pz_ckm 12 82 153 ps_12 cX12_season pr_497 = true := by decide +kernel
theorem pv_497 : pz_c60 pr_497 = true := by decide +kernel
theorem pk_498 : pz_ckm 12 82 153 ps_12 cX12_seed pr_498 = true := by decide +kernel
theorem pv_498 : pz_c60 pr_498 = true := by decide +kernel
theorem pk_499 : pz_ckm 12 82 153 ps_12 cX12_send pr_499 = true := by decide +kernel
theorem pv_499 : pz_c60 pr_499 = true := by decide +kernel
theorem pk_500 : pz_ckm 12 82 153 ps_12 cX12_set pr_500 = true := by decide +kernel
theorem pv_500 : pz_c60 pr_500 = true := by decide +kernel
theorem pk_501 : pz_ckm 12 82 153 ps_12 cX12_shares pr_501 = true := by decide +kernel
theorem pv_501 : pz_c60 pr_501 = true := by decide +kernel
theorem pk_502 : pz_ckm 12 82 153 ps_12 cX12_sign pr_502 = true := by decide +kernel
theorem pv_502 : pz_c60 pr_502 = true := by decide +kernel
theorem pk_503 : pz_ckm 12 82 153 ps_12 cX12_sort pr_503 = true := by decide +kernel
theorem pv_503 : pz_c60 pr_503 = true := by decide +kernel
theorem pk_504 : pz_ckm 12 82 153 ps_12 cX12_sum pr_504 = true := by decide +kernel
theorem pv_504 : pz_c60 pr_504 = true := by decide +kernel
theorem pk_505 : pz_ckm 12 82 153 ps_12 cX12_tArrive pr_505 = true := by decide +kernel
theorem pv_505 : pz_c60 pr_505 = true := by decide +kernel
theorem pk_506 : pz_ckm 12 82 153 ps_12 cX12_tArrives pr_506 = true := by decide +kernel
theorem pv_506 : pz_c60 pr_506 = true := by decide +kernel
theorem pk_507 : pz_ckm 12 82 153 ps_12 cX12_tAt pr_507 = true := by decide +kernel
theorem pv_507 : pz_c60 pr_507 = true := by decide +kernel
theorem pk_508 : pz_ckm 12 82 153 ps_12 cX12_tAtDocks pr_508 = true := by decide +kernel
theorem pv_508 : pz_c60 pr_508 = true := by decide +kernel
theorem pk_509 : pz_ckm 12 82 153 ps_12 cX12_tBegin pr_509 = true := by decide +kernel
theorem pv_509 : pz_c60 pr_509 = true := by decide +kernel
theorem pk_510 : pz_ckm 12 82 153 ps_12 cX12_tFewest pr_510 = true := by decide +kernel
theorem pv_510 : pz_c60 pr_510 = true := by decide +kernel
theorem pk_511 : pz_ckm 12 82 153 ps_12 cX12_tFindTrip pr_511 = true := by decide +kernel
theorem pv_511 : pz_c60 pr_511 = true := by decide +kernel
theorem pk_512 : pz_ckm 12 82 153 ps_12 cX12_tGo pr_512 = true := by decide +kernel
theorem pv_512 : pz_c60 pr_512 = true := by decide +kernel
theorem pk_513 : pz_ckm 12 82 153 ps_12 cX12_tGoes pr_513 = true := by decide +kernel
theorem pv_513 : pz_c60 pr_513 = true := by decide +kernel
theorem pk_514 : pz_ckm 12 82 153 ps_12 cX12_tHoursOfRow pr_514 = true := by decide +kernel
theorem pv_514 : pz_c60 pr_514 = true := by decide +kernel
theorem pk_515 : pz_ckm 12 82 153 ps_12 cX12_tIsAt pr_515 = true := by decide +kernel
theorem pv_515 : pz_c60 pr_515 = true := by decide +kernel
theorem pk_516 : pz_ckm 12 82 153 ps_12 cX12_tIsYet pr_516 = true := by decide +kernel
theorem pv_516 : pz_c60 pr_516 = true := by decide +kernel
theorem pk_517 : pz_ckm 12 82 153 ps_12 cX12_tLayParts pr_517 = true := by decide +kernel
theorem pv_517 : pz_c60 pr_517 = true := by decide +kernel
theorem pk_518 : pz_ckm 12 82 153 ps_12 cX12_tLoad pr_518 = true := by decide +kernel
theorem pv_518 : pz_c60 pr_518 = true := by decide +kernel
theorem pk_519 : pz_ckm 12 82 153 ps_12 cX12_tLongBySets pr_519 = true := by decide +kernel
theorem pv_519 : pz_c60 pr_519 = true := by decide +kernel
theorem pk_520 : pz_ckm 12 82 153 ps_12 cX12_tLongNow pr_520 = true := by decide +kernel
theorem pv_520 : pz_c60 pr_520 = true := by decide +kernel
theorem pk_521 : pz_ckm 12 82 153 ps_12 cX12_tNext pr_521 = true := by decide +kernel
theorem pv_521 : pz_c60 pr_521 = true := by decide +kernel
theorem pk_522 : pz_ckm 12 82 153 ps_12 cX12_tNextRow pr_522 = true := by decide +kernel
theorem pv_522 : pz_c60 pr_522 = true := by decide +kernel
theorem pk_523 : pz_ckm 12 82 153 ps_12 cX12_tSeason pr_523 = true := by decide +kernel
theorem pv_523 : pz_c60 pr_523 = true := by decide +kernel
theorem pk_524 : pz_ckm 12 82 153 ps_12 cX12_tSound pr_524 = true := by decide +kernel
theorem pv_524 : pz_c60 pr_524 = true := by decide +kernel
theorem pk_525 : pz_ckm 12 82 153 ps_12 cX12_tTo pr_525 = true := by decide +kernel
theorem pv_525 : pz_c60 pr_525 = true := by decide +kernel
theorem pk_526 : pz_ckm 12 82 153 ps_12 cX12_tTownOf pr_526 = true := by decide +kernel
theorem pv_526 : pz_c60 pr_526 = true := by decide +kernel
theorem pk_527 : pz_ckm 12 82 153 ps_12 cX12_tTowns pr_527 = true := by decide +kernel
theorem pv_527 : pz_c60 pr_527 = true := by decide +kernel
theorem pk_528 : pz_ckm 12 82 153 ps_12 cX12_tTruckSound pr_528 = true := by decide +kernel
theorem pv_528 : pz_c60 pr_528 = true := by decide +kernel
theorem pk_529 : pz_ckm 12 82 153 ps_12 cX12_tTrucks pr_529 = true := by decide +kernel
theorem pv_529 : pz_c60 pr_529 = true := by decide +kernel
theorem pk_530 : pz_ckm 12 82 153 ps_12 cX12_tWarmth pr_530 = true := by decide +kernel
theorem pv_530 : pz_c60 pr_530 = true := by decide +kernel
theorem pk_531 : pz_ckm 12 82 153 ps_12 cX12_tWith pr_531 = true := by decide +kernel
theorem pv_531 : pz_c60 pr_531 = true := by decide +kernel
