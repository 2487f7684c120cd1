/-! checks of methods 532 to 631 -/
theorem pk_532 : pz_ckm 12 82 153 ps_12 cX12_taker pr_532 = true := by decide +kernel
theorem pv_532 : pz_c60 pr_532 = true := by decide +kernel
theorem pk_533 : pz_ckm 12 82 153 ps_12 cX12_takings pr_533 = true := by decide +kernel
theorem pv_533 : pz_c60 pr_533 = true := by decide +kernel
theorem pk_534 : pz_ckm 12 82 153 ps_12 cX12_tariff pr_534 = true := by decide +kernel
theorem pv_534 : pz_c60 pr_534 = true := by decide +kernel
theorem pk_535 : pz_ckm 12 82 153 ps_12 cX12_tasks pr_535 = true := by decide +kernel
theorem pv_535 : pz_c60 pr_535 = true := by decide +kernel
theorem pk_536 : pz_ckm 12 82 153 ps_12 cX12_thrown pr_536 = true := by decide +kernel
theorem pv_536 : pz_c60 pr_536 = true := by decide +kernel
theorem pk_537 : pz_ckm 12 82 153 ps_12 cX12_today pr_537 = true := by decide +kernel
theorem pv_537 : pz_c60 pr_537 = true := by decide +kernel
theorem pk_538 : pz_ckm 12 82 153 ps_12 cX12_trip pr_538 = true := by decide +kernel
theorem pv_538 : pz_c60 pr_538 = true := by decide +kernel
theorem pk_539 : pz_ckm 12 82 153 ps_12 cX12_truck pr_539 = true := by decide +kernel
theorem pv_539 : pz_c60 pr_539 = true := by decide +kernel
theorem pk_540 : pz_ckm 12 82 153 ps_12 cX12_uAt pr_540 = true := by decide +kernel
theorem pv_540 : pz_c60 pr_540 = true := by decide +kernel
theorem pk_541 : pz_ckm 12 82 153 ps_12 cX12_undo pr_541 = true := by decide +kernel
theorem pv_541 : pz_c60 pr_541 = true := by decide +kernel
theorem pk_542 : pz_ckm 12 82 153 ps_12 cX12_wAt pr_542 = true := by decide +kernel
theorem pv_542 : pz_c60 pr_542 = true := by decide +kernel
theorem pk_543 : pz_ckm 12 82 153 ps_12 cX12_way pr_543 = true := by decide +kernel
theorem pv_543 : pz_c60 pr_543 = true := by decide +kernel
theorem pk_544 : pz_ckm 12 82 153 ps_12 cX12_weekday pr_544 = true := by decide +kernel
theorem pv_544 : pz_c60 pr_544 = true := by decide +kernel
theorem pk_545 : pz_ckm 12 82 153 ps_12 cX12_well pr_545 = true := by decide +kernel
theorem pv_545 : pz_c60 pr_545 = true := by decide +kernel
theorem pk_546 : pz_ckm 12 82 153 ps_12 cX12_withdraw pr_546 = true := by decide +kernel
theorem pv_546 : pz_c60 pr_546 = true := by decide +kernel
theorem pk_547 : pz_ckm 12 82 153 ps_12 cX12_worst pr_547 = true := by decide +kernel
theorem pv_547 : pz_c60 pr_547 = true := by decide +kernel
theorem pk_548 : pz_ckm 12 82 153 ps_12 cX12_xAgain pr_548 = true := by decide +kernel
theorem pv_548 : pz_c60 pr_548 = true := by decide +kernel
theorem pk_549 : pz_ckm 12 82 153 ps_12 cX12_xAgainMore pr_549 = true := by decide +kernel
theorem pv_549 : pz_c60 pr_549 = true := by decide +kernel
theorem pk_550 : pz_ckm 12 82 153 ps_12 cX12_xDoAll pr_550 = true := by decide +kernel
theorem pv_550 : pz_c60 pr_550 = true := by decide +kernel
theorem pk_551 : pz_ckm 12 82 153 ps_12 cX12_xDoes pr_551 = true := by decide +kernel
theorem pv_551 : pz_c60 pr_551 = true := by decide +kernel
theorem pk_552 : pz_ckm 12 82 153 ps_12 cX12_xFault pr_552 = true := by decide +kernel
theorem pv_552 : pz_c60 pr_552 = true := by decide +kernel
theorem pk_553 : pz_ckm 12 82 153 ps_12 cX12_xHour pr_553 = true := by decide +kernel
theorem pv_553 : pz_c60 pr_553 = true := by decide +kernel
theorem pk_554 : pz_ckm 12 82 153 ps_12 cX12_xIsAsWorked pr_554 = true := by decide +kernel
theorem pv_554 : pz_c60 pr_554 = true := by decide +kernel
theorem pk_555 : pz_ckm 12 82 153 ps_12 cX12_xIsFigure pr_555 = true := by decide +kernel
theorem pv_555 : pz_c60 pr_555 = true := by decide +kernel
theorem pk_556 : pz_ckm 12 82 153 ps_12 cX12_xIsSound pr_556 = true := by decide +kernel
theorem pv_556 : pz_c60 pr_556 = true := by decide +kernel
theorem pk_557 : pz_ckm 12 82 153 ps_12 cX12_xKeep pr_557 = true := by decide +kernel
theorem pv_557 : pz_c60 pr_557 = true := by decide +kernel
theorem pk_558 : pz_ckm 12 82 153 ps_12 cX12_xMayBeNone pr_558 = true := by decide +kernel
theorem pv_558 : pz_c60 pr_558 = true := by decide +kernel
theorem pk_559 : pz_ckm 12 82 153 ps_12 cX12_xNumber pr_559 = true := by decide +kernel
theorem pv_559 : pz_c60 pr_559 = true := by decide +kernel
theorem pk_560 : pz_ckm 12 82 153 ps_12 cX12_xNumbers pr_560 = true := by decide +kernel
theorem pv_560 : pz_c60 pr_560 = true := by decide +kernel
theorem pk_561 : pz_ckm 12 82 153 ps_12 cX12_xPallets pr_561 = true := by decide +kernel
theorem pv_561 : pz_c60 pr_561 = true := by decide +kernel
theorem pk_562 : pz_ckm 12 82 153 ps_12 cX12_xParcels pr_562 = true := by decide +kernel
theorem pv_562 : pz_c60 pr_562 = true := by decide +kernel
theorem pk_563 : pz_ckm 12 82 153 ps_12 cX12_xRecord pr_563 = true := by decide +kernel
theorem pv_563 : pz_c60 pr_563 = true := by decide +kernel
theorem pk_564 : pz_ckm 12 82 153 ps_12 cX12_xRecordSigns pr_564 = true := by decide +kernel
theorem pv_564 : pz_c60 pr_564 = true := by decide +kernel
theorem pk_565 : pz_ckm 12 82 153 ps_12 cX12_xRow pr_565 = true := by decide +kernel
theorem pv_565 : pz_c60 pr_565 = true := by decide +kernel
theorem pk_566 : pz_ckm 12 82 153 ps_12 cX12_xSeason pr_566 = true := by decide +kernel
theorem pv_566 : pz_c60 pr_566 = true := by decide +kernel
theorem pk_567 : pz_ckm 12 82 153 ps_12 cX12_xSound pr_567 = true := by decide +kernel
theorem pv_567 : pz_c60 pr_567 = true := by decide +kernel
theorem pk_568 : pz_ckm 12 82 153 ps_12 cX12_xTask pr_568 = true := by decide +kernel
theorem pv_568 : pz_c60 pr_568 = true := by decide +kernel
theorem pk_569 : pz_ckm 13 82 153 ps_13 cL_account pr_569 = true := by decide +kernel
theorem pv_569 : pz_c60 pr_569 = true := by decide +kernel
theorem pk_570 : pz_ckm 13 82 153 ps_13 cL_again pr_570 = true := by decide +kernel
theorem pv_570 : pz_c60 pr_570 = true := by decide +kernel
theorem pk_571 : pz_ckm 13 82 153 ps_13 cL_best pr_571 = true := by decide +kernel
theorem pv_571 : pz_c60 pr_571 = true := by decide +kernel
theorem pk_572 : pz_ckm 13 82 153 ps_13 cL_bestRow pr_572 = true := by decide +kernel
theorem pv_572 : pz_c60 pr_572 = true := by decide +kernel
theorem pk_573 : pz_ckm 13 82 153 ps_13 cL_bestStart pr_573 = true := by decide +kernel
theorem pv_573 : pz_c60 pr_573 = true := by decide +kernel
theorem pk_574 : pz_ckm 13 82 153 ps_13 cL_blame pr_574 = true := by decide +kernel
theorem pv_574 : pz_c60 pr_574 = true := by decide +kernel
theorem pk_575 : pz_ckm 13 82 153 ps_13 cL_buyer pr_575 = true := by decide +kernel
theorem pv_575 : pz_c60 pr_575 = true := by decide +kernel
theorem pk_576 : pz_ckm 13 82 153 ps_13 cL_cancel pr_576 = true := by decide +kernel
theorem pv_576 : pz_c60 pr_576 = true := by decide +kernel
theorem pk_577 : pz_ckm 13 82 153 ps_13 cL_clock pr_577 = true := by decide +kernel
theorem pv_577 : pz_c60 pr_577 = true := by decide +kernel
theorem pk_578 : pz_ckm 13 82 153 ps_13 cL_deliver pr_578 = true := by decide +kernel
theorem pv_578 : pz_c60 pr_578 = true := by decide +kernel
theorem pk_579 : pz_ckm 13 82 153 ps_13 cL_docks pr_579 = true := by decide +kernel
theorem pv_579 : pz_c60 pr_579 = true := by decide +kernel
theorem pk_580 : pz_ckm 13 82 153 ps_13 cL_dump pr_580 = true := by decide +kernel
theorem pv_580 : pz_c60 pr_580 = true := by decide +kernel
theorem pk_581 : pz_ckm 13 82 153 ps_13 cL_entry pr_581 = true := by decide +kernel
theorem pv_581 : pz_c60 pr_581 = true := by decide +kernel
theorem pk_582 : pz_ckm 13 82 153 ps_13 cL_fewest pr_582 = true := by decide +kernel
theorem pv_582 : pz_c60 pr_582 = true := by decide +kernel
theorem pk_583 : pz_ckm 13 82 153 ps_13 cL_found pr_583 = true := by decide +kernel
theorem pv_583 : pz_c60 pr_583 = true := by decide +kernel
theorem pk_584 : pz_ckm 13 82 153 ps_13 cL_gas pr_584 = true := by decide +kernel
theorem pv_584 : pz_c60 pr_584 = true := by decide +kernel
theorem pk_585 : pz_ckm 13 82 153 ps_13 cL_grade pr_585 = true := by decide +kernel
theorem pv_585 : pz_c60 pr_585 = true := by decide +kernel
theorem pk_586 : pz_ckm 13 82 153 ps_13 cL_grower pr_586 = true := by decide +kernel
theorem pv_586 : pz_c60 pr_586 = true := by decide +kernel
theorem pk_587 : pz_ckm 13 82 153 ps_13 cL_grown pr_587 = true := by decide +kernel
theorem pv_587 : pz_c60 pr_587 = true := by decide +kernel
theorem pk_588 : pz_ckm 13 82 153 ps_13 cL_hand pr_588 = true := by decide +kernel
theorem pv_588 : pz_c60 pr_588 = true := by decide +kernel
theorem pk_589 : pz_ckm 13 82 153 ps_13 cL_haul pr_589 = true := by decide +kernel
theorem pv_589 : pz_c60 pr_589 = true := by decide +kernel
theorem pk_590 : pz_ckm 13 82 153 ps_13 cL_inspector pr_590 = true := by decide +kernel
theorem pv_590 : pz_c60 pr_590 = true := by decide +kernel
theorem pk_591 : pz_ckm 13 82 153 ps_13 cL_isSound pr_591 = true := by decide +kernel
theorem pv_591 : pz_c60 pr_591 = true := by decide +kernel
theorem pk_592 : pz_ckm 13 82 153 ps_13 cL_keep pr_592 = true := by decide +kernel
theorem pv_592 : pz_c60 pr_592 = true := by decide +kernel
theorem pk_593 : pz_ckm 13 82 153 ps_13 cL_kept pr_593 = true := by decide +kernel
theorem pv_593 : pz_c60 pr_593 = true := by decide +kernel
theorem pk_594 : pz_ckm 13 82 153 ps_13 cL_load pr_594 = true := by decide +kernel
theorem pv_594 : pz_c60 pr_594 = true := by decide +kernel
theorem pk_595 : pz_ckm 13 82 153 ps_13 cL_looked pr_595 = true := by decide +kernel
theorem pv_595 : pz_c60 pr_595 = true := by decide +kernel
theorem pk_596 : pz_ckm 13 82 153 ps_13 cL_lot pr_596 = true := by decide +kernel
theorem pv_596 : pz_c60 pr_596 = true := by decide +kernel
theorem pk_597 : pz_ckm 13 82 153 ps_13 cL_match pr_597 = true := by decide +kernel
theorem pv_597 : pz_c60 pr_597 = true := by decide +kernel
theorem pk_598 : pz_ckm 13 82 153 ps_13 cL_odds pr_598 = true := by decide +kernel
theorem pv_598 : pz_c60 pr_598 = true := by decide +kernel
theorem pk_599 : pz_ckm 13 82 153 ps_13 cL_order pr_599 = true := by decide +kernel
theorem pv_599 : pz_c60 pr_599 = true := by decide +kernel
theorem pk_600 : pz_ckm 13 82 153 ps_13 cL_ordered pr_600 = true := by decide +kernel
theorem pv_600 : pz_c60 pr_600 = true := by decide +kernel
theorem pk_601 : pz_ckm 13 82 153 ps_13 cL_outside pr_601 = true := by decide +kernel
theorem pv_601 : pz_c60 pr_601 = true := by decide +kernel
theorem pk_602 : pz_ckm 13 82 153 ps_13 cL_owed pr_602 = true := by decide +kernel
theorem pv_602 : pz_c60 pr_602 = true := by decide +kernel
theorem pk_603 : pz_ckm 13 82 153 ps_13 cL_owes pr_603 = true := by decide +kernel
theorem pv_603 : pz_c60 pr_603 = true := by decide +kernel
theorem pk_604 : pz_ckm 13 82 153 ps_13 cL_pallet pr_604 = true := by decide +kernel
theorem pv_604 : pz_c60 pr_604 = true := by decide +kernel
theorem pk_605 : pz_ckm 13 82 153 ps_13 cL_parcel pr_605 = true := by decide +kernel
theorem pv_605 : pz_c60 pr_605 = true := by decide +kernel
theorem pk_606 : pz_ckm 13 82 153 ps_13 cL_pass pr_606 = true := by decide +kernel
theorem pv_606 : pz_c60 pr_606 = true := by decide +kernel
theorem pk_607 : pz_ckm 13 82 153 ps_13 cL_pay pr_607 = true := by decide +kernel
theorem pv_607 : pz_c60 pr_607 = true := by decide +kernel
theorem pk_608 : pz_ckm 13 82 153 ps_13 cL_plan pr_608 = true := by decide +kernel
theorem pv_608 : pz_c60 pr_608 = true := by decide +kernel
theorem pk_609 : pz_ckm 13 82 153 ps_13 cL_put pr_609 = true := by decide +kernel
theorem pv_609 : pz_c60 pr_609 = true := by decide +kernel
theorem pk_610 : pz_ckm 13 82 153 ps_13 cL_quarrel pr_610 = true := by decide +kernel
theorem pv_610 : pz_c60 pr_610 = true := by decide +kernel
theorem pk_611 : pz_ckm 13 82 153 ps_13 cL_quarrelled pr_611 = true := by decide +kernel
theorem pv_611 : pz_c60 pr_611 = true := by decide +kernel
theorem pk_612 : pz_ckm 13 82 153 ps_13 cL_queue pr_612 = true := by decide +kernel
theorem pv_612 : pz_c60 pr_612 = true := by decide +kernel
theorem pk_613 : pz_ckm 13 82 153 ps_13 cL_ripe pr_613 = true := by decide +kernel
theorem pv_613 : pz_c60 pr_613 = true := by decide +kernel
theorem pk_614 : pz_ckm 13 82 153 ps_13 cL_room pr_614 = true := by decide +kernel
theorem pv_614 : pz_c60 pr_614 = true := by decide +kernel
theorem pk_615 : pz_ckm 13 82 153 ps_13 cL_round pr_615 = true := by decide +kernel
theorem pv_615 : pz_c60 pr_615 = true := by decide +kernel
theorem pk_616 : pz_ckm 13 82 153 ps_13 cL_season pr_616 = true := by decide +kernel
theorem pv_616 : pz_c60 pr_616 = true := by decide +kernel
theorem pk_617 : pz_ckm 13 82 153 ps_13 cL_send pr_617 = true := by decide +kernel
theorem pv_617 : pz_c60 pr_617 = true := by decide +kernel
theorem pk_618 : pz_ckm 13 82 153 ps_13 cL_set pr_618 = true := by decide +kernel
theorem pv_618 : pz_c60 pr_618 = true := by decide +kernel
theorem pk_619 : pz_ckm 13 82 153 ps_13 cL_shares pr_619 = true := by decide +kernel
theorem pv_619 : pz_c60 pr_619 = true := by decide +kernel
theorem pk_620 : pz_ckm 13 82 153 ps_13 cL_sign pr_620 = true := by decide +kernel
theorem pv_620 : pz_c60 pr_620 = true := by decide +kernel
theorem pk_621 : pz_ckm 13 82 153 ps_13 cL_sort pr_621 = true := by decide +kernel
theorem pv_621 : pz_c60 pr_621 = true := by decide +kernel
theorem pk_622 : pz_ckm 13 82 153 ps_13 cL_sum pr_622 = true := by decide +kernel
theorem pv_622 : pz_c60 pr_622 = true := by decide +kernel
theorem pk_623 : pz_ckm 13 82 153 ps_13 cL_taker pr_623 = true := by decide +kernel
theorem pv_623 : pz_c60 pr_623 = true := by decide +kernel
theorem pk_624 : pz_ckm 13 82 153 ps_13 cL_takings pr_624 = true := by decide +kernel
theorem pv_624 : pz_c60 pr_624 = true := by decide +kernel
theorem pk_625 : pz_ckm 13 82 153 ps_13 cL_tariff pr_625 = true := by decide +kernel
theorem pv_625 : pz_c60 pr_625 = true := by decide +kernel
theorem pk_626 : pz_ckm 13 82 153 ps_13 cL_trip pr_626 = true := by decide +kernel
theorem pv_626 : pz_c60 pr_626 = true := by decide +kernel
theorem pk_627 : pz_ckm 13 82 153 ps_13 cL_truck pr_627 = true := by decide +kernel
theorem pv_627 : pz_c60 pr_627 = true := by decide +kernel
theorem pk_628 : pz_ckm 13 82 153 ps_13 cL_undo pr_628 = true := by decide +kernel
theorem pv_628 : pz_c60 pr_628 = true := by decide +kernel
theorem pk_629 : pz_ckm 13 82 153 ps_13 cL_way pr_629 = true := by decide +kernel
theorem pv_629 : pz_c60 pr_629 = true := by decide +kernel
theorem pk_630 : pz_ckm 13 82 153 ps_13 cL_withdraw pr_630 = true := by decide +kernel
theorem pv_630 : pz_c60 pr_630 = true := by decide +kernel
theorem pk_631 : pz_ckm 13 82 153 ps_13 cL_worst pr_631 = true := by decide +kernel
theorem pv_631 : pz_c60 pr_631 = true := by decide +kernel
