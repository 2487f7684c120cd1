/-! checks of methods 0 to 49 -/
theorem pk_0 : pz_ckm 0 82 153 ps_0 cX0_addQuarrel pr_0 = true := by decide +kernel
theorem pv_0 : pz_c60 pr_0 = true := by decide +kernel
theorem pk_1 : pz_ckm 0 82 153 ps_0 cX0_areSound pr_1 = true := by decide +kernel
theorem pv_1 : pz_c60 pr_1 = true := by decide +kernel
theorem pk_2 : pz_ckm 0 82 153 ps_0 cX0_award pr_2 = true := by decide +kernel
theorem pv_2 : pz_c60 pr_2 = true := by decide +kernel
theorem pk_3 : pz_ckm 0 82 153 ps_0 cX0_canQuarrel pr_3 = true := by decide +kernel
theorem pv_3 : pz_c60 pr_3 = true := by decide +kernel
theorem pk_4 : pz_ckm 0 82 153 ps_0 cX0_closeDay pr_4 = true := by decide +kernel
theorem pv_4 : pz_c60 pr_4 = true := by decide +kernel
theorem pk_5 : pz_ckm 0 82 153 ps_0 cX0_enter pr_5 = true := by decide +kernel
theorem pv_5 : pz_c60 pr_5 = true := by decide +kernel
theorem pk_6 : pz_ckm 0 82 153 ps_0 cX0_enterSold pr_6 = true := by decide +kernel
theorem pv_6 : pz_c60 pr_6 = true := by decide +kernel
theorem pk_7 : pz_ckm 0 82 153 ps_0 cX0_judge pr_7 = true := by decide +kernel
theorem pv_7 : pz_c60 pr_7 = true := by decide +kernel
theorem pk_8 : pz_ckm 0 82 153 ps_0 cX0_payOut pr_8 = true := by decide +kernel
theorem pv_8 : pz_c60 pr_8 = true := by decide +kernel
theorem pk_9 : pz_ckm 0 82 153 ps_0 cX0_share pr_9 = true := by decide +kernel
theorem pv_9 : pz_c60 pr_9 = true := by decide +kernel
theorem pk_10 : pz_ckm 0 82 153 ps_0 cX0_shareAward pr_10 = true := by decide +kernel
theorem pv_10 : pz_c60 pr_10 = true := by decide +kernel
theorem pk_11 : pz_ckm 1 82 153 ps_1 cX1_addBuyer pr_11 = true := by decide +kernel
theorem pv_11 : pz_c60 pr_11 = true := by decide +kernel
theorem pk_12 : pz_ckm 1 82 153 ps_1 cX1_addOrder pr_12 = true := by decide +kernel
theorem pv_12 : pz_c60 pr_12 = true := by decide +kernel
theorem pk_13 : pz_ckm 1 82 153 ps_1 cX1_areSound pr_13 = true := by decide +kernel
theorem pv_13 : pz_c60 pr_13 = true := by decide +kernel
theorem pk_14 : pz_ckm 1 82 153 ps_1 cX1_asks pr_14 = true := by decide +kernel
theorem pv_14 : pz_c60 pr_14 = true := by decide +kernel
theorem pk_15 : pz_ckm 1 82 153 ps_1 cX1_cancelFault pr_15 = true := by decide +kernel
theorem pv_15 : pz_c60 pr_15 = true := by decide +kernel
theorem pk_16 : pz_ckm 1 82 153 ps_1 cX1_cancelOrder pr_16 = true := by decide +kernel
theorem pv_16 : pz_c60 pr_16 = true := by decide +kernel
theorem pk_17 : pz_ckm 1 82 153 ps_1 cX1_closeDay pr_17 = true := by decide +kernel
theorem pv_17 : pz_c60 pr_17 = true := by decide +kernel
theorem pk_18 : pz_ckm 1 82 153 ps_1 cX1_come pr_18 = true := by decide +kernel
theorem pv_18 : pz_c60 pr_18 = true := by decide +kernel
theorem pk_19 : pz_ckm 1 82 153 ps_1 cX1_cratesGiven pr_19 = true := by decide +kernel
theorem pv_19 : pz_c60 pr_19 = true := by decide +kernel
theorem pk_20 : pz_ckm 1 82 153 ps_1 cX1_enterLost pr_20 = true := by decide +kernel
theorem pv_20 : pz_c60 pr_20 = true := by decide +kernel
theorem pk_21 : pz_ckm 1 82 153 ps_1 cX1_fill pr_21 = true := by decide +kernel
theorem pv_21 : pz_c60 pr_21 = true := by decide +kernel
theorem pk_22 : pz_ckm 1 82 153 ps_1 cX1_findSupply pr_22 = true := by decide +kernel
theorem pv_22 : pz_c60 pr_22 = true := by decide +kernel
theorem pk_23 : pz_ckm 1 82 153 ps_1 cX1_giveBack pr_23 = true := by decide +kernel
theorem pv_23 : pz_c60 pr_23 = true := by decide +kernel
theorem pk_24 : pz_ckm 1 82 153 ps_1 cX1_giveFrom pr_24 = true := by decide +kernel
theorem pv_24 : pz_c60 pr_24 = true := by decide +kernel
theorem pk_25 : pz_ckm 1 82 153 ps_1 cX1_highestOf pr_25 = true := by decide +kernel
theorem pv_25 : pz_c60 pr_25 = true := by decide +kernel
theorem pk_26 : pz_ckm 1 82 153 ps_1 cX1_highestPrice pr_26 = true := by decide +kernel
theorem pv_26 : pz_c60 pr_26 = true := by decide +kernel
theorem pk_27 : pz_ckm 1 82 153 ps_1 cX1_howManyAsk pr_27 = true := by decide +kernel
theorem pv_27 : pz_c60 pr_27 = true := by decide +kernel
theorem pk_28 : pz_ckm 1 82 153 ps_1 cX1_left pr_28 = true := by decide +kernel
theorem pv_28 : pz_c60 pr_28 = true := by decide +kernel
theorem pk_29 : pz_ckm 1 82 153 ps_1 cX1_nextToFill pr_29 = true := by decide +kernel
theorem pv_29 : pz_c60 pr_29 = true := by decide +kernel
theorem pk_30 : pz_ckm 1 82 153 ps_1 cX1_payBillsOf pr_30 = true := by decide +kernel
theorem pv_30 : pz_c60 pr_30 = true := by decide +kernel
theorem pk_31 : pz_ckm 1 82 153 ps_1 cX1_payIn pr_31 = true := by decide +kernel
theorem pv_31 : pz_c60 pr_31 = true := by decide +kernel
theorem pk_32 : pz_ckm 1 82 153 ps_1 cX1_sell pr_32 = true := by decide +kernel
theorem pv_32 : pz_c60 pr_32 = true := by decide +kernel
theorem pk_33 : pz_ckm 1 82 153 ps_1 cX1_suits pr_33 = true := by decide +kernel
theorem pv_33 : pz_c60 pr_33 = true := by decide +kernel
theorem pk_34 : pz_ckm 1 82 153 ps_1 cX1_takerOf pr_34 = true := by decide +kernel
theorem pv_34 : pz_c60 pr_34 = true := by decide +kernel
theorem pk_35 : pz_ckm 1 82 153 ps_1 cX1_tellBuyer pr_35 = true := by decide +kernel
theorem pv_35 : pz_c60 pr_35 = true := by decide +kernel
theorem pk_36 : pz_ckm 1 82 153 ps_1 cX1_tellParcel pr_36 = true := by decide +kernel
theorem pv_36 : pz_c60 pr_36 = true := by decide +kernel
theorem pk_37 : pz_ckm 2 82 153 ps_2 cX2_addTruck pr_37 = true := by decide +kernel
theorem pv_37 : pz_c60 pr_37 = true := by decide +kernel
theorem pk_38 : pz_ckm 2 82 153 ps_2 cX2_areSound pr_38 = true := by decide +kernel
theorem pv_38 : pz_c60 pr_38 = true := by decide +kernel
theorem pk_39 : pz_ckm 2 82 153 ps_2 cX2_arrive pr_39 = true := by decide +kernel
theorem pv_39 : pz_c60 pr_39 = true := by decide +kernel
theorem pk_40 : pz_ckm 2 82 153 ps_2 cX2_atDocks pr_40 = true := by decide +kernel
theorem pv_40 : pz_c60 pr_40 = true := by decide +kernel
theorem pk_41 : pz_ckm 2 82 153 ps_2 cX2_bring pr_41 = true := by decide +kernel
theorem pv_41 : pz_c60 pr_41 = true := by decide +kernel
theorem pk_42 : pz_ckm 2 82 153 ps_2 cX2_changeWay pr_42 = true := by decide +kernel
theorem pv_42 : pz_c60 pr_42 = true := by decide +kernel
theorem pk_43 : pz_ckm 2 82 153 ps_2 cX2_cratesIn pr_43 = true := by decide +kernel
theorem pv_43 : pz_c60 pr_43 = true := by decide +kernel
theorem pk_44 : pz_ckm 2 82 153 ps_2 cX2_fewestLoads pr_44 = true := by decide +kernel
theorem pv_44 : pz_c60 pr_44 = true := by decide +kernel
theorem pk_45 : pz_ckm 2 82 153 ps_2 cX2_goIfDue pr_45 = true := by decide +kernel
theorem pv_45 : pz_c60 pr_45 = true := by decide +kernel
theorem pk_46 : pz_ckm 2 82 153 ps_2 cX2_greatest pr_46 = true := by decide +kernel
theorem pv_46 : pz_c60 pr_46 = true := by decide +kernel
theorem pk_47 : pz_ckm 2 82 153 ps_2 cX2_hoursOf pr_47 = true := by decide +kernel
theorem pv_47 : pz_c60 pr_47 = true := by decide +kernel
theorem pk_48 : pz_ckm 2 82 153 ps_2 cX2_isDue pr_48 = true := by decide +kernel
theorem pv_48 : pz_c60 pr_48 = true := by decide +kernel
theorem pk_49 : pz_ckm 2 82 153 ps_2 cX2_loadFault pr_49 = true := by decide +kernel
theorem pv_49 : pz_c60 pr_49 = true := by decide +kernel
