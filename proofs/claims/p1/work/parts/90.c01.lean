/-! checks of methods 50 to 115 -/
theorem pk_50 : pz_ckm 2 82 153 ps_2 cX2_loadParcel pr_50 = true := by decide +kernel
theorem pv_50 : pz_c60 pr_50 = true := by decide +kernel
theorem pk_51 : pz_ckm 2 82 153 ps_2 cX2_longBySets pr_51 = true := by decide +kernel
theorem pv_51 : pz_c60 pr_51 = true := by decide +kernel
theorem pk_52 : pz_ckm 2 82 153 ps_2 cX2_nextDue pr_52 = true := by decide +kernel
theorem pv_52 : pz_c60 pr_52 = true := by decide +kernel
theorem pk_53 : pz_ckm 2 82 153 ps_2 cX2_parcelsIn pr_53 = true := by decide +kernel
theorem pv_53 : pz_c60 pr_53 = true := by decide +kernel
theorem pk_54 : pz_ckm 2 82 153 ps_2 cX2_partedFor pr_54 = true := by decide +kernel
theorem pv_54 : pz_c60 pr_54 = true := by decide +kernel
theorem pk_55 : pz_ckm 2 82 153 ps_2 cX2_sendFault pr_55 = true := by decide +kernel
theorem pv_55 : pz_c60 pr_55 = true := by decide +kernel
theorem pk_56 : pz_ckm 2 82 153 ps_2 cX2_shortestTrip pr_56 = true := by decide +kernel
theorem pv_56 : pz_c60 pr_56 = true := by decide +kernel
theorem pk_57 : pz_ckm 2 82 153 ps_2 cX2_tellTruck pr_57 = true := by decide +kernel
theorem pv_57 : pz_c60 pr_57 = true := by decide +kernel
theorem pk_58 : pz_ckm 2 82 153 ps_2 cX2_townOf pr_58 = true := by decide +kernel
theorem pv_58 : pz_c60 pr_58 = true := by decide +kernel
theorem pk_59 : pz_ckm 2 82 153 ps_2 cX2_townsOf pr_59 = true := by decide +kernel
theorem pv_59 : pz_c60 pr_59 = true := by decide +kernel
theorem pk_60 : pz_ckm 3 82 153 ps_3 cX3_addClock pr_60 = true := by decide +kernel
theorem pv_60 : pz_c60 pr_60 = true := by decide +kernel
theorem pk_61 : pz_ckm 3 82 153 ps_3 cX3_areSound pr_61 = true := by decide +kernel
theorem pv_61 : pz_c60 pr_61 = true := by decide +kernel
theorem pk_62 : pz_ckm 3 82 153 ps_3 cX3_bestRowOf pr_62 = true := by decide +kernel
theorem pv_62 : pz_c60 pr_62 = true := by decide +kernel
theorem pk_63 : pz_ckm 3 82 153 ps_3 cX3_bestStartOf pr_63 = true := by decide +kernel
theorem pv_63 : pz_c60 pr_63 = true := by decide +kernel
theorem pk_64 : pz_ckm 3 82 153 ps_3 cX3_insert pr_64 = true := by decide +kernel
theorem pv_64 : pz_c60 pr_64 = true := by decide +kernel
theorem pk_65 : pz_ckm 3 82 153 ps_3 cX3_isOpen pr_65 = true := by decide +kernel
theorem pv_65 : pz_c60 pr_65 = true := by decide +kernel
theorem pk_66 : pz_ckm 3 82 153 ps_3 cX3_lotOf pr_66 = true := by decide +kernel
theorem pv_66 : pz_c60 pr_66 = true := by decide +kernel
theorem pk_67 : pz_ckm 3 82 153 ps_3 cX3_lotsDue pr_67 = true := by decide +kernel
theorem pv_67 : pz_c60 pr_67 = true := by decide +kernel
theorem pk_68 : pz_ckm 3 82 153 ps_3 cX3_lotsOf pr_68 = true := by decide +kernel
theorem pv_68 : pz_c60 pr_68 = true := by decide +kernel
theorem pk_69 : pz_ckm 3 82 153 ps_3 cX3_moveUp pr_69 = true := by decide +kernel
theorem pv_69 : pz_c60 pr_69 = true := by decide +kernel
theorem pk_70 : pz_ckm 3 82 153 ps_3 cX3_nextRow pr_70 = true := by decide +kernel
theorem pv_70 : pz_c60 pr_70 = true := by decide +kernel
theorem pk_71 : pz_ckm 3 82 153 ps_3 cX3_queueFault pr_71 = true := by decide +kernel
theorem pv_71 : pz_c60 pr_71 = true := by decide +kernel
theorem pk_72 : pz_ckm 3 82 153 ps_3 cX3_queuePallet pr_72 = true := by decide +kernel
theorem pv_72 : pz_c60 pr_72 = true := by decide +kernel
theorem pk_73 : pz_ckm 3 82 153 ps_3 cX3_sellFirst pr_73 = true := by decide +kernel
theorem pv_73 : pz_c60 pr_73 = true := by decide +kernel
theorem pk_74 : pz_ckm 3 82 153 ps_3 cX3_sellOn pr_74 = true := by decide +kernel
theorem pv_74 : pz_c60 pr_74 = true := by decide +kernel
theorem pk_75 : pz_ckm 3 82 153 ps_3 cX3_swap pr_75 = true := by decide +kernel
theorem pv_75 : pz_c60 pr_75 = true := by decide +kernel
theorem pk_76 : pz_ckm 3 82 153 ps_3 cX3_takeOut pr_76 = true := by decide +kernel
theorem pv_76 : pz_c60 pr_76 = true := by decide +kernel
theorem pk_77 : pz_ckm 3 82 153 ps_3 cX3_tellTakings pr_77 = true := by decide +kernel
theorem pv_77 : pz_c60 pr_77 = true := by decide +kernel
theorem pk_78 : pz_ckm 3 82 153 ps_3 cX3_withdrawFault pr_78 = true := by decide +kernel
theorem pv_78 : pz_c60 pr_78 = true := by decide +kernel
theorem pk_79 : pz_ckm 3 82 153 ps_3 cX3_writeLot pr_79 = true := by decide +kernel
theorem pv_79 : pz_c60 pr_79 = true := by decide +kernel
theorem pk_80 : pz_ckm 4 82 153 ps_4 cX4_begin pr_80 = true := by decide +kernel
theorem pv_80 : pz_c60 pr_80 = true := by decide +kernel
theorem pk_81 : pz_ckm 4 82 153 ps_4 cX4_goOnFrom pr_81 = true := by decide +kernel
theorem pv_81 : pz_c60 pr_81 = true := by decide +kernel
theorem pk_82 : pz_ckm 4 82 153 ps_4 cX4_init pr_82 = true := by decide +kernel
theorem pv_82 : pz_c60 pr_82 = true := by decide +kernel
theorem pk_83 : pz_ckm 4 82 153 ps_4 cX4_keepImage pr_83 = true := by decide +kernel
theorem pv_83 : pz_c60 pr_83 = true := by decide +kernel
theorem pk_84 : pz_ckm 4 82 153 ps_4 cX4_leadTo pr_84 = true := by decide +kernel
theorem pv_84 : pz_c60 pr_84 = true := by decide +kernel
theorem pk_85 : pz_ckm 4 82 153 ps_4 cX4_record pr_85 = true := by decide +kernel
theorem pv_85 : pz_c60 pr_85 = true := by decide +kernel
theorem pk_86 : pz_ckm 4 82 153 ps_4 cX4_takeBack pr_86 = true := by decide +kernel
theorem pv_86 : pz_c60 pr_86 = true := by decide +kernel
theorem pk_87 : pz_ckm 5 82 153 ps_5 cX5_addGrower pr_87 = true := by decide +kernel
theorem pv_87 : pz_c60 pr_87 = true := by decide +kernel
theorem pk_88 : pz_ckm 5 82 153 ps_5 cX5_addPallet pr_88 = true := by decide +kernel
theorem pv_88 : pz_c60 pr_88 = true := by decide +kernel
theorem pk_89 : pz_ckm 5 82 153 ps_5 cX5_addSort pr_89 = true := by decide +kernel
theorem pv_89 : pz_c60 pr_89 = true := by decide +kernel
theorem pk_90 : pz_ckm 5 82 153 ps_5 cX5_areSound pr_90 = true := by decide +kernel
theorem pv_90 : pz_c60 pr_90 = true := by decide +kernel
theorem pk_91 : pz_ckm 5 82 153 ps_5 cX5_choose pr_91 = true := by decide +kernel
theorem pv_91 : pz_c60 pr_91 = true := by decide +kernel
theorem pk_92 : pz_ckm 5 82 153 ps_5 cX5_clearIfDone pr_92 = true := by decide +kernel
theorem pv_92 : pz_c60 pr_92 = true := by decide +kernel
theorem pk_93 : pz_ckm 5 82 153 ps_5 cX5_commonDivisor pr_93 = true := by decide +kernel
theorem pv_93 : pz_c60 pr_93 = true := by decide +kernel
theorem pk_94 : pz_ckm 5 82 153 ps_5 cX5_gradeBy pr_94 = true := by decide +kernel
theorem pv_94 : pz_c60 pr_94 = true := by decide +kernel
theorem pk_95 : pz_ckm 5 82 153 ps_5 cX5_gradePallet pr_95 = true := by decide +kernel
theorem pv_95 : pz_c60 pr_95 = true := by decide +kernel
theorem pk_96 : pz_ckm 5 82 153 ps_5 cX5_haveNoLeftovers pr_96 = true := by decide +kernel
theorem pv_96 : pz_c60 pr_96 = true := by decide +kernel
theorem pk_97 : pz_ckm 5 82 153 ps_5 cX5_isFrom pr_97 = true := by decide +kernel
theorem pv_97 : pz_c60 pr_97 = true := by decide +kernel
theorem pk_98 : pz_ckm 5 82 153 ps_5 cX5_isInRanges pr_98 = true := by decide +kernel
theorem pv_98 : pz_c60 pr_98 = true := by decide +kernel
theorem pk_99 : pz_ckm 5 82 153 ps_5 cX5_isThere pr_99 = true := by decide +kernel
theorem pv_99 : pz_c60 pr_99 = true := by decide +kernel
theorem pk_100 : pz_ckm 5 82 153 ps_5 cX5_least pr_100 = true := by decide +kernel
theorem pv_100 : pz_c60 pr_100 = true := by decide +kernel
theorem pk_101 : pz_ckm 5 82 153 ps_5 cX5_leastPlan pr_101 = true := by decide +kernel
theorem pv_101 : pz_c60 pr_101 = true := by decide +kernel
theorem pk_102 : pz_ckm 5 82 153 ps_5 cX5_nextSeed pr_102 = true := by decide +kernel
theorem pv_102 : pz_c60 pr_102 = true := by decide +kernel
theorem pk_103 : pz_ckm 5 82 153 ps_5 cX5_soldOf pr_103 = true := by decide +kernel
theorem pv_103 : pz_c60 pr_103 = true := by decide +kernel
theorem pk_104 : pz_ckm 5 82 153 ps_5 cX5_stage pr_104 = true := by decide +kernel
theorem pv_104 : pz_c60 pr_104 = true := by decide +kernel
theorem pk_105 : pz_ckm 5 82 153 ps_5 cX5_takeAway pr_105 = true := by decide +kernel
theorem pv_105 : pz_c60 pr_105 = true := by decide +kernel
theorem pk_106 : pz_ckm 5 82 153 ps_5 cX5_tellForGrower pr_106 = true := by decide +kernel
theorem pv_106 : pz_c60 pr_106 = true := by decide +kernel
theorem pk_107 : pz_ckm 5 82 153 ps_5 cX5_tellGrower pr_107 = true := by decide +kernel
theorem pv_107 : pz_c60 pr_107 = true := by decide +kernel
theorem pk_108 : pz_ckm 5 82 153 ps_5 cX5_tellPallet pr_108 = true := by decide +kernel
theorem pv_108 : pz_c60 pr_108 = true := by decide +kernel
theorem pk_109 : pz_ckm 5 82 153 ps_5 cX5_waitingOf pr_109 = true := by decide +kernel
theorem pv_109 : pz_c60 pr_109 = true := by decide +kernel
theorem pk_110 : pz_ckm 5 82 153 ps_5 cX5_waysFoundAtMost pr_110 = true := by decide +kernel
theorem pv_110 : pz_c60 pr_110 = true := by decide +kernel
theorem pk_111 : pz_ckm 6 82 153 ps_6 cX6_copy pr_111 = true := by decide +kernel
theorem pv_111 : pz_c60 pr_111 = true := by decide +kernel
theorem pk_112 : pz_ckm 6 82 153 ps_6 cX6_copyRow pr_112 = true := by decide +kernel
theorem pv_112 : pz_c60 pr_112 = true := by decide +kernel
theorem pk_113 : pz_ckm 6 82 153 ps_6 cX6_copyRows pr_113 = true := by decide +kernel
theorem pv_113 : pz_c60 pr_113 = true := by decide +kernel
theorem pk_114 : pz_ckm 6 82 153 ps_6 cX6_howMany pr_114 = true := by decide +kernel
theorem pv_114 : pz_c60 pr_114 = true := by decide +kernel
theorem pk_115 : pz_ckm 6 82 153 ps_6 cX6_init pr_115 = true := by decide +kernel
theorem pv_115 : pz_c60 pr_115 = true := by decide +kernel
