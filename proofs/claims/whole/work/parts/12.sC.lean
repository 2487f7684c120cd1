noncomputable def qf_0 : qz_Fn := Classical.choice ⟨fun _ _ => none⟩
noncomputable def qb_1_1 : qz_F := Classical.choice ⟨fun _ => none⟩
noncomputable def qb_1_2 : qz_F := Classical.choice ⟨fun _ => none⟩
noncomputable def qb_1_3 : qz_F := Classical.choice ⟨fun _ => none⟩
noncomputable def qb_1_4 : qz_F := Classical.choice ⟨fun _ => none⟩
noncomputable def qb_1_5 : qz_F := Classical.choice ⟨fun _ => none⟩
noncomputable def qc_1_6 : qz_F := Classical.choice ⟨fun _ => none⟩
noncomputable def qb_1_7 : qz_F := Classical.choice ⟨fun _ => none⟩
noncomputable def qc_1_8 : qz_F := Classical.choice ⟨fun _ => none⟩
noncomputable def qc_1_9 : qz_F := Classical.choice ⟨fun _ => none⟩
noncomputable def qc_1_10 : qz_F := Classical.choice ⟨fun _ => none⟩
noncomputable def qc_1_11 : qz_F := Classical.choice ⟨fun _ => none⟩
noncomputable def qc_1_12 : qz_F := Classical.choice ⟨fun _ => none⟩
noncomputable def qf_1 : qz_Fn := Classical.choice ⟨fun _ _ => none⟩
noncomputable def qf_2 : qz_Fn := Classical.choice ⟨fun _ _ => none⟩
noncomputable def qb_3_1 : qz_F := Classical.choice ⟨fun _ => none⟩
noncomputable def qc_3_2 : qz_F := Classical.choice ⟨fun _ => none⟩
noncomputable def qf_3 : qz_Fn := Classical.choice ⟨fun _ _ => none⟩
noncomputable def qf_5 : qz_Fn := Classical.choice ⟨fun _ _ => none⟩
noncomputable def qf_104 : qz_Fn := Classical.choice ⟨fun _ _ => none⟩
noncomputable def qb_9_1 : qz_F := Classical.choice ⟨fun _ => none⟩
noncomputable def qb_9_2 : qz_F := Classical.choice ⟨fun _ => none⟩
noncomputable def qc_9_3 : qz_F := Classical.choice ⟨fun _ => none⟩
noncomputable def qb_9_4 : qz_F := Classical.choice ⟨fun _ => none⟩
noncomputable def qc_9_5 : qz_F := Classical.choice ⟨fun _ => none⟩
noncomputable def qc_9_6 : qz_F := Classical.choice ⟨fun _ => none⟩
noncomputable def qf_9 : qz_Fn := Classical.choice ⟨fun _ _ => none⟩
noncomputable def qf_10 : qz_Fn := Classical.choice ⟨fun _ _ => none⟩
noncomputable def qf_23 : qz_Fn := Classical.choice ⟨fun _ _ => none⟩
noncomputable def qf_7 : qz_Fn := Classical.choice ⟨fun _ _ => none⟩
noncomputable def qf_125 : qz_Fn := Classical.choice ⟨fun _ _ => none⟩
noncomputable def qb_8_1 : qz_F := Classical.choice ⟨fun _ => none⟩
noncomputable def qc_8_2 : qz_F := Classical.choice ⟨fun _ => none⟩
noncomputable def qf_8 : qz_Fn := Classical.choice ⟨fun _ _ => none⟩
noncomputable def qb_4_1 : qz_F := Classical.choice ⟨fun _ => none⟩
noncomputable def qb_4_2 : qz_F := Classical.choice ⟨fun _ => none⟩
noncomputable def qb_4_3 : qz_F := Classical.choice ⟨fun _ => none⟩
noncomputable def qc_4_4 : qz_F := Classical.choice ⟨fun _ => none⟩
noncomputable def qc_4_5 : qz_F := Classical.choice ⟨fun _ => none⟩
noncomputable def qc_4_6 : qz_F := Classical.choice ⟨fun _ => none⟩
noncomputable def qf_4 : qz_Fn := Classical.choice ⟨fun _ _ => none⟩
noncomputable def qf_6 : qz_Fn := Classical.choice ⟨fun _ _ => none⟩
noncomputable def qf_11 : qz_Fn := Classical.choice ⟨fun _ _ => none⟩
noncomputable def qf_12 : qz_Fn := Classical.choice ⟨fun _ _ => none⟩
noncomputable def qf_97 : qz_Fn := Classical.choice ⟨fun _ _ => none⟩
noncomputable def qb_13_1 : qz_F := Classical.choice ⟨fun _ => none⟩
noncomputable def qc_13_2 : qz_F := Classical.choice ⟨fun _ => none⟩
noncomputable def qb_13_3 : qz_F := Classical.choice ⟨fun _ => none⟩
noncomputable def qb_13_4 : qz_F := Classical.choice ⟨fun _ => none⟩
noncomputable def qb_13_5 : qz_F := Classical.choice ⟨fun _ => none⟩
noncomputable def qc_13_6 : qz_F := Classical.choice ⟨fun _ => none⟩
noncomputable def qc_13_7 : qz_F := Classical.choice ⟨fun _ => none⟩
noncomputable def qc_13_8 : qz_F := Classical.choice ⟨fun _ => none⟩
noncomputable def qf_13 : qz_Fn := Classical.choice ⟨fun _ _ => none⟩
noncomputable def qf_117 : qz_Fn := Classical.choice ⟨fun _ _ => none⟩
noncomputable def qf_14 : qz_Fn := Classical.choice ⟨fun _ _ => none⟩
noncomputable def qf_15 : qz_Fn := Classical.choice ⟨fun _ _ => none⟩
noncomputable def qf_16 : qz_Fn := Classical.choice ⟨fun _ _ => none⟩
noncomputable def qb_30_1 : qz_F := Classical.choice ⟨fun _ => none⟩
noncomputable def qc_30_2 : qz_F := Classical.choice ⟨fun _ => none⟩
noncomputable def qf_30 : qz_Fn := Classical.choice ⟨fun _ _ => none⟩
noncomputable def qb_17_1 : qz_F := Classical.choice ⟨fun _ => none⟩
noncomputable def qc_17_2 : qz_F := Classical.choice ⟨fun _ => none⟩
noncomputable def qb_17_3 : qz_F := Classical.choice ⟨fun _ => none⟩
noncomputable def qb_17_4 : qz_F := Classical.choice ⟨fun _ => none⟩
noncomputable def qc_17_5 : qz_F := Classical.choice ⟨fun _ => none⟩
noncomputable def qc_17_6 : qz_F := Classical.choice ⟨fun _ => none⟩
noncomputable def qf_17 : qz_Fn := Classical.choice ⟨fun _ _ => none⟩
noncomputable def qf_18 : qz_Fn := Classical.choice ⟨fun _ _ => none⟩
noncomputable def qb_19_1 : qz_F := Classical.choice ⟨fun _ => none⟩
noncomputable def qc_19_2 : qz_F := Classical.choice ⟨fun _ => none⟩
noncomputable def qf_19 : qz_Fn := Classical.choice ⟨fun _ _ => none⟩
noncomputable def qf_20 : qz_Fn := Classical.choice ⟨fun _ _ => none⟩
noncomputable def qb_22_1 : qz_F := Classical.choice ⟨fun _ => none⟩
noncomputable def qc_22_2 : qz_F := Classical.choice ⟨fun _ => none⟩
noncomputable def qb_22_3 : qz_F := Classical.choice ⟨fun _ => none⟩
noncomputable def qc_22_4 : qz_F := Classical.choice ⟨fun _ => none⟩
noncomputable def qf_22 : qz_Fn := Classical.choice ⟨fun _ _ => none⟩
noncomputable def qb_29_1 : qz_F := Classical.choice ⟨fun _ => none⟩
noncomputable def qc_29_2 : qz_F := Classical.choice ⟨fun _ => none⟩
noncomputable def qf_29 : qz_Fn := Classical.choice ⟨fun _ _ => none⟩
noncomputable def qb_24_1 : qz_F := Classical.choice ⟨fun _ => none⟩
noncomputable def qb_24_2 : qz_F := Classical.choice ⟨fun _ => none⟩
noncomputable def qc_24_3 : qz_F := Classical.choice ⟨fun _ => none⟩
noncomputable def qc_24_4 : qz_F := Classical.choice ⟨fun _ => none⟩
noncomputable def qf_24 : qz_Fn := Classical.choice ⟨fun _ _ => none⟩
noncomputable def qb_21_1 : qz_F := Classical.choice ⟨fun _ => none⟩
noncomputable def qb_21_2 : qz_F := Classical.choice ⟨fun _ => none⟩
noncomputable def qc_21_3 : qz_F := Classical.choice ⟨fun _ => none⟩
noncomputable def qc_21_4 : qz_F := Classical.choice ⟨fun _ => none⟩
noncomputable def qf_21 : qz_Fn := Classical.choice ⟨fun _ _ => none⟩
noncomputable def qf_33 : qz_Fn := Classical.choice ⟨fun _ _ => none⟩
noncomputable def qf_28 : qz_Fn := Classical.choice ⟨fun _ _ => none⟩
noncomputable def qf_25 : qz_Fn := Classical.choice ⟨fun _ _ => none⟩
noncomputable def qb_26_1 : qz_F := Classical.choice ⟨fun _ => none⟩
noncomputable def qc_26_2 : qz_F := Classical.choice ⟨fun _ => none⟩
noncomputable def qf_26 : qz_Fn := Classical.choice ⟨fun _ _ => none⟩
noncomputable def qb_27_1 : qz_F := Classical.choice ⟨fun _ => none⟩
noncomputable def qc_27_2 : qz_F := Classical.choice ⟨fun _ => none⟩
noncomputable def qf_27 : qz_Fn := Classical.choice ⟨fun _ _ => none⟩
noncomputable def qf_31 : qz_Fn := Classical.choice ⟨fun _ _ => none⟩
noncomputable def qf_32 : qz_Fn := Classical.choice ⟨fun _ _ => none⟩
noncomputable def qb_34_1 : qz_F := Classical.choice ⟨fun _ => none⟩
noncomputable def qc_34_2 : qz_F := Classical.choice ⟨fun _ => none⟩
noncomputable def qf_34 : qz_Fn := Classical.choice ⟨fun _ _ => none⟩
noncomputable def qb_35_1 : qz_F := Classical.choice ⟨fun _ => none⟩
noncomputable def qc_35_2 : qz_F := Classical.choice ⟨fun _ => none⟩
noncomputable def qf_35 : qz_Fn := Classical.choice ⟨fun _ _ => none⟩
noncomputable def qf_36 : qz_Fn := Classical.choice ⟨fun _ _ => none⟩
noncomputable def qf_37 : qz_Fn := Classical.choice ⟨fun _ _ => none⟩
noncomputable def qb_53_1 : qz_F := Classical.choice ⟨fun _ => none⟩
noncomputable def qc_53_2 : qz_F := Classical.choice ⟨fun _ => none⟩
noncomputable def qf_53 : qz_Fn := Classical.choice ⟨fun _ _ => none⟩
noncomputable def qb_40_1 : qz_F := Classical.choice ⟨fun _ => none⟩
noncomputable def qc_40_2 : qz_F := Classical.choice ⟨fun _ => none⟩
noncomputable def qf_40 : qz_Fn := Classical.choice ⟨fun _ _ => none⟩
noncomputable def qf_58 : qz_Fn := Classical.choice ⟨fun _ _ => none⟩
noncomputable def qb_48_1 : qz_F := Classical.choice ⟨fun _ => none⟩
noncomputable def qc_48_2 : qz_F := Classical.choice ⟨fun _ => none⟩
noncomputable def qf_48 : qz_Fn := Classical.choice ⟨fun _ _ => none⟩
noncomputable def qb_59_1 : qz_F := Classical.choice ⟨fun _ => none⟩
noncomputable def qc_59_2 : qz_F := Classical.choice ⟨fun _ => none⟩
noncomputable def qf_59 : qz_Fn := Classical.choice ⟨fun _ _ => none⟩
noncomputable def qb_43_1 : qz_F := Classical.choice ⟨fun _ => none⟩
noncomputable def qc_43_2 : qz_F := Classical.choice ⟨fun _ => none⟩
noncomputable def qf_43 : qz_Fn := Classical.choice ⟨fun _ _ => none⟩
noncomputable def qb_47_1 : qz_F := Classical.choice ⟨fun _ => none⟩
noncomputable def qc_47_2 : qz_F := Classical.choice ⟨fun _ => none⟩
noncomputable def qf_47 : qz_Fn := Classical.choice ⟨fun _ _ => none⟩
noncomputable def qf_75 : qz_Fn := Classical.choice ⟨fun _ _ => none⟩
noncomputable def qb_70_1 : qz_F := Classical.choice ⟨fun _ => none⟩
noncomputable def qb_70_2 : qz_F := Classical.choice ⟨fun _ => none⟩
noncomputable def qb_70_3 : qz_F := Classical.choice ⟨fun _ => none⟩
noncomputable def qc_70_4 : qz_F := Classical.choice ⟨fun _ => none⟩
noncomputable def qc_70_5 : qz_F := Classical.choice ⟨fun _ => none⟩
noncomputable def qc_70_6 : qz_F := Classical.choice ⟨fun _ => none⟩
noncomputable def qf_70 : qz_Fn := Classical.choice ⟨fun _ _ => none⟩
noncomputable def qb_56_1 : qz_F := Classical.choice ⟨fun _ => none⟩
noncomputable def qb_56_2 : qz_F := Classical.choice ⟨fun _ => none⟩
noncomputable def qc_56_3 : qz_F := Classical.choice ⟨fun _ => none⟩
noncomputable def qc_56_4 : qz_F := Classical.choice ⟨fun _ => none⟩
noncomputable def qf_56 : qz_Fn := Classical.choice ⟨fun _ _ => none⟩
noncomputable def qb_51_1 : qz_F := Classical.choice ⟨fun _ => none⟩
noncomputable def qc_51_2 : qz_F := Classical.choice ⟨fun _ => none⟩
noncomputable def qb_51_3 : qz_F := Classical.choice ⟨fun _ => none⟩
noncomputable def qc_51_4 : qz_F := Classical.choice ⟨fun _ => none⟩
noncomputable def qb_51_5 : qz_F := Classical.choice ⟨fun _ => none⟩
noncomputable def qc_51_6 : qz_F := Classical.choice ⟨fun _ => none⟩
noncomputable def qf_51 : qz_Fn := Classical.choice ⟨fun _ _ => none⟩
noncomputable def qb_38_1 : qz_F := Classical.choice ⟨fun _ => none⟩
noncomputable def qb_38_2 : qz_F := Classical.choice ⟨fun _ => none⟩
noncomputable def qc_38_3 : qz_F := Classical.choice ⟨fun _ => none⟩
noncomputable def qc_38_4 : qz_F := Classical.choice ⟨fun _ => none⟩
noncomputable def qf_38 : qz_Fn := Classical.choice ⟨fun _ _ => none⟩
noncomputable def qb_41_1 : qz_F := Classical.choice ⟨fun _ => none⟩
noncomputable def qc_41_2 : qz_F := Classical.choice ⟨fun _ => none⟩
noncomputable def qf_41 : qz_Fn := Classical.choice ⟨fun _ _ => none⟩
noncomputable def qb_39_1 : qz_F := Classical.choice ⟨fun _ => none⟩
noncomputable def qc_39_2 : qz_F := Classical.choice ⟨fun _ => none⟩
noncomputable def qc_39_3 : qz_F := Classical.choice ⟨fun _ => none⟩
noncomputable def qb_39_4 : qz_F := Classical.choice ⟨fun _ => none⟩
noncomputable def qc_39_5 : qz_F := Classical.choice ⟨fun _ => none⟩
noncomputable def qf_39 : qz_Fn := Classical.choice ⟨fun _ _ => none⟩
noncomputable def qf_42 : qz_Fn := Classical.choice ⟨fun _ _ => none⟩
noncomputable def qb_44_1 : qz_F := Classical.choice ⟨fun _ => none⟩
noncomputable def qc_44_2 : qz_F := Classical.choice ⟨fun _ => none⟩
noncomputable def qb_44_3 : qz_F := Classical.choice ⟨fun _ => none⟩
noncomputable def qc_44_4 : qz_F := Classical.choice ⟨fun _ => none⟩
noncomputable def qf_44 : qz_Fn := Classical.choice ⟨fun _ _ => none⟩
noncomputable def qb_45_1 : qz_F := Classical.choice ⟨fun _ => none⟩
noncomputable def qc_45_2 : qz_F := Classical.choice ⟨fun _ => none⟩
noncomputable def qf_45 : qz_Fn := Classical.choice ⟨fun _ _ => none⟩
noncomputable def qb_46_1 : qz_F := Classical.choice ⟨fun _ => none⟩
noncomputable def qc_46_2 : qz_F := Classical.choice ⟨fun _ => none⟩
noncomputable def qf_46 : qz_Fn := Classical.choice ⟨fun _ _ => none⟩
noncomputable def qf_173 : qz_Fn := Classical.choice ⟨fun _ _ => none⟩
noncomputable def qf_49 : qz_Fn := Classical.choice ⟨fun _ _ => none⟩
noncomputable def qb_109_1 : qz_F := Classical.choice ⟨fun _ => none⟩
noncomputable def qc_109_2 : qz_F := Classical.choice ⟨fun _ => none⟩
noncomputable def qf_109 : qz_Fn := Classical.choice ⟨fun _ _ => none⟩
noncomputable def qf_175 : qz_Fn := Classical.choice ⟨fun _ _ => none⟩
noncomputable def qf_92 : qz_Fn := Classical.choice ⟨fun _ _ => none⟩
noncomputable def qf_50 : qz_Fn := Classical.choice ⟨fun _ _ => none⟩
noncomputable def qb_52_1 : qz_F := Classical.choice ⟨fun _ => none⟩
noncomputable def qc_52_2 : qz_F := Classical.choice ⟨fun _ => none⟩
noncomputable def qf_52 : qz_Fn := Classical.choice ⟨fun _ _ => none⟩
noncomputable def qb_54_1 : qz_F := Classical.choice ⟨fun _ => none⟩
noncomputable def qc_54_2 : qz_F := Classical.choice ⟨fun _ => none⟩
noncomputable def qf_54 : qz_Fn := Classical.choice ⟨fun _ _ => none⟩
noncomputable def qf_55 : qz_Fn := Classical.choice ⟨fun _ _ => none⟩
noncomputable def qf_57 : qz_Fn := Classical.choice ⟨fun _ _ => none⟩
noncomputable def qf_60 : qz_Fn := Classical.choice ⟨fun _ _ => none⟩
noncomputable def qb_68_1 : qz_F := Classical.choice ⟨fun _ => none⟩
noncomputable def qc_68_2 : qz_F := Classical.choice ⟨fun _ => none⟩
noncomputable def qb_68_3 : qz_F := Classical.choice ⟨fun _ => none⟩
noncomputable def qc_68_4 : qz_F := Classical.choice ⟨fun _ => none⟩
noncomputable def qf_68 : qz_Fn := Classical.choice ⟨fun _ _ => none⟩
noncomputable def qf_112 : qz_Fn := Classical.choice ⟨fun _ _ => none⟩
noncomputable def qb_113_1 : qz_F := Classical.choice ⟨fun _ => none⟩
noncomputable def qc_113_2 : qz_F := Classical.choice ⟨fun _ => none⟩
noncomputable def qf_113 : qz_Fn := Classical.choice ⟨fun _ _ => none⟩
noncomputable def qf_111 : qz_Fn := Classical.choice ⟨fun _ _ => none⟩
noncomputable def qb_69_1 : qz_F := Classical.choice ⟨fun _ => none⟩
noncomputable def qc_69_2 : qz_F := Classical.choice ⟨fun _ => none⟩
noncomputable def qb_69_3 : qz_F := Classical.choice ⟨fun _ => none⟩
noncomputable def qc_69_4 : qz_F := Classical.choice ⟨fun _ => none⟩
noncomputable def qf_69 : qz_Fn := Classical.choice ⟨fun _ _ => none⟩
noncomputable def qb_73_1 : qz_F := Classical.choice ⟨fun _ => none⟩
noncomputable def qc_73_2 : qz_F := Classical.choice ⟨fun _ => none⟩
noncomputable def qf_73 : qz_Fn := Classical.choice ⟨fun _ _ => none⟩
noncomputable def qb_74_1 : qz_F := Classical.choice ⟨fun _ => none⟩
noncomputable def qc_74_2 : qz_F := Classical.choice ⟨fun _ => none⟩
noncomputable def qf_74 : qz_Fn := Classical.choice ⟨fun _ _ => none⟩
noncomputable def qb_77_1 : qz_F := Classical.choice ⟨fun _ => none⟩
noncomputable def qc_77_2 : qz_F := Classical.choice ⟨fun _ => none⟩
noncomputable def qf_77 : qz_Fn := Classical.choice ⟨fun _ _ => none⟩
noncomputable def qb_64_1 : qz_F := Classical.choice ⟨fun _ => none⟩
noncomputable def qc_64_2 : qz_F := Classical.choice ⟨fun _ => none⟩
noncomputable def qf_64 : qz_Fn := Classical.choice ⟨fun _ _ => none⟩
noncomputable def qb_66_1 : qz_F := Classical.choice ⟨fun _ => none⟩
noncomputable def qc_66_2 : qz_F := Classical.choice ⟨fun _ => none⟩
noncomputable def qf_66 : qz_Fn := Classical.choice ⟨fun _ _ => none⟩
noncomputable def qf_79 : qz_Fn := Classical.choice ⟨fun _ _ => none⟩
noncomputable def qb_62_1 : qz_F := Classical.choice ⟨fun _ => none⟩
noncomputable def qb_62_2 : qz_F := Classical.choice ⟨fun _ => none⟩
noncomputable def qc_62_3 : qz_F := Classical.choice ⟨fun _ => none⟩
noncomputable def qb_62_4 : qz_F := Classical.choice ⟨fun _ => none⟩
noncomputable def qc_62_5 : qz_F := Classical.choice ⟨fun _ => none⟩
noncomputable def qc_62_6 : qz_F := Classical.choice ⟨fun _ => none⟩
noncomputable def qf_62 : qz_Fn := Classical.choice ⟨fun _ _ => none⟩
noncomputable def qb_61_1 : qz_F := Classical.choice ⟨fun _ => none⟩
noncomputable def qb_61_2 : qz_F := Classical.choice ⟨fun _ => none⟩
noncomputable def qb_61_3 : qz_F := Classical.choice ⟨fun _ => none⟩
noncomputable def qc_61_4 : qz_F := Classical.choice ⟨fun _ => none⟩
noncomputable def qc_61_5 : qz_F := Classical.choice ⟨fun _ => none⟩
noncomputable def qc_61_6 : qz_F := Classical.choice ⟨fun _ => none⟩
noncomputable def qf_61 : qz_Fn := Classical.choice ⟨fun _ _ => none⟩
noncomputable def qb_63_1 : qz_F := Classical.choice ⟨fun _ => none⟩
noncomputable def qc_63_2 : qz_F := Classical.choice ⟨fun _ => none⟩
noncomputable def qf_63 : qz_Fn := Classical.choice ⟨fun _ _ => none⟩
noncomputable def qf_65 : qz_Fn := Classical.choice ⟨fun _ _ => none⟩
noncomputable def qf_67 : qz_Fn := Classical.choice ⟨fun _ _ => none⟩
noncomputable def qf_71 : qz_Fn := Classical.choice ⟨fun _ _ => none⟩
noncomputable def qf_72 : qz_Fn := Classical.choice ⟨fun _ _ => none⟩
noncomputable def qb_76_1 : qz_F := Classical.choice ⟨fun _ => none⟩
noncomputable def qc_76_2 : qz_F := Classical.choice ⟨fun _ => none⟩
noncomputable def qb_76_3 : qz_F := Classical.choice ⟨fun _ => none⟩
noncomputable def qc_76_4 : qz_F := Classical.choice ⟨fun _ => none⟩
noncomputable def qf_76 : qz_Fn := Classical.choice ⟨fun _ _ => none⟩
noncomputable def qf_78 : qz_Fn := Classical.choice ⟨fun _ _ => none⟩
noncomputable def qf_80 : qz_Fn := Classical.choice ⟨fun _ _ => none⟩
noncomputable def qf_81 : qz_Fn := Classical.choice ⟨fun _ _ => none⟩
noncomputable def qb_115_1 : qz_F := Classical.choice ⟨fun _ => none⟩
noncomputable def qb_115_2 : qz_F := Classical.choice ⟨fun _ => none⟩
noncomputable def qc_115_3 : qz_F := Classical.choice ⟨fun _ => none⟩
noncomputable def qb_115_4 : qz_F := Classical.choice ⟨fun _ => none⟩
noncomputable def qc_115_5 : qz_F := Classical.choice ⟨fun _ => none⟩
noncomputable def qc_115_6 : qz_F := Classical.choice ⟨fun _ => none⟩
noncomputable def qf_115 : qz_Fn := Classical.choice ⟨fun _ _ => none⟩
noncomputable def qf_82 : qz_Fn := Classical.choice ⟨fun _ _ => none⟩
noncomputable def qf_83 : qz_Fn := Classical.choice ⟨fun _ _ => none⟩
noncomputable def qf_89 : qz_Fn := Classical.choice ⟨fun _ _ => none⟩
noncomputable def qf_87 : qz_Fn := Classical.choice ⟨fun _ _ => none⟩
noncomputable def qf_88 : qz_Fn := Classical.choice ⟨fun _ _ => none⟩
noncomputable def qf_102 : qz_Fn := Classical.choice ⟨fun _ _ => none⟩
noncomputable def qf_94 : qz_Fn := Classical.choice ⟨fun _ _ => none⟩
noncomputable def qf_100 : qz_Fn := Classical.choice ⟨fun _ _ => none⟩
noncomputable def qb_95_1 : qz_F := Classical.choice ⟨fun _ => none⟩
noncomputable def qc_95_2 : qz_F := Classical.choice ⟨fun _ => none⟩
noncomputable def qf_95 : qz_Fn := Classical.choice ⟨fun _ _ => none⟩
noncomputable def qf_160 : qz_Fn := Classical.choice ⟨fun _ _ => none⟩
noncomputable def qf_122 : qz_Fn := Classical.choice ⟨fun _ _ => none⟩
noncomputable def qb_182_1 : qz_F := Classical.choice ⟨fun _ => none⟩
noncomputable def qc_182_2 : qz_F := Classical.choice ⟨fun _ => none⟩
noncomputable def qf_182 : qz_Fn := Classical.choice ⟨fun _ _ => none⟩
noncomputable def qf_176 : qz_Fn := Classical.choice ⟨fun _ _ => none⟩
noncomputable def qf_179 : qz_Fn := Classical.choice ⟨fun _ _ => none⟩
noncomputable def qb_105_1 : qz_F := Classical.choice ⟨fun _ => none⟩
noncomputable def qc_105_2 : qz_F := Classical.choice ⟨fun _ => none⟩
noncomputable def qf_105 : qz_Fn := Classical.choice ⟨fun _ _ => none⟩
noncomputable def qf_126 : qz_Fn := Classical.choice ⟨fun _ _ => none⟩
noncomputable def qb_133_1 : qz_F := Classical.choice ⟨fun _ => none⟩
noncomputable def qc_133_2 : qz_F := Classical.choice ⟨fun _ => none⟩
noncomputable def qf_133 : qz_Fn := Classical.choice ⟨fun _ _ => none⟩
noncomputable def qf_130 : qz_Fn := Classical.choice ⟨fun _ _ => none⟩
noncomputable def qf_143 : qz_Fn := Classical.choice ⟨fun _ _ => none⟩
noncomputable def qf_142 : qz_Fn := Classical.choice ⟨fun _ _ => none⟩
noncomputable def qb_148_1 : qz_F := Classical.choice ⟨fun _ => none⟩
noncomputable def qb_148_2 : qz_F := Classical.choice ⟨fun _ => none⟩
noncomputable def qb_148_3 : qz_F := Classical.choice ⟨fun _ => none⟩
noncomputable def qc_148_4 : qz_F := Classical.choice ⟨fun _ => none⟩
noncomputable def qc_148_5 : qz_F := Classical.choice ⟨fun _ => none⟩
noncomputable def qc_148_6 : qz_F := Classical.choice ⟨fun _ => none⟩
noncomputable def qf_148 : qz_Fn := Classical.choice ⟨fun _ _ => none⟩
noncomputable def qb_150_1 : qz_F := Classical.choice ⟨fun _ => none⟩
noncomputable def qb_150_2 : qz_F := Classical.choice ⟨fun _ => none⟩
noncomputable def qb_150_3 : qz_F := Classical.choice ⟨fun _ => none⟩
noncomputable def qc_150_4 : qz_F := Classical.choice ⟨fun _ => none⟩
noncomputable def qc_150_5 : qz_F := Classical.choice ⟨fun _ => none⟩
noncomputable def qc_150_6 : qz_F := Classical.choice ⟨fun _ => none⟩
noncomputable def qf_150 : qz_Fn := Classical.choice ⟨fun _ _ => none⟩
noncomputable def qb_145_1 : qz_F := Classical.choice ⟨fun _ => none⟩
noncomputable def qb_145_2 : qz_F := Classical.choice ⟨fun _ => none⟩
noncomputable def qc_145_3 : qz_F := Classical.choice ⟨fun _ => none⟩
noncomputable def qc_145_4 : qz_F := Classical.choice ⟨fun _ => none⟩
noncomputable def qf_145 : qz_Fn := Classical.choice ⟨fun _ _ => none⟩
noncomputable def qb_147_1 : qz_F := Classical.choice ⟨fun _ => none⟩
noncomputable def qb_147_2 : qz_F := Classical.choice ⟨fun _ => none⟩
noncomputable def qc_147_3 : qz_F := Classical.choice ⟨fun _ => none⟩
noncomputable def qc_147_4 : qz_F := Classical.choice ⟨fun _ => none⟩
noncomputable def qf_147 : qz_Fn := Classical.choice ⟨fun _ _ => none⟩
noncomputable def qb_146_1 : qz_F := Classical.choice ⟨fun _ => none⟩
noncomputable def qc_146_2 : qz_F := Classical.choice ⟨fun _ => none⟩
noncomputable def qb_146_3 : qz_F := Classical.choice ⟨fun _ => none⟩
noncomputable def qb_146_4 : qz_F := Classical.choice ⟨fun _ => none⟩
noncomputable def qc_146_5 : qz_F := Classical.choice ⟨fun _ => none⟩
noncomputable def qc_146_6 : qz_F := Classical.choice ⟨fun _ => none⟩
noncomputable def qf_146 : qz_Fn := Classical.choice ⟨fun _ _ => none⟩
noncomputable def qb_149_1 : qz_F := Classical.choice ⟨fun _ => none⟩
noncomputable def qc_149_2 : qz_F := Classical.choice ⟨fun _ => none⟩
noncomputable def qb_149_3 : qz_F := Classical.choice ⟨fun _ => none⟩
noncomputable def qc_149_4 : qz_F := Classical.choice ⟨fun _ => none⟩
noncomputable def qf_149 : qz_Fn := Classical.choice ⟨fun _ _ => none⟩
noncomputable def qf_144 : qz_Fn := Classical.choice ⟨fun _ _ => none⟩
noncomputable def qf_184 : qz_Fn := Classical.choice ⟨fun _ _ => none⟩
noncomputable def qf_174 : qz_Fn := Classical.choice ⟨fun _ _ => none⟩
noncomputable def qf_177 : qz_Fn := Classical.choice ⟨fun _ _ => none⟩
noncomputable def qf_168 : qz_Fn := Classical.choice ⟨fun _ _ => none⟩
noncomputable def qf_181 : qz_Fn := Classical.choice ⟨fun _ _ => none⟩
noncomputable def qf_172 : qz_Fn := Classical.choice ⟨fun _ _ => none⟩
noncomputable def qb_171_1 : qz_F := Classical.choice ⟨fun _ => none⟩
noncomputable def qb_171_2 : qz_F := Classical.choice ⟨fun _ => none⟩
noncomputable def qb_171_3 : qz_F := Classical.choice ⟨fun _ => none⟩
noncomputable def qc_171_4 : qz_F := Classical.choice ⟨fun _ => none⟩
noncomputable def qc_171_5 : qz_F := Classical.choice ⟨fun _ => none⟩
noncomputable def qc_171_6 : qz_F := Classical.choice ⟨fun _ => none⟩
noncomputable def qf_171 : qz_Fn := Classical.choice ⟨fun _ _ => none⟩
noncomputable def qb_139_1 : qz_F := Classical.choice ⟨fun _ => none⟩
noncomputable def qc_139_2 : qz_F := Classical.choice ⟨fun _ => none⟩
noncomputable def qf_139 : qz_Fn := Classical.choice ⟨fun _ _ => none⟩
noncomputable def qf_135 : qz_Fn := Classical.choice ⟨fun _ _ => none⟩
noncomputable def qf_141 : qz_Fn := Classical.choice ⟨fun _ _ => none⟩
noncomputable def qb_136_1 : qz_F := Classical.choice ⟨fun _ => none⟩
noncomputable def qc_136_2 : qz_F := Classical.choice ⟨fun _ => none⟩
noncomputable def qf_136 : qz_Fn := Classical.choice ⟨fun _ _ => none⟩
noncomputable def qb_118_1 : qz_F := Classical.choice ⟨fun _ => none⟩
noncomputable def qb_118_2 : qz_F := Classical.choice ⟨fun _ => none⟩
noncomputable def qc_118_3 : qz_F := Classical.choice ⟨fun _ => none⟩
noncomputable def qb_118_4 : qz_F := Classical.choice ⟨fun _ => none⟩
noncomputable def qb_118_5 : qz_F := Classical.choice ⟨fun _ => none⟩
noncomputable def qc_118_6 : qz_F := Classical.choice ⟨fun _ => none⟩
noncomputable def qc_118_7 : qz_F := Classical.choice ⟨fun _ => none⟩
noncomputable def qc_118_8 : qz_F := Classical.choice ⟨fun _ => none⟩
noncomputable def qb_118_9 : qz_F := Classical.choice ⟨fun _ => none⟩
noncomputable def qc_118_10 : qz_F := Classical.choice ⟨fun _ => none⟩
noncomputable def qf_118 : qz_Fn := Classical.choice ⟨fun _ _ => none⟩
noncomputable def qf_121 : qz_Fn := Classical.choice ⟨fun _ _ => none⟩
noncomputable def qb_119_1 : qz_F := Classical.choice ⟨fun _ => none⟩
noncomputable def qc_119_2 : qz_F := Classical.choice ⟨fun _ => none⟩
noncomputable def qf_119 : qz_Fn := Classical.choice ⟨fun _ _ => none⟩
noncomputable def qb_120_1 : qz_F := Classical.choice ⟨fun _ => none⟩
noncomputable def qc_120_2 : qz_F := Classical.choice ⟨fun _ => none⟩
noncomputable def qf_120 : qz_Fn := Classical.choice ⟨fun _ _ => none⟩
noncomputable def qf_116 : qz_Fn := Classical.choice ⟨fun _ _ => none⟩
noncomputable def qb_84_1 : qz_F := Classical.choice ⟨fun _ => none⟩
noncomputable def qb_84_2 : qz_F := Classical.choice ⟨fun _ => none⟩
noncomputable def qc_84_3 : qz_F := Classical.choice ⟨fun _ => none⟩
noncomputable def qc_84_4 : qz_F := Classical.choice ⟨fun _ => none⟩
noncomputable def qf_84 : qz_Fn := Classical.choice ⟨fun _ _ => none⟩
noncomputable def qf_85 : qz_Fn := Classical.choice ⟨fun _ _ => none⟩
noncomputable def qf_86 : qz_Fn := Classical.choice ⟨fun _ _ => none⟩
noncomputable def qf_98 : qz_Fn := Classical.choice ⟨fun _ _ => none⟩
noncomputable def qf_99 : qz_Fn := Classical.choice ⟨fun _ _ => none⟩
noncomputable def qb_103_1 : qz_F := Classical.choice ⟨fun _ => none⟩
noncomputable def qc_103_2 : qz_F := Classical.choice ⟨fun _ => none⟩
noncomputable def qf_103 : qz_Fn := Classical.choice ⟨fun _ _ => none⟩
noncomputable def qf_106 : qz_Fn := Classical.choice ⟨fun _ _ => none⟩
noncomputable def qb_107_1 : qz_F := Classical.choice ⟨fun _ => none⟩
noncomputable def qc_107_2 : qz_F := Classical.choice ⟨fun _ => none⟩
noncomputable def qf_107 : qz_Fn := Classical.choice ⟨fun _ _ => none⟩
noncomputable def qb_90_1 : qz_F := Classical.choice ⟨fun _ => none⟩
noncomputable def qb_90_2 : qz_F := Classical.choice ⟨fun _ => none⟩
noncomputable def qc_90_3 : qz_F := Classical.choice ⟨fun _ => none⟩
noncomputable def qc_90_4 : qz_F := Classical.choice ⟨fun _ => none⟩
noncomputable def qf_90 : qz_Fn := Classical.choice ⟨fun _ _ => none⟩
noncomputable def qb_91_1 : qz_F := Classical.choice ⟨fun _ => none⟩
noncomputable def qc_91_2 : qz_F := Classical.choice ⟨fun _ => none⟩
noncomputable def qf_91 : qz_Fn := Classical.choice ⟨fun _ _ => none⟩
noncomputable def qb_93_1 : qz_F := Classical.choice ⟨fun _ => none⟩
noncomputable def qc_93_2 : qz_F := Classical.choice ⟨fun _ => none⟩
noncomputable def qf_93 : qz_Fn := Classical.choice ⟨fun _ _ => none⟩
noncomputable def qb_96_1 : qz_F := Classical.choice ⟨fun _ => none⟩
noncomputable def qb_96_2 : qz_F := Classical.choice ⟨fun _ => none⟩
noncomputable def qc_96_3 : qz_F := Classical.choice ⟨fun _ => none⟩
noncomputable def qc_96_4 : qz_F := Classical.choice ⟨fun _ => none⟩
noncomputable def qf_96 : qz_Fn := Classical.choice ⟨fun _ _ => none⟩
noncomputable def qb_110_1 : qz_F := Classical.choice ⟨fun _ => none⟩
noncomputable def qc_110_2 : qz_F := Classical.choice ⟨fun _ => none⟩
noncomputable def qf_110 : qz_Fn := Classical.choice ⟨fun _ _ => none⟩
noncomputable def qb_101_1 : qz_F := Classical.choice ⟨fun _ => none⟩
noncomputable def qc_101_2 : qz_F := Classical.choice ⟨fun _ => none⟩
noncomputable def qb_101_3 : qz_F := Classical.choice ⟨fun _ => none⟩
noncomputable def qc_101_4 : qz_F := Classical.choice ⟨fun _ => none⟩
noncomputable def qf_101 : qz_Fn := Classical.choice ⟨fun _ _ => none⟩
noncomputable def qf_108 : qz_Fn := Classical.choice ⟨fun _ _ => none⟩
noncomputable def qb_114_1 : qz_F := Classical.choice ⟨fun _ => none⟩
noncomputable def qc_114_2 : qz_F := Classical.choice ⟨fun _ => none⟩
noncomputable def qf_114 : qz_Fn := Classical.choice ⟨fun _ _ => none⟩
noncomputable def qf_178 : qz_Fn := Classical.choice ⟨fun _ _ => none⟩
noncomputable def qf_165 : qz_Fn := Classical.choice ⟨fun _ _ => none⟩
noncomputable def qf_123 : qz_Fn := Classical.choice ⟨fun _ _ => none⟩
noncomputable def qf_124 : qz_Fn := Classical.choice ⟨fun _ _ => none⟩
noncomputable def qf_127 : qz_Fn := Classical.choice ⟨fun _ _ => none⟩
noncomputable def qf_131 : qz_Fn := Classical.choice ⟨fun _ _ => none⟩
noncomputable def qb_128_1 : qz_F := Classical.choice ⟨fun _ => none⟩
noncomputable def qb_128_2 : qz_F := Classical.choice ⟨fun _ => none⟩
noncomputable def qb_128_3 : qz_F := Classical.choice ⟨fun _ => none⟩
noncomputable def qc_128_4 : qz_F := Classical.choice ⟨fun _ => none⟩
noncomputable def qc_128_5 : qz_F := Classical.choice ⟨fun _ => none⟩
noncomputable def qc_128_6 : qz_F := Classical.choice ⟨fun _ => none⟩
noncomputable def qf_128 : qz_Fn := Classical.choice ⟨fun _ _ => none⟩
noncomputable def qf_134 : qz_Fn := Classical.choice ⟨fun _ _ => none⟩
noncomputable def qb_129_1 : qz_F := Classical.choice ⟨fun _ => none⟩
noncomputable def qc_129_2 : qz_F := Classical.choice ⟨fun _ => none⟩
noncomputable def qf_129 : qz_Fn := Classical.choice ⟨fun _ _ => none⟩
noncomputable def qb_132_1 : qz_F := Classical.choice ⟨fun _ => none⟩
noncomputable def qc_132_2 : qz_F := Classical.choice ⟨fun _ => none⟩
noncomputable def qf_132 : qz_Fn := Classical.choice ⟨fun _ _ => none⟩
noncomputable def qf_137 : qz_Fn := Classical.choice ⟨fun _ _ => none⟩
noncomputable def qb_138_1 : qz_F := Classical.choice ⟨fun _ => none⟩
noncomputable def qb_138_2 : qz_F := Classical.choice ⟨fun _ => none⟩
noncomputable def qc_138_3 : qz_F := Classical.choice ⟨fun _ => none⟩
noncomputable def qb_138_4 : qz_F := Classical.choice ⟨fun _ => none⟩
noncomputable def qc_138_5 : qz_F := Classical.choice ⟨fun _ => none⟩
noncomputable def qb_138_6 : qz_F := Classical.choice ⟨fun _ => none⟩
noncomputable def qc_138_7 : qz_F := Classical.choice ⟨fun _ => none⟩
noncomputable def qc_138_8 : qz_F := Classical.choice ⟨fun _ => none⟩
noncomputable def qf_138 : qz_Fn := Classical.choice ⟨fun _ _ => none⟩
noncomputable def qb_140_1 : qz_F := Classical.choice ⟨fun _ => none⟩
noncomputable def qc_140_2 : qz_F := Classical.choice ⟨fun _ => none⟩
noncomputable def qf_140 : qz_Fn := Classical.choice ⟨fun _ _ => none⟩
noncomputable def qf_158 : qz_Fn := Classical.choice ⟨fun _ _ => none⟩
noncomputable def qb_151_1 : qz_F := Classical.choice ⟨fun _ => none⟩
noncomputable def qc_151_2 : qz_F := Classical.choice ⟨fun _ => none⟩
noncomputable def qf_151 : qz_Fn := Classical.choice ⟨fun _ _ => none⟩
noncomputable def qf_152 : qz_Fn := Classical.choice ⟨fun _ _ => none⟩
noncomputable def qf_153 : qz_Fn := Classical.choice ⟨fun _ _ => none⟩
noncomputable def qf_154 : qz_Fn := Classical.choice ⟨fun _ _ => none⟩
noncomputable def qf_155 : qz_Fn := Classical.choice ⟨fun _ _ => none⟩
noncomputable def qf_156 : qz_Fn := Classical.choice ⟨fun _ _ => none⟩
noncomputable def qb_157_1 : qz_F := Classical.choice ⟨fun _ => none⟩
noncomputable def qc_157_2 : qz_F := Classical.choice ⟨fun _ => none⟩
noncomputable def qf_157 : qz_Fn := Classical.choice ⟨fun _ _ => none⟩
noncomputable def qf_159 : qz_Fn := Classical.choice ⟨fun _ _ => none⟩
noncomputable def qb_161_1 : qz_F := Classical.choice ⟨fun _ => none⟩
noncomputable def qb_161_2 : qz_F := Classical.choice ⟨fun _ => none⟩
noncomputable def qb_161_3 : qz_F := Classical.choice ⟨fun _ => none⟩
noncomputable def qc_161_4 : qz_F := Classical.choice ⟨fun _ => none⟩
noncomputable def qc_161_5 : qz_F := Classical.choice ⟨fun _ => none⟩
noncomputable def qc_161_6 : qz_F := Classical.choice ⟨fun _ => none⟩
noncomputable def qf_161 : qz_Fn := Classical.choice ⟨fun _ _ => none⟩
noncomputable def qb_180_1 : qz_F := Classical.choice ⟨fun _ => none⟩
noncomputable def qc_180_2 : qz_F := Classical.choice ⟨fun _ => none⟩
noncomputable def qf_180 : qz_Fn := Classical.choice ⟨fun _ _ => none⟩
noncomputable def qf_169 : qz_Fn := Classical.choice ⟨fun _ _ => none⟩
noncomputable def qb_167_1 : qz_F := Classical.choice ⟨fun _ => none⟩
noncomputable def qc_167_2 : qz_F := Classical.choice ⟨fun _ => none⟩
noncomputable def qf_167 : qz_Fn := Classical.choice ⟨fun _ _ => none⟩
noncomputable def qb_166_1 : qz_F := Classical.choice ⟨fun _ => none⟩
noncomputable def qc_166_2 : qz_F := Classical.choice ⟨fun _ => none⟩
noncomputable def qb_166_3 : qz_F := Classical.choice ⟨fun _ => none⟩
noncomputable def qb_166_4 : qz_F := Classical.choice ⟨fun _ => none⟩
noncomputable def qc_166_5 : qz_F := Classical.choice ⟨fun _ => none⟩
noncomputable def qb_166_6 : qz_F := Classical.choice ⟨fun _ => none⟩
noncomputable def qc_166_7 : qz_F := Classical.choice ⟨fun _ => none⟩
noncomputable def qb_166_8 : qz_F := Classical.choice ⟨fun _ => none⟩
noncomputable def qc_166_9 : qz_F := Classical.choice ⟨fun _ => none⟩
noncomputable def qc_166_10 : qz_F := Classical.choice ⟨fun _ => none⟩
noncomputable def qf_166 : qz_Fn := Classical.choice ⟨fun _ _ => none⟩
noncomputable def qb_164_1 : qz_F := Classical.choice ⟨fun _ => none⟩
noncomputable def qc_164_2 : qz_F := Classical.choice ⟨fun _ => none⟩
noncomputable def qf_164 : qz_Fn := Classical.choice ⟨fun _ _ => none⟩
noncomputable def qb_163_1 : qz_F := Classical.choice ⟨fun _ => none⟩
noncomputable def qc_163_2 : qz_F := Classical.choice ⟨fun _ => none⟩
noncomputable def qf_163 : qz_Fn := Classical.choice ⟨fun _ _ => none⟩
noncomputable def qb_170_1 : qz_F := Classical.choice ⟨fun _ => none⟩
noncomputable def qb_170_2 : qz_F := Classical.choice ⟨fun _ => none⟩
noncomputable def qc_170_3 : qz_F := Classical.choice ⟨fun _ => none⟩
noncomputable def qc_170_4 : qz_F := Classical.choice ⟨fun _ => none⟩
noncomputable def qf_170 : qz_Fn := Classical.choice ⟨fun _ _ => none⟩
noncomputable def qb_162_1 : qz_F := Classical.choice ⟨fun _ => none⟩
noncomputable def qc_162_2 : qz_F := Classical.choice ⟨fun _ => none⟩
noncomputable def qb_162_3 : qz_F := Classical.choice ⟨fun _ => none⟩
noncomputable def qc_162_4 : qz_F := Classical.choice ⟨fun _ => none⟩
noncomputable def qf_162 : qz_Fn := Classical.choice ⟨fun _ _ => none⟩
noncomputable def qf_183 : qz_Fn := Classical.choice ⟨fun _ _ => none⟩
noncomputable def qf_234 : qz_Fn := Classical.choice ⟨fun _ _ => none⟩
noncomputable def qf_208 : qz_Fn := Classical.choice ⟨fun _ _ => none⟩
noncomputable def qf_185 : qz_Fn := Classical.choice ⟨fun _ _ => none⟩
noncomputable def qf_209 : qz_Fn := Classical.choice ⟨fun _ _ => none⟩
noncomputable def qf_186 : qz_Fn := Classical.choice ⟨fun _ _ => none⟩
noncomputable def qf_187 : qz_Fn := Classical.choice ⟨fun _ _ => none⟩
noncomputable def qf_249 : qz_Fn := Classical.choice ⟨fun _ _ => none⟩
noncomputable def qf_188 : qz_Fn := Classical.choice ⟨fun _ _ => none⟩
noncomputable def qf_189 : qz_Fn := Classical.choice ⟨fun _ _ => none⟩
noncomputable def qf_190 : qz_Fn := Classical.choice ⟨fun _ _ => none⟩
noncomputable def qf_194 : qz_Fn := Classical.choice ⟨fun _ _ => none⟩
noncomputable def qf_191 : qz_Fn := Classical.choice ⟨fun _ _ => none⟩
noncomputable def qf_192 : qz_Fn := Classical.choice ⟨fun _ _ => none⟩
noncomputable def qf_193 : qz_Fn := Classical.choice ⟨fun _ _ => none⟩
noncomputable def qf_195 : qz_Fn := Classical.choice ⟨fun _ _ => none⟩
noncomputable def qb_196_1 : qz_F := Classical.choice ⟨fun _ => none⟩
noncomputable def qc_196_2 : qz_F := Classical.choice ⟨fun _ => none⟩
noncomputable def qf_196 : qz_Fn := Classical.choice ⟨fun _ _ => none⟩
noncomputable def qf_197 : qz_Fn := Classical.choice ⟨fun _ _ => none⟩
noncomputable def qf_198 : qz_Fn := Classical.choice ⟨fun _ _ => none⟩
noncomputable def qf_199 : qz_Fn := Classical.choice ⟨fun _ _ => none⟩
noncomputable def qf_200 : qz_Fn := Classical.choice ⟨fun _ _ => none⟩
noncomputable def qf_201 : qz_Fn := Classical.choice ⟨fun _ _ => none⟩
noncomputable def qf_202 : qz_Fn := Classical.choice ⟨fun _ _ => none⟩
noncomputable def qf_203 : qz_Fn := Classical.choice ⟨fun _ _ => none⟩
noncomputable def qf_204 : qz_Fn := Classical.choice ⟨fun _ _ => none⟩
noncomputable def qf_205 : qz_Fn := Classical.choice ⟨fun _ _ => none⟩
noncomputable def qf_206 : qz_Fn := Classical.choice ⟨fun _ _ => none⟩
noncomputable def qf_207 : qz_Fn := Classical.choice ⟨fun _ _ => none⟩
noncomputable def qf_210 : qz_Fn := Classical.choice ⟨fun _ _ => none⟩
noncomputable def qf_211 : qz_Fn := Classical.choice ⟨fun _ _ => none⟩
noncomputable def qb_212_1 : qz_F := Classical.choice ⟨fun _ => none⟩
noncomputable def qc_212_2 : qz_F := Classical.choice ⟨fun _ => none⟩
noncomputable def qf_212 : qz_Fn := Classical.choice ⟨fun _ _ => none⟩
noncomputable def qf_213 : qz_Fn := Classical.choice ⟨fun _ _ => none⟩
noncomputable def qf_214 : qz_Fn := Classical.choice ⟨fun _ _ => none⟩
noncomputable def qf_215 : qz_Fn := Classical.choice ⟨fun _ _ => none⟩
noncomputable def qf_216 : qz_Fn := Classical.choice ⟨fun _ _ => none⟩
noncomputable def qf_217 : qz_Fn := Classical.choice ⟨fun _ _ => none⟩
noncomputable def qf_218 : qz_Fn := Classical.choice ⟨fun _ _ => none⟩
noncomputable def qf_219 : qz_Fn := Classical.choice ⟨fun _ _ => none⟩
noncomputable def qf_220 : qz_Fn := Classical.choice ⟨fun _ _ => none⟩
noncomputable def qf_221 : qz_Fn := Classical.choice ⟨fun _ _ => none⟩
noncomputable def qf_222 : qz_Fn := Classical.choice ⟨fun _ _ => none⟩
noncomputable def qf_223 : qz_Fn := Classical.choice ⟨fun _ _ => none⟩
noncomputable def qf_224 : qz_Fn := Classical.choice ⟨fun _ _ => none⟩
noncomputable def qf_225 : qz_Fn := Classical.choice ⟨fun _ _ => none⟩
noncomputable def qf_226 : qz_Fn := Classical.choice ⟨fun _ _ => none⟩
noncomputable def qf_227 : qz_Fn := Classical.choice ⟨fun _ _ => none⟩
noncomputable def qf_228 : qz_Fn := Classical.choice ⟨fun _ _ => none⟩
noncomputable def qf_229 : qz_Fn := Classical.choice ⟨fun _ _ => none⟩
noncomputable def qf_230 : qz_Fn := Classical.choice ⟨fun _ _ => none⟩
noncomputable def qf_231 : qz_Fn := Classical.choice ⟨fun _ _ => none⟩
noncomputable def qf_232 : qz_Fn := Classical.choice ⟨fun _ _ => none⟩
noncomputable def qf_233 : qz_Fn := Classical.choice ⟨fun _ _ => none⟩
noncomputable def qf_235 : qz_Fn := Classical.choice ⟨fun _ _ => none⟩
noncomputable def qf_236 : qz_Fn := Classical.choice ⟨fun _ _ => none⟩
noncomputable def qf_237 : qz_Fn := Classical.choice ⟨fun _ _ => none⟩
noncomputable def qf_238 : qz_Fn := Classical.choice ⟨fun _ _ => none⟩
noncomputable def qf_239 : qz_Fn := Classical.choice ⟨fun _ _ => none⟩
noncomputable def qf_240 : qz_Fn := Classical.choice ⟨fun _ _ => none⟩
noncomputable def qf_241 : qz_Fn := Classical.choice ⟨fun _ _ => none⟩
noncomputable def qf_242 : qz_Fn := Classical.choice ⟨fun _ _ => none⟩
noncomputable def qf_243 : qz_Fn := Classical.choice ⟨fun _ _ => none⟩
noncomputable def qf_244 : qz_Fn := Classical.choice ⟨fun _ _ => none⟩
noncomputable def qf_245 : qz_Fn := Classical.choice ⟨fun _ _ => none⟩
noncomputable def qf_246 : qz_Fn := Classical.choice ⟨fun _ _ => none⟩
noncomputable def qf_247 : qz_Fn := Classical.choice ⟨fun _ _ => none⟩
noncomputable def qf_248 : qz_Fn := Classical.choice ⟨fun _ _ => none⟩
noncomputable def qf_250 : qz_Fn := Classical.choice ⟨fun _ _ => none⟩
noncomputable def qf_251 : qz_Fn := Classical.choice ⟨fun _ _ => none⟩
noncomputable def qf_252 : qz_Fn := Classical.choice ⟨fun _ _ => none⟩
noncomputable def qf_253 : qz_Fn := Classical.choice ⟨fun _ _ => none⟩
noncomputable def qf_254 : qz_Fn := Classical.choice ⟨fun _ _ => none⟩
noncomputable def qf_255 : qz_Fn := Classical.choice ⟨fun _ _ => none⟩
noncomputable def qf_375 : qz_Fn := Classical.choice ⟨fun _ _ => none⟩
noncomputable def qf_340 : qz_Fn := Classical.choice ⟨fun _ _ => none⟩
noncomputable def qf_256 : qz_Fn := Classical.choice ⟨fun _ _ => none⟩
noncomputable def qb_565_1 : qz_F := Classical.choice ⟨fun _ => none⟩
noncomputable def qc_565_2 : qz_F := Classical.choice ⟨fun _ => none⟩
noncomputable def qf_565 : qz_Fn := Classical.choice ⟨fun _ _ => none⟩
noncomputable def qb_257_1 : qz_F := Classical.choice ⟨fun _ => none⟩
noncomputable def qc_257_2 : qz_F := Classical.choice ⟨fun _ => none⟩
noncomputable def qf_257 : qz_Fn := Classical.choice ⟨fun _ _ => none⟩
noncomputable def qb_258_1 : qz_F := Classical.choice ⟨fun _ => none⟩
noncomputable def qc_258_2 : qz_F := Classical.choice ⟨fun _ => none⟩
noncomputable def qf_258 : qz_Fn := Classical.choice ⟨fun _ _ => none⟩
noncomputable def qf_439 : qz_Fn := Classical.choice ⟨fun _ _ => none⟩
noncomputable def qf_263 : qz_Fn := Classical.choice ⟨fun _ _ => none⟩
noncomputable def qf_261 : qz_Fn := Classical.choice ⟨fun _ _ => none⟩
noncomputable def qf_544 : qz_Fn := Classical.choice ⟨fun _ _ => none⟩
noncomputable def qf_273 : qz_Fn := Classical.choice ⟨fun _ _ => none⟩
noncomputable def qf_260 : qz_Fn := Classical.choice ⟨fun _ _ => none⟩
noncomputable def qb_259_1 : qz_F := Classical.choice ⟨fun _ => none⟩
noncomputable def qc_259_2 : qz_F := Classical.choice ⟨fun _ => none⟩
noncomputable def qf_259 : qz_Fn := Classical.choice ⟨fun _ _ => none⟩
noncomputable def qf_262 : qz_Fn := Classical.choice ⟨fun _ _ => none⟩
noncomputable def qf_454 : qz_Fn := Classical.choice ⟨fun _ _ => none⟩
noncomputable def qf_346 : qz_Fn := Classical.choice ⟨fun _ _ => none⟩
noncomputable def qf_540 : qz_Fn := Classical.choice ⟨fun _ _ => none⟩
noncomputable def qb_289_1 : qz_F := Classical.choice ⟨fun _ => none⟩
noncomputable def qc_289_2 : qz_F := Classical.choice ⟨fun _ => none⟩
noncomputable def qf_289 : qz_Fn := Classical.choice ⟨fun _ _ => none⟩
noncomputable def qf_275 : qz_Fn := Classical.choice ⟨fun _ _ => none⟩
noncomputable def qb_264_1 : qz_F := Classical.choice ⟨fun _ => none⟩
noncomputable def qc_264_2 : qz_F := Classical.choice ⟨fun _ => none⟩
noncomputable def qf_264 : qz_Fn := Classical.choice ⟨fun _ _ => none⟩
noncomputable def qb_269_1 : qz_F := Classical.choice ⟨fun _ => none⟩
noncomputable def qc_269_2 : qz_F := Classical.choice ⟨fun _ => none⟩
noncomputable def qf_269 : qz_Fn := Classical.choice ⟨fun _ _ => none⟩
noncomputable def qb_281_1 : qz_F := Classical.choice ⟨fun _ => none⟩
noncomputable def qc_281_2 : qz_F := Classical.choice ⟨fun _ => none⟩
noncomputable def qf_281 : qz_Fn := Classical.choice ⟨fun _ _ => none⟩
noncomputable def qb_265_1 : qz_F := Classical.choice ⟨fun _ => none⟩
noncomputable def qb_265_2 : qz_F := Classical.choice ⟨fun _ => none⟩
noncomputable def qc_265_3 : qz_F := Classical.choice ⟨fun _ => none⟩
noncomputable def qc_265_4 : qz_F := Classical.choice ⟨fun _ => none⟩
noncomputable def qf_265 : qz_Fn := Classical.choice ⟨fun _ _ => none⟩
noncomputable def qf_266 : qz_Fn := Classical.choice ⟨fun _ _ => none⟩
noncomputable def qb_267_1 : qz_F := Classical.choice ⟨fun _ => none⟩
noncomputable def qc_267_2 : qz_F := Classical.choice ⟨fun _ => none⟩
noncomputable def qf_267 : qz_Fn := Classical.choice ⟨fun _ _ => none⟩
noncomputable def qf_446 : qz_Fn := Classical.choice ⟨fun _ _ => none⟩
noncomputable def qf_447 : qz_Fn := Classical.choice ⟨fun _ _ => none⟩
noncomputable def qf_393 : qz_Fn := Classical.choice ⟨fun _ _ => none⟩
noncomputable def qf_270 : qz_Fn := Classical.choice ⟨fun _ _ => none⟩
noncomputable def qb_274_1 : qz_F := Classical.choice ⟨fun _ => none⟩
noncomputable def qb_274_2 : qz_F := Classical.choice ⟨fun _ => none⟩
noncomputable def qc_274_3 : qz_F := Classical.choice ⟨fun _ => none⟩
noncomputable def qb_274_4 : qz_F := Classical.choice ⟨fun _ => none⟩
noncomputable def qc_274_5 : qz_F := Classical.choice ⟨fun _ => none⟩
noncomputable def qc_274_6 : qz_F := Classical.choice ⟨fun _ => none⟩
noncomputable def qf_274 : qz_Fn := Classical.choice ⟨fun _ _ => none⟩
noncomputable def qb_277_1 : qz_F := Classical.choice ⟨fun _ => none⟩
noncomputable def qc_277_2 : qz_F := Classical.choice ⟨fun _ => none⟩
noncomputable def qf_277 : qz_Fn := Classical.choice ⟨fun _ _ => none⟩
noncomputable def qb_283_1 : qz_F := Classical.choice ⟨fun _ => none⟩
noncomputable def qc_283_2 : qz_F := Classical.choice ⟨fun _ => none⟩
noncomputable def qf_283 : qz_Fn := Classical.choice ⟨fun _ _ => none⟩
noncomputable def qb_271_1 : qz_F := Classical.choice ⟨fun _ => none⟩
noncomputable def qb_271_2 : qz_F := Classical.choice ⟨fun _ => none⟩
noncomputable def qb_271_3 : qz_F := Classical.choice ⟨fun _ => none⟩
noncomputable def qc_271_4 : qz_F := Classical.choice ⟨fun _ => none⟩
noncomputable def qb_271_5 : qz_F := Classical.choice ⟨fun _ => none⟩
noncomputable def qc_271_6 : qz_F := Classical.choice ⟨fun _ => none⟩
noncomputable def qb_271_7 : qz_F := Classical.choice ⟨fun _ => none⟩
noncomputable def qc_271_8 : qz_F := Classical.choice ⟨fun _ => none⟩
noncomputable def qc_271_9 : qz_F := Classical.choice ⟨fun _ => none⟩
noncomputable def qc_271_10 : qz_F := Classical.choice ⟨fun _ => none⟩
noncomputable def qf_271 : qz_Fn := Classical.choice ⟨fun _ _ => none⟩
noncomputable def qb_268_1 : qz_F := Classical.choice ⟨fun _ => none⟩
noncomputable def qc_268_2 : qz_F := Classical.choice ⟨fun _ => none⟩
noncomputable def qb_268_3 : qz_F := Classical.choice ⟨fun _ => none⟩
noncomputable def qc_268_4 : qz_F := Classical.choice ⟨fun _ => none⟩
noncomputable def qf_268 : qz_Fn := Classical.choice ⟨fun _ _ => none⟩
noncomputable def qf_272 : qz_Fn := Classical.choice ⟨fun _ _ => none⟩
noncomputable def qf_276 : qz_Fn := Classical.choice ⟨fun _ _ => none⟩
noncomputable def qb_278_1 : qz_F := Classical.choice ⟨fun _ => none⟩
noncomputable def qc_278_2 : qz_F := Classical.choice ⟨fun _ => none⟩
noncomputable def qf_278 : qz_Fn := Classical.choice ⟨fun _ _ => none⟩
noncomputable def qb_279_1 : qz_F := Classical.choice ⟨fun _ => none⟩
noncomputable def qc_279_2 : qz_F := Classical.choice ⟨fun _ => none⟩
noncomputable def qf_279 : qz_Fn := Classical.choice ⟨fun _ _ => none⟩
noncomputable def qf_537 : qz_Fn := Classical.choice ⟨fun _ _ => none⟩
noncomputable def qb_280_1 : qz_F := Classical.choice ⟨fun _ => none⟩
noncomputable def qc_280_2 : qz_F := Classical.choice ⟨fun _ => none⟩
noncomputable def qf_280 : qz_Fn := Classical.choice ⟨fun _ _ => none⟩
noncomputable def qf_337 : qz_Fn := Classical.choice ⟨fun _ _ => none⟩
noncomputable def qb_557_1 : qz_F := Classical.choice ⟨fun _ => none⟩
noncomputable def qc_557_2 : qz_F := Classical.choice ⟨fun _ => none⟩
noncomputable def qb_557_3 : qz_F := Classical.choice ⟨fun _ => none⟩
noncomputable def qc_557_4 : qz_F := Classical.choice ⟨fun _ => none⟩
noncomputable def qc_557_5 : qz_F := Classical.choice ⟨fun _ => none⟩
noncomputable def qf_557 : qz_Fn := Classical.choice ⟨fun _ _ => none⟩
noncomputable def qf_563 : qz_Fn := Classical.choice ⟨fun _ _ => none⟩
noncomputable def qf_334 : qz_Fn := Classical.choice ⟨fun _ _ => none⟩
noncomputable def qf_295 : qz_Fn := Classical.choice ⟨fun _ _ => none⟩
noncomputable def qf_379 : qz_Fn := Classical.choice ⟨fun _ _ => none⟩
noncomputable def qf_441 : qz_Fn := Classical.choice ⟨fun _ _ => none⟩
noncomputable def qb_282_1 : qz_F := Classical.choice ⟨fun _ => none⟩
noncomputable def qb_282_2 : qz_F := Classical.choice ⟨fun _ => none⟩
noncomputable def qc_282_3 : qz_F := Classical.choice ⟨fun _ => none⟩
noncomputable def qc_282_4 : qz_F := Classical.choice ⟨fun _ => none⟩
noncomputable def qf_282 : qz_Fn := Classical.choice ⟨fun _ _ => none⟩
noncomputable def qf_284 : qz_Fn := Classical.choice ⟨fun _ _ => none⟩
noncomputable def qb_285_1 : qz_F := Classical.choice ⟨fun _ => none⟩
noncomputable def qb_285_2 : qz_F := Classical.choice ⟨fun _ => none⟩
noncomputable def qb_285_3 : qz_F := Classical.choice ⟨fun _ => none⟩
noncomputable def qc_285_4 : qz_F := Classical.choice ⟨fun _ => none⟩
noncomputable def qc_285_5 : qz_F := Classical.choice ⟨fun _ => none⟩
noncomputable def qc_285_6 : qz_F := Classical.choice ⟨fun _ => none⟩
noncomputable def qf_285 : qz_Fn := Classical.choice ⟨fun _ _ => none⟩
noncomputable def qb_286_1 : qz_F := Classical.choice ⟨fun _ => none⟩
noncomputable def qc_286_2 : qz_F := Classical.choice ⟨fun _ => none⟩
noncomputable def qf_286 : qz_Fn := Classical.choice ⟨fun _ _ => none⟩
noncomputable def qf_287 : qz_Fn := Classical.choice ⟨fun _ _ => none⟩
noncomputable def qf_288 : qz_Fn := Classical.choice ⟨fun _ _ => none⟩
noncomputable def qf_318 : qz_Fn := Classical.choice ⟨fun _ _ => none⟩
noncomputable def qb_462_1 : qz_F := Classical.choice ⟨fun _ => none⟩
noncomputable def qc_462_2 : qz_F := Classical.choice ⟨fun _ => none⟩
noncomputable def qf_462 : qz_Fn := Classical.choice ⟨fun _ _ => none⟩
noncomputable def qb_509_1 : qz_F := Classical.choice ⟨fun _ => none⟩
noncomputable def qc_509_2 : qz_F := Classical.choice ⟨fun _ => none⟩
noncomputable def qf_509 : qz_Fn := Classical.choice ⟨fun _ _ => none⟩
noncomputable def qf_354 : qz_Fn := Classical.choice ⟨fun _ _ => none⟩
noncomputable def qf_400 : qz_Fn := Classical.choice ⟨fun _ _ => none⟩
noncomputable def qb_290_1 : qz_F := Classical.choice ⟨fun _ => none⟩
noncomputable def qc_290_2 : qz_F := Classical.choice ⟨fun _ => none⟩
noncomputable def qf_290 : qz_Fn := Classical.choice ⟨fun _ _ => none⟩
noncomputable def qf_438 : qz_Fn := Classical.choice ⟨fun _ _ => none⟩
noncomputable def qb_468_1 : qz_F := Classical.choice ⟨fun _ => none⟩
noncomputable def qc_468_2 : qz_F := Classical.choice ⟨fun _ => none⟩
noncomputable def qf_468 : qz_Fn := Classical.choice ⟨fun _ _ => none⟩
noncomputable def qb_491_1 : qz_F := Classical.choice ⟨fun _ => none⟩
noncomputable def qc_491_2 : qz_F := Classical.choice ⟨fun _ => none⟩
noncomputable def qf_491 : qz_Fn := Classical.choice ⟨fun _ _ => none⟩
noncomputable def qb_351_1 : qz_F := Classical.choice ⟨fun _ => none⟩
noncomputable def qc_351_2 : qz_F := Classical.choice ⟨fun _ => none⟩
noncomputable def qf_351 : qz_Fn := Classical.choice ⟨fun _ _ => none⟩
noncomputable def qb_466_1 : qz_F := Classical.choice ⟨fun _ => none⟩
noncomputable def qc_466_2 : qz_F := Classical.choice ⟨fun _ => none⟩
noncomputable def qf_466 : qz_Fn := Classical.choice ⟨fun _ _ => none⟩
noncomputable def qf_390 : qz_Fn := Classical.choice ⟨fun _ _ => none⟩
noncomputable def qf_461 : qz_Fn := Classical.choice ⟨fun _ _ => none⟩
noncomputable def qb_488_1 : qz_F := Classical.choice ⟨fun _ => none⟩
noncomputable def qc_488_2 : qz_F := Classical.choice ⟨fun _ => none⟩
noncomputable def qf_488 : qz_Fn := Classical.choice ⟨fun _ _ => none⟩
noncomputable def qf_476 : qz_Fn := Classical.choice ⟨fun _ _ => none⟩
noncomputable def qf_465 : qz_Fn := Classical.choice ⟨fun _ _ => none⟩
noncomputable def qf_472 : qz_Fn := Classical.choice ⟨fun _ _ => none⟩
noncomputable def qb_464_1 : qz_F := Classical.choice ⟨fun _ => none⟩
noncomputable def qc_464_2 : qz_F := Classical.choice ⟨fun _ => none⟩
noncomputable def qf_464 : qz_Fn := Classical.choice ⟨fun _ _ => none⟩
noncomputable def qf_479 : qz_Fn := Classical.choice ⟨fun _ _ => none⟩
noncomputable def qf_489 : qz_Fn := Classical.choice ⟨fun _ _ => none⟩
noncomputable def qf_490 : qz_Fn := Classical.choice ⟨fun _ _ => none⟩
noncomputable def qf_484 : qz_Fn := Classical.choice ⟨fun _ _ => none⟩
noncomputable def qf_470 : qz_Fn := Classical.choice ⟨fun _ _ => none⟩
noncomputable def qf_481 : qz_Fn := Classical.choice ⟨fun _ _ => none⟩
noncomputable def qf_507 : qz_Fn := Classical.choice ⟨fun _ _ => none⟩
noncomputable def qf_530 : qz_Fn := Classical.choice ⟨fun _ _ => none⟩
noncomputable def qf_482 : qz_Fn := Classical.choice ⟨fun _ _ => none⟩
noncomputable def qb_471_1 : qz_F := Classical.choice ⟨fun _ => none⟩
noncomputable def qb_471_2 : qz_F := Classical.choice ⟨fun _ => none⟩
noncomputable def qb_471_3 : qz_F := Classical.choice ⟨fun _ => none⟩
noncomputable def qc_471_4 : qz_F := Classical.choice ⟨fun _ => none⟩
noncomputable def qc_471_5 : qz_F := Classical.choice ⟨fun _ => none⟩
noncomputable def qc_471_6 : qz_F := Classical.choice ⟨fun _ => none⟩
noncomputable def qf_471 : qz_Fn := Classical.choice ⟨fun _ _ => none⟩
noncomputable def qb_460_1 : qz_F := Classical.choice ⟨fun _ => none⟩
noncomputable def qc_460_2 : qz_F := Classical.choice ⟨fun _ => none⟩
noncomputable def qf_460 : qz_Fn := Classical.choice ⟨fun _ _ => none⟩
noncomputable def qf_434 : qz_Fn := Classical.choice ⟨fun _ _ => none⟩
noncomputable def qb_469_1 : qz_F := Classical.choice ⟨fun _ => none⟩
noncomputable def qc_469_2 : qz_F := Classical.choice ⟨fun _ => none⟩
noncomputable def qf_469 : qz_Fn := Classical.choice ⟨fun _ _ => none⟩
noncomputable def qb_493_1 : qz_F := Classical.choice ⟨fun _ => none⟩
noncomputable def qc_493_2 : qz_F := Classical.choice ⟨fun _ => none⟩
noncomputable def qf_493 : qz_Fn := Classical.choice ⟨fun _ _ => none⟩
noncomputable def qb_467_1 : qz_F := Classical.choice ⟨fun _ => none⟩
noncomputable def qc_467_2 : qz_F := Classical.choice ⟨fun _ => none⟩
noncomputable def qf_467 : qz_Fn := Classical.choice ⟨fun _ _ => none⟩
noncomputable def qf_291 : qz_Fn := Classical.choice ⟨fun _ _ => none⟩
noncomputable def qf_380 : qz_Fn := Classical.choice ⟨fun _ _ => none⟩
noncomputable def qf_296 : qz_Fn := Classical.choice ⟨fun _ _ => none⟩
noncomputable def qf_303 : qz_Fn := Classical.choice ⟨fun _ _ => none⟩
noncomputable def qb_300_1 : qz_F := Classical.choice ⟨fun _ => none⟩
noncomputable def qb_300_2 : qz_F := Classical.choice ⟨fun _ => none⟩
noncomputable def qc_300_3 : qz_F := Classical.choice ⟨fun _ => none⟩
noncomputable def qb_300_4 : qz_F := Classical.choice ⟨fun _ => none⟩
noncomputable def qc_300_5 : qz_F := Classical.choice ⟨fun _ => none⟩
noncomputable def qc_300_6 : qz_F := Classical.choice ⟨fun _ => none⟩
noncomputable def qf_300 : qz_Fn := Classical.choice ⟨fun _ _ => none⟩
noncomputable def qb_302_1 : qz_F := Classical.choice ⟨fun _ => none⟩
noncomputable def qc_302_2 : qz_F := Classical.choice ⟨fun _ => none⟩
noncomputable def qb_302_3 : qz_F := Classical.choice ⟨fun _ => none⟩
noncomputable def qc_302_4 : qz_F := Classical.choice ⟨fun _ => none⟩
noncomputable def qf_302 : qz_Fn := Classical.choice ⟨fun _ _ => none⟩
noncomputable def qf_406 : qz_Fn := Classical.choice ⟨fun _ _ => none⟩
noncomputable def qf_403 : qz_Fn := Classical.choice ⟨fun _ _ => none⟩
noncomputable def qf_320 : qz_Fn := Classical.choice ⟨fun _ _ => none⟩
noncomputable def qf_404 : qz_Fn := Classical.choice ⟨fun _ _ => none⟩
noncomputable def qf_343 : qz_Fn := Classical.choice ⟨fun _ _ => none⟩
noncomputable def qf_419 : qz_Fn := Classical.choice ⟨fun _ _ => none⟩
noncomputable def qf_433 : qz_Fn := Classical.choice ⟨fun _ _ => none⟩
noncomputable def qb_312_1 : qz_F := Classical.choice ⟨fun _ => none⟩
noncomputable def qb_312_2 : qz_F := Classical.choice ⟨fun _ => none⟩
noncomputable def qc_312_3 : qz_F := Classical.choice ⟨fun _ => none⟩
noncomputable def qc_312_4 : qz_F := Classical.choice ⟨fun _ => none⟩
noncomputable def qf_312 : qz_Fn := Classical.choice ⟨fun _ _ => none⟩
noncomputable def qb_309_1 : qz_F := Classical.choice ⟨fun _ => none⟩
noncomputable def qc_309_2 : qz_F := Classical.choice ⟨fun _ => none⟩
noncomputable def qf_309 : qz_Fn := Classical.choice ⟨fun _ _ => none⟩
noncomputable def qb_313_1 : qz_F := Classical.choice ⟨fun _ => none⟩
noncomputable def qc_313_2 : qz_F := Classical.choice ⟨fun _ => none⟩
noncomputable def qf_313 : qz_Fn := Classical.choice ⟨fun _ _ => none⟩
noncomputable def qf_311 : qz_Fn := Classical.choice ⟨fun _ _ => none⟩
noncomputable def qb_304_1 : qz_F := Classical.choice ⟨fun _ => none⟩
noncomputable def qb_304_2 : qz_F := Classical.choice ⟨fun _ => none⟩
noncomputable def qb_304_3 : qz_F := Classical.choice ⟨fun _ => none⟩
noncomputable def qc_304_4 : qz_F := Classical.choice ⟨fun _ => none⟩
noncomputable def qc_304_5 : qz_F := Classical.choice ⟨fun _ => none⟩
noncomputable def qc_304_6 : qz_F := Classical.choice ⟨fun _ => none⟩
noncomputable def qf_304 : qz_Fn := Classical.choice ⟨fun _ _ => none⟩
noncomputable def qb_298_1 : qz_F := Classical.choice ⟨fun _ => none⟩
noncomputable def qc_298_2 : qz_F := Classical.choice ⟨fun _ => none⟩
noncomputable def qb_298_3 : qz_F := Classical.choice ⟨fun _ => none⟩
noncomputable def qb_298_4 : qz_F := Classical.choice ⟨fun _ => none⟩
noncomputable def qc_298_5 : qz_F := Classical.choice ⟨fun _ => none⟩
noncomputable def qc_298_6 : qz_F := Classical.choice ⟨fun _ => none⟩
noncomputable def qf_298 : qz_Fn := Classical.choice ⟨fun _ _ => none⟩
noncomputable def qf_292 : qz_Fn := Classical.choice ⟨fun _ _ => none⟩
noncomputable def qf_387 : qz_Fn := Classical.choice ⟨fun _ _ => none⟩
noncomputable def qb_299_1 : qz_F := Classical.choice ⟨fun _ => none⟩
noncomputable def qc_299_2 : qz_F := Classical.choice ⟨fun _ => none⟩
noncomputable def qf_299 : qz_Fn := Classical.choice ⟨fun _ _ => none⟩
noncomputable def qf_293 : qz_Fn := Classical.choice ⟨fun _ _ => none⟩
noncomputable def qf_388 : qz_Fn := Classical.choice ⟨fun _ _ => none⟩
noncomputable def qf_421 : qz_Fn := Classical.choice ⟨fun _ _ => none⟩
noncomputable def qf_401 : qz_Fn := Classical.choice ⟨fun _ _ => none⟩
noncomputable def qf_398 : qz_Fn := Classical.choice ⟨fun _ _ => none⟩
noncomputable def qf_416 : qz_Fn := Classical.choice ⟨fun _ _ => none⟩
noncomputable def qf_423 : qz_Fn := Classical.choice ⟨fun _ _ => none⟩
noncomputable def qf_411 : qz_Fn := Classical.choice ⟨fun _ _ => none⟩
noncomputable def qf_396 : qz_Fn := Classical.choice ⟨fun _ _ => none⟩
noncomputable def qb_418_1 : qz_F := Classical.choice ⟨fun _ => none⟩
noncomputable def qc_418_2 : qz_F := Classical.choice ⟨fun _ => none⟩
noncomputable def qf_418 : qz_Fn := Classical.choice ⟨fun _ _ => none⟩
noncomputable def qf_399 : qz_Fn := Classical.choice ⟨fun _ _ => none⟩
noncomputable def qf_294 : qz_Fn := Classical.choice ⟨fun _ _ => none⟩
noncomputable def qf_297 : qz_Fn := Classical.choice ⟨fun _ _ => none⟩
noncomputable def qf_352 : qz_Fn := Classical.choice ⟨fun _ _ => none⟩
noncomputable def qf_384 : qz_Fn := Classical.choice ⟨fun _ _ => none⟩
noncomputable def qb_301_1 : qz_F := Classical.choice ⟨fun _ => none⟩
noncomputable def qc_301_2 : qz_F := Classical.choice ⟨fun _ => none⟩
noncomputable def qb_301_3 : qz_F := Classical.choice ⟨fun _ => none⟩
noncomputable def qc_301_4 : qz_F := Classical.choice ⟨fun _ => none⟩
noncomputable def qf_301 : qz_Fn := Classical.choice ⟨fun _ _ => none⟩
noncomputable def qb_306_1 : qz_F := Classical.choice ⟨fun _ => none⟩
noncomputable def qc_306_2 : qz_F := Classical.choice ⟨fun _ => none⟩
noncomputable def qf_306 : qz_Fn := Classical.choice ⟨fun _ _ => none⟩
noncomputable def qb_305_1 : qz_F := Classical.choice ⟨fun _ => none⟩
noncomputable def qc_305_2 : qz_F := Classical.choice ⟨fun _ => none⟩
noncomputable def qf_305 : qz_Fn := Classical.choice ⟨fun _ _ => none⟩
noncomputable def qf_307 : qz_Fn := Classical.choice ⟨fun _ _ => none⟩
noncomputable def qf_459 : qz_Fn := Classical.choice ⟨fun _ _ => none⟩
noncomputable def qb_308_1 : qz_F := Classical.choice ⟨fun _ => none⟩
noncomputable def qb_308_2 : qz_F := Classical.choice ⟨fun _ => none⟩
noncomputable def qc_308_3 : qz_F := Classical.choice ⟨fun _ => none⟩
noncomputable def qc_308_4 : qz_F := Classical.choice ⟨fun _ => none⟩
noncomputable def qf_308 : qz_Fn := Classical.choice ⟨fun _ _ => none⟩
noncomputable def qb_436_1 : qz_F := Classical.choice ⟨fun _ => none⟩
noncomputable def qc_436_2 : qz_F := Classical.choice ⟨fun _ => none⟩
noncomputable def qf_436 : qz_Fn := Classical.choice ⟨fun _ _ => none⟩
noncomputable def qb_310_1 : qz_F := Classical.choice ⟨fun _ => none⟩
noncomputable def qc_310_2 : qz_F := Classical.choice ⟨fun _ => none⟩
noncomputable def qb_310_3 : qz_F := Classical.choice ⟨fun _ => none⟩
noncomputable def qc_310_4 : qz_F := Classical.choice ⟨fun _ => none⟩
noncomputable def qb_310_5 : qz_F := Classical.choice ⟨fun _ => none⟩
noncomputable def qb_310_6 : qz_F := Classical.choice ⟨fun _ => none⟩
noncomputable def qb_310_7 : qz_F := Classical.choice ⟨fun _ => none⟩
noncomputable def qc_310_8 : qz_F := Classical.choice ⟨fun _ => none⟩
noncomputable def qc_310_9 : qz_F := Classical.choice ⟨fun _ => none⟩
noncomputable def qc_310_10 : qz_F := Classical.choice ⟨fun _ => none⟩
noncomputable def qf_310 : qz_Fn := Classical.choice ⟨fun _ _ => none⟩
noncomputable def qf_314 : qz_Fn := Classical.choice ⟨fun _ _ => none⟩
noncomputable def qf_385 : qz_Fn := Classical.choice ⟨fun _ _ => none⟩
noncomputable def qf_315 : qz_Fn := Classical.choice ⟨fun _ _ => none⟩
noncomputable def qf_316 : qz_Fn := Classical.choice ⟨fun _ _ => none⟩
noncomputable def qb_329_1 : qz_F := Classical.choice ⟨fun _ => none⟩
noncomputable def qc_329_2 : qz_F := Classical.choice ⟨fun _ => none⟩
noncomputable def qf_329 : qz_Fn := Classical.choice ⟨fun _ _ => none⟩
noncomputable def qf_317 : qz_Fn := Classical.choice ⟨fun _ _ => none⟩
noncomputable def qb_319_1 : qz_F := Classical.choice ⟨fun _ => none⟩
noncomputable def qc_319_2 : qz_F := Classical.choice ⟨fun _ => none⟩
noncomputable def qf_319 : qz_Fn := Classical.choice ⟨fun _ _ => none⟩
noncomputable def qb_321_1 : qz_F := Classical.choice ⟨fun _ => none⟩
noncomputable def qc_321_2 : qz_F := Classical.choice ⟨fun _ => none⟩
noncomputable def qf_321 : qz_Fn := Classical.choice ⟨fun _ _ => none⟩
noncomputable def qb_322_1 : qz_F := Classical.choice ⟨fun _ => none⟩
noncomputable def qc_322_2 : qz_F := Classical.choice ⟨fun _ => none⟩
noncomputable def qf_322 : qz_Fn := Classical.choice ⟨fun _ _ => none⟩
noncomputable def qf_323 : qz_Fn := Classical.choice ⟨fun _ _ => none⟩
noncomputable def qb_324_1 : qz_F := Classical.choice ⟨fun _ => none⟩
noncomputable def qc_324_2 : qz_F := Classical.choice ⟨fun _ => none⟩
noncomputable def qf_324 : qz_Fn := Classical.choice ⟨fun _ _ => none⟩
noncomputable def qf_325 : qz_Fn := Classical.choice ⟨fun _ _ => none⟩
noncomputable def qf_326 : qz_Fn := Classical.choice ⟨fun _ _ => none⟩
noncomputable def qb_327_1 : qz_F := Classical.choice ⟨fun _ => none⟩
noncomputable def qc_327_2 : qz_F := Classical.choice ⟨fun _ => none⟩
noncomputable def qf_327 : qz_Fn := Classical.choice ⟨fun _ _ => none⟩
noncomputable def qf_330 : qz_Fn := Classical.choice ⟨fun _ _ => none⟩
noncomputable def qb_328_1 : qz_F := Classical.choice ⟨fun _ => none⟩
noncomputable def qb_328_2 : qz_F := Classical.choice ⟨fun _ => none⟩
noncomputable def qb_328_3 : qz_F := Classical.choice ⟨fun _ => none⟩
noncomputable def qc_328_4 : qz_F := Classical.choice ⟨fun _ => none⟩
noncomputable def qc_328_5 : qz_F := Classical.choice ⟨fun _ => none⟩
noncomputable def qc_328_6 : qz_F := Classical.choice ⟨fun _ => none⟩
noncomputable def qf_328 : qz_Fn := Classical.choice ⟨fun _ _ => none⟩
noncomputable def qb_331_1 : qz_F := Classical.choice ⟨fun _ => none⟩
noncomputable def qb_331_2 : qz_F := Classical.choice ⟨fun _ => none⟩
noncomputable def qc_331_3 : qz_F := Classical.choice ⟨fun _ => none⟩
noncomputable def qc_331_4 : qz_F := Classical.choice ⟨fun _ => none⟩
noncomputable def qf_331 : qz_Fn := Classical.choice ⟨fun _ _ => none⟩
noncomputable def qb_332_1 : qz_F := Classical.choice ⟨fun _ => none⟩
noncomputable def qc_332_2 : qz_F := Classical.choice ⟨fun _ => none⟩
noncomputable def qf_332 : qz_Fn := Classical.choice ⟨fun _ _ => none⟩
noncomputable def qb_333_1 : qz_F := Classical.choice ⟨fun _ => none⟩
noncomputable def qc_333_2 : qz_F := Classical.choice ⟨fun _ => none⟩
noncomputable def qf_333 : qz_Fn := Classical.choice ⟨fun _ _ => none⟩
noncomputable def qf_381 : qz_Fn := Classical.choice ⟨fun _ _ => none⟩
noncomputable def qf_391 : qz_Fn := Classical.choice ⟨fun _ _ => none⟩
noncomputable def qf_335 : qz_Fn := Classical.choice ⟨fun _ _ => none⟩
noncomputable def qf_386 : qz_Fn := Classical.choice ⟨fun _ _ => none⟩
noncomputable def qf_382 : qz_Fn := Classical.choice ⟨fun _ _ => none⟩
noncomputable def qb_518_1 : qz_F := Classical.choice ⟨fun _ => none⟩
noncomputable def qc_518_2 : qz_F := Classical.choice ⟨fun _ => none⟩
noncomputable def qf_518 : qz_Fn := Classical.choice ⟨fun _ _ => none⟩
noncomputable def qf_378 : qz_Fn := Classical.choice ⟨fun _ _ => none⟩
noncomputable def qb_508_1 : qz_F := Classical.choice ⟨fun _ => none⟩
noncomputable def qc_508_2 : qz_F := Classical.choice ⟨fun _ => none⟩
noncomputable def qf_508 : qz_Fn := Classical.choice ⟨fun _ _ => none⟩
noncomputable def qf_336 : qz_Fn := Classical.choice ⟨fun _ _ => none⟩
noncomputable def qf_478 : qz_Fn := Classical.choice ⟨fun _ _ => none⟩
noncomputable def qf_395 : qz_Fn := Classical.choice ⟨fun _ _ => none⟩
noncomputable def qb_435_1 : qz_F := Classical.choice ⟨fun _ => none⟩
noncomputable def qc_435_2 : qz_F := Classical.choice ⟨fun _ => none⟩
noncomputable def qf_435 : qz_Fn := Classical.choice ⟨fun _ _ => none⟩
noncomputable def qf_429 : qz_Fn := Classical.choice ⟨fun _ _ => none⟩
noncomputable def qf_409 : qz_Fn := Classical.choice ⟨fun _ _ => none⟩
noncomputable def qf_432 : qz_Fn := Classical.choice ⟨fun _ _ => none⟩
noncomputable def qb_431_1 : qz_F := Classical.choice ⟨fun _ => none⟩
noncomputable def qc_431_2 : qz_F := Classical.choice ⟨fun _ => none⟩
noncomputable def qf_431 : qz_Fn := Classical.choice ⟨fun _ _ => none⟩
noncomputable def qf_338 : qz_Fn := Classical.choice ⟨fun _ _ => none⟩
noncomputable def qf_339 : qz_Fn := Classical.choice ⟨fun _ _ => none⟩
noncomputable def qf_526 : qz_Fn := Classical.choice ⟨fun _ _ => none⟩
noncomputable def qb_517_1 : qz_F := Classical.choice ⟨fun _ => none⟩
noncomputable def qc_517_2 : qz_F := Classical.choice ⟨fun _ => none⟩
noncomputable def qf_517 : qz_Fn := Classical.choice ⟨fun _ _ => none⟩
noncomputable def qf_531 : qz_Fn := Classical.choice ⟨fun _ _ => none⟩
noncomputable def qb_510_1 : qz_F := Classical.choice ⟨fun _ => none⟩
noncomputable def qc_510_2 : qz_F := Classical.choice ⟨fun _ => none⟩
noncomputable def qb_510_3 : qz_F := Classical.choice ⟨fun _ => none⟩
noncomputable def qc_510_4 : qz_F := Classical.choice ⟨fun _ => none⟩
noncomputable def qf_510 : qz_Fn := Classical.choice ⟨fun _ _ => none⟩
noncomputable def qf_341 : qz_Fn := Classical.choice ⟨fun _ _ => none⟩
noncomputable def qf_342 : qz_Fn := Classical.choice ⟨fun _ _ => none⟩
noncomputable def qf_389 : qz_Fn := Classical.choice ⟨fun _ _ => none⟩
noncomputable def qf_344 : qz_Fn := Classical.choice ⟨fun _ _ => none⟩
noncomputable def qf_498 : qz_Fn := Classical.choice ⟨fun _ _ => none⟩
noncomputable def qf_417 : qz_Fn := Classical.choice ⟨fun _ _ => none⟩
noncomputable def qf_345 : qz_Fn := Classical.choice ⟨fun _ _ => none⟩
noncomputable def qf_347 : qz_Fn := Classical.choice ⟨fun _ _ => none⟩
noncomputable def qf_348 : qz_Fn := Classical.choice ⟨fun _ _ => none⟩
noncomputable def qf_349 : qz_Fn := Classical.choice ⟨fun _ _ => none⟩
noncomputable def qf_394 : qz_Fn := Classical.choice ⟨fun _ _ => none⟩
noncomputable def qb_527_1 : qz_F := Classical.choice ⟨fun _ => none⟩
noncomputable def qc_527_2 : qz_F := Classical.choice ⟨fun _ => none⟩
noncomputable def qf_527 : qz_Fn := Classical.choice ⟨fun _ _ => none⟩
noncomputable def qf_542 : qz_Fn := Classical.choice ⟨fun _ _ => none⟩
noncomputable def qb_514_1 : qz_F := Classical.choice ⟨fun _ => none⟩
noncomputable def qc_514_2 : qz_F := Classical.choice ⟨fun _ => none⟩
noncomputable def qf_514 : qz_Fn := Classical.choice ⟨fun _ _ => none⟩
noncomputable def qb_522_1 : qz_F := Classical.choice ⟨fun _ => none⟩
noncomputable def qb_522_2 : qz_F := Classical.choice ⟨fun _ => none⟩
noncomputable def qb_522_3 : qz_F := Classical.choice ⟨fun _ => none⟩
noncomputable def qc_522_4 : qz_F := Classical.choice ⟨fun _ => none⟩
noncomputable def qc_522_5 : qz_F := Classical.choice ⟨fun _ => none⟩
noncomputable def qc_522_6 : qz_F := Classical.choice ⟨fun _ => none⟩
noncomputable def qf_522 : qz_Fn := Classical.choice ⟨fun _ _ => none⟩
noncomputable def qb_511_1 : qz_F := Classical.choice ⟨fun _ => none⟩
noncomputable def qb_511_2 : qz_F := Classical.choice ⟨fun _ => none⟩
noncomputable def qc_511_3 : qz_F := Classical.choice ⟨fun _ => none⟩
noncomputable def qb_511_4 : qz_F := Classical.choice ⟨fun _ => none⟩
noncomputable def qc_511_5 : qz_F := Classical.choice ⟨fun _ => none⟩
noncomputable def qc_511_6 : qz_F := Classical.choice ⟨fun _ => none⟩
noncomputable def qf_511 : qz_Fn := Classical.choice ⟨fun _ _ => none⟩
noncomputable def qf_520 : qz_Fn := Classical.choice ⟨fun _ _ => none⟩
noncomputable def qb_521_1 : qz_F := Classical.choice ⟨fun _ => none⟩
noncomputable def qc_521_2 : qz_F := Classical.choice ⟨fun _ => none⟩
noncomputable def qf_521 : qz_Fn := Classical.choice ⟨fun _ _ => none⟩
noncomputable def qf_350 : qz_Fn := Classical.choice ⟨fun _ _ => none⟩
noncomputable def qf_353 : qz_Fn := Classical.choice ⟨fun _ _ => none⟩
noncomputable def qb_374_1 : qz_F := Classical.choice ⟨fun _ => none⟩
noncomputable def qc_374_2 : qz_F := Classical.choice ⟨fun _ => none⟩
noncomputable def qf_374 : qz_Fn := Classical.choice ⟨fun _ _ => none⟩
noncomputable def qb_373_1 : qz_F := Classical.choice ⟨fun _ => none⟩
noncomputable def qc_373_2 : qz_F := Classical.choice ⟨fun _ => none⟩
noncomputable def qf_373 : qz_Fn := Classical.choice ⟨fun _ _ => none⟩
noncomputable def qf_355 : qz_Fn := Classical.choice ⟨fun _ _ => none⟩
noncomputable def qf_368 : qz_Fn := Classical.choice ⟨fun _ _ => none⟩
noncomputable def qf_364 : qz_Fn := Classical.choice ⟨fun _ _ => none⟩
noncomputable def qb_363_1 : qz_F := Classical.choice ⟨fun _ => none⟩
noncomputable def qc_363_2 : qz_F := Classical.choice ⟨fun _ => none⟩
noncomputable def qc_363_3 : qz_F := Classical.choice ⟨fun _ => none⟩
noncomputable def qf_363 : qz_Fn := Classical.choice ⟨fun _ _ => none⟩
noncomputable def qf_405 : qz_Fn := Classical.choice ⟨fun _ _ => none⟩
noncomputable def qf_357 : qz_Fn := Classical.choice ⟨fun _ _ => none⟩
noncomputable def qb_365_1 : qz_F := Classical.choice ⟨fun _ => none⟩
noncomputable def qc_365_2 : qz_F := Classical.choice ⟨fun _ => none⟩
noncomputable def qf_365 : qz_Fn := Classical.choice ⟨fun _ _ => none⟩
noncomputable def qb_369_1 : qz_F := Classical.choice ⟨fun _ => none⟩
noncomputable def qb_369_2 : qz_F := Classical.choice ⟨fun _ => none⟩
noncomputable def qc_369_3 : qz_F := Classical.choice ⟨fun _ => none⟩
noncomputable def qc_369_4 : qz_F := Classical.choice ⟨fun _ => none⟩
noncomputable def qf_369 : qz_Fn := Classical.choice ⟨fun _ _ => none⟩
noncomputable def qb_356_1 : qz_F := Classical.choice ⟨fun _ => none⟩
noncomputable def qb_356_2 : qz_F := Classical.choice ⟨fun _ => none⟩
noncomputable def qc_356_3 : qz_F := Classical.choice ⟨fun _ => none⟩
noncomputable def qc_356_4 : qz_F := Classical.choice ⟨fun _ => none⟩
noncomputable def qf_356 : qz_Fn := Classical.choice ⟨fun _ _ => none⟩
noncomputable def qb_358_1 : qz_F := Classical.choice ⟨fun _ => none⟩
noncomputable def qc_358_2 : qz_F := Classical.choice ⟨fun _ => none⟩
noncomputable def qf_358 : qz_Fn := Classical.choice ⟨fun _ _ => none⟩
noncomputable def qb_359_1 : qz_F := Classical.choice ⟨fun _ => none⟩
noncomputable def qc_359_2 : qz_F := Classical.choice ⟨fun _ => none⟩
noncomputable def qf_359 : qz_Fn := Classical.choice ⟨fun _ _ => none⟩
noncomputable def qf_360 : qz_Fn := Classical.choice ⟨fun _ _ => none⟩
noncomputable def qb_361_1 : qz_F := Classical.choice ⟨fun _ => none⟩
noncomputable def qc_361_2 : qz_F := Classical.choice ⟨fun _ => none⟩
noncomputable def qf_361 : qz_Fn := Classical.choice ⟨fun _ _ => none⟩
noncomputable def qf_362 : qz_Fn := Classical.choice ⟨fun _ _ => none⟩
noncomputable def qb_367_1 : qz_F := Classical.choice ⟨fun _ => none⟩
noncomputable def qc_367_2 : qz_F := Classical.choice ⟨fun _ => none⟩
noncomputable def qf_367 : qz_Fn := Classical.choice ⟨fun _ _ => none⟩
noncomputable def qf_366 : qz_Fn := Classical.choice ⟨fun _ _ => none⟩
noncomputable def qb_370_1 : qz_F := Classical.choice ⟨fun _ => none⟩
noncomputable def qc_370_2 : qz_F := Classical.choice ⟨fun _ => none⟩
noncomputable def qb_370_3 : qz_F := Classical.choice ⟨fun _ => none⟩
noncomputable def qc_370_4 : qz_F := Classical.choice ⟨fun _ => none⟩
noncomputable def qf_370 : qz_Fn := Classical.choice ⟨fun _ _ => none⟩
noncomputable def qb_371_1 : qz_F := Classical.choice ⟨fun _ => none⟩
noncomputable def qc_371_2 : qz_F := Classical.choice ⟨fun _ => none⟩
noncomputable def qf_371 : qz_Fn := Classical.choice ⟨fun _ _ => none⟩
noncomputable def qb_372_1 : qz_F := Classical.choice ⟨fun _ => none⟩
noncomputable def qb_372_2 : qz_F := Classical.choice ⟨fun _ => none⟩
noncomputable def qb_372_3 : qz_F := Classical.choice ⟨fun _ => none⟩
noncomputable def qc_372_4 : qz_F := Classical.choice ⟨fun _ => none⟩
noncomputable def qc_372_5 : qz_F := Classical.choice ⟨fun _ => none⟩
noncomputable def qc_372_6 : qz_F := Classical.choice ⟨fun _ => none⟩
noncomputable def qf_372 : qz_Fn := Classical.choice ⟨fun _ _ => none⟩
noncomputable def qf_376 : qz_Fn := Classical.choice ⟨fun _ _ => none⟩
noncomputable def qf_377 : qz_Fn := Classical.choice ⟨fun _ _ => none⟩
noncomputable def qf_383 : qz_Fn := Classical.choice ⟨fun _ _ => none⟩
noncomputable def qf_474 : qz_Fn := Classical.choice ⟨fun _ _ => none⟩
noncomputable def qf_473 : qz_Fn := Classical.choice ⟨fun _ _ => none⟩
noncomputable def qb_487_1 : qz_F := Classical.choice ⟨fun _ => none⟩
noncomputable def qb_487_2 : qz_F := Classical.choice ⟨fun _ => none⟩
noncomputable def qb_487_3 : qz_F := Classical.choice ⟨fun _ => none⟩
noncomputable def qc_487_4 : qz_F := Classical.choice ⟨fun _ => none⟩
noncomputable def qc_487_5 : qz_F := Classical.choice ⟨fun _ => none⟩
noncomputable def qc_487_6 : qz_F := Classical.choice ⟨fun _ => none⟩
noncomputable def qf_487 : qz_Fn := Classical.choice ⟨fun _ _ => none⟩
noncomputable def qb_525_1 : qz_F := Classical.choice ⟨fun _ => none⟩
noncomputable def qc_525_2 : qz_F := Classical.choice ⟨fun _ => none⟩
noncomputable def qf_525 : qz_Fn := Classical.choice ⟨fun _ _ => none⟩
noncomputable def qb_519_1 : qz_F := Classical.choice ⟨fun _ => none⟩
noncomputable def qc_519_2 : qz_F := Classical.choice ⟨fun _ => none⟩
noncomputable def qb_519_3 : qz_F := Classical.choice ⟨fun _ => none⟩
noncomputable def qb_519_4 : qz_F := Classical.choice ⟨fun _ => none⟩
noncomputable def qc_519_5 : qz_F := Classical.choice ⟨fun _ => none⟩
noncomputable def qc_519_6 : qz_F := Classical.choice ⟨fun _ => none⟩
noncomputable def qf_519 : qz_Fn := Classical.choice ⟨fun _ _ => none⟩
noncomputable def qb_516_1 : qz_F := Classical.choice ⟨fun _ => none⟩
noncomputable def qc_516_2 : qz_F := Classical.choice ⟨fun _ => none⟩
noncomputable def qf_516 : qz_Fn := Classical.choice ⟨fun _ _ => none⟩
noncomputable def qb_528_1 : qz_F := Classical.choice ⟨fun _ => none⟩
noncomputable def qc_528_2 : qz_F := Classical.choice ⟨fun _ => none⟩
noncomputable def qf_528 : qz_Fn := Classical.choice ⟨fun _ _ => none⟩
noncomputable def qb_524_1 : qz_F := Classical.choice ⟨fun _ => none⟩
noncomputable def qb_524_2 : qz_F := Classical.choice ⟨fun _ => none⟩
noncomputable def qc_524_3 : qz_F := Classical.choice ⟨fun _ => none⟩
noncomputable def qc_524_4 : qz_F := Classical.choice ⟨fun _ => none⟩
noncomputable def qf_524 : qz_Fn := Classical.choice ⟨fun _ _ => none⟩
noncomputable def qf_397 : qz_Fn := Classical.choice ⟨fun _ _ => none⟩
noncomputable def qb_415_1 : qz_F := Classical.choice ⟨fun _ => none⟩
noncomputable def qc_415_2 : qz_F := Classical.choice ⟨fun _ => none⟩
noncomputable def qf_415 : qz_Fn := Classical.choice ⟨fun _ _ => none⟩
noncomputable def qb_420_1 : qz_F := Classical.choice ⟨fun _ => none⟩
noncomputable def qb_420_2 : qz_F := Classical.choice ⟨fun _ => none⟩
noncomputable def qb_420_3 : qz_F := Classical.choice ⟨fun _ => none⟩
noncomputable def qc_420_4 : qz_F := Classical.choice ⟨fun _ => none⟩
noncomputable def qc_420_5 : qz_F := Classical.choice ⟨fun _ => none⟩
noncomputable def qc_420_6 : qz_F := Classical.choice ⟨fun _ => none⟩
noncomputable def qf_420 : qz_Fn := Classical.choice ⟨fun _ _ => none⟩
noncomputable def qf_503 : qz_Fn := Classical.choice ⟨fun _ _ => none⟩
noncomputable def qb_485_1 : qz_F := Classical.choice ⟨fun _ => none⟩
noncomputable def qc_485_2 : qz_F := Classical.choice ⟨fun _ => none⟩
noncomputable def qf_485 : qz_Fn := Classical.choice ⟨fun _ _ => none⟩
noncomputable def qf_495 : qz_Fn := Classical.choice ⟨fun _ _ => none⟩
noncomputable def qf_500 : qz_Fn := Classical.choice ⟨fun _ _ => none⟩
noncomputable def qf_443 : qz_Fn := Classical.choice ⟨fun _ _ => none⟩
noncomputable def qf_477 : qz_Fn := Classical.choice ⟨fun _ _ => none⟩
noncomputable def qf_453 : qz_Fn := Classical.choice ⟨fun _ _ => none⟩
noncomputable def qf_412 : qz_Fn := Classical.choice ⟨fun _ _ => none⟩
noncomputable def qf_451 : qz_Fn := Classical.choice ⟨fun _ _ => none⟩
noncomputable def qf_548 : qz_Fn := Classical.choice ⟨fun _ _ => none⟩
noncomputable def qf_546 : qz_Fn := Classical.choice ⟨fun _ _ => none⟩
noncomputable def qf_543 : qz_Fn := Classical.choice ⟨fun _ _ => none⟩
noncomputable def qf_539 : qz_Fn := Classical.choice ⟨fun _ _ => none⟩
noncomputable def qf_437 : qz_Fn := Classical.choice ⟨fun _ _ => none⟩
noncomputable def qf_426 : qz_Fn := Classical.choice ⟨fun _ _ => none⟩
noncomputable def qf_499 : qz_Fn := Classical.choice ⟨fun _ _ => none⟩
noncomputable def qf_496 : qz_Fn := Classical.choice ⟨fun _ _ => none⟩
noncomputable def qf_534 : qz_Fn := Classical.choice ⟨fun _ _ => none⟩
noncomputable def qb_410_1 : qz_F := Classical.choice ⟨fun _ => none⟩
noncomputable def qc_410_2 : qz_F := Classical.choice ⟨fun _ => none⟩
noncomputable def qf_410 : qz_Fn := Classical.choice ⟨fun _ _ => none⟩
noncomputable def qf_457 : qz_Fn := Classical.choice ⟨fun _ _ => none⟩
noncomputable def qf_430 : qz_Fn := Classical.choice ⟨fun _ _ => none⟩
noncomputable def qb_515_1 : qz_F := Classical.choice ⟨fun _ => none⟩
noncomputable def qc_515_2 : qz_F := Classical.choice ⟨fun _ => none⟩
noncomputable def qf_515 : qz_Fn := Classical.choice ⟨fun _ _ => none⟩
noncomputable def qf_407 : qz_Fn := Classical.choice ⟨fun _ _ => none⟩
noncomputable def qb_506_1 : qz_F := Classical.choice ⟨fun _ => none⟩
noncomputable def qc_506_2 : qz_F := Classical.choice ⟨fun _ => none⟩
noncomputable def qf_506 : qz_Fn := Classical.choice ⟨fun _ _ => none⟩
noncomputable def qb_505_1 : qz_F := Classical.choice ⟨fun _ => none⟩
noncomputable def qc_505_2 : qz_F := Classical.choice ⟨fun _ => none⟩
noncomputable def qf_505 : qz_Fn := Classical.choice ⟨fun _ _ => none⟩
noncomputable def qb_513_1 : qz_F := Classical.choice ⟨fun _ => none⟩
noncomputable def qc_513_2 : qz_F := Classical.choice ⟨fun _ => none⟩
noncomputable def qf_513 : qz_Fn := Classical.choice ⟨fun _ _ => none⟩
noncomputable def qb_512_1 : qz_F := Classical.choice ⟨fun _ => none⟩
noncomputable def qc_512_2 : qz_F := Classical.choice ⟨fun _ => none⟩
noncomputable def qf_512 : qz_Fn := Classical.choice ⟨fun _ _ => none⟩
noncomputable def qb_492_1 : qz_F := Classical.choice ⟨fun _ => none⟩
noncomputable def qc_492_2 : qz_F := Classical.choice ⟨fun _ => none⟩
noncomputable def qf_492 : qz_Fn := Classical.choice ⟨fun _ _ => none⟩
noncomputable def qb_463_1 : qz_F := Classical.choice ⟨fun _ => none⟩
noncomputable def qc_463_2 : qz_F := Classical.choice ⟨fun _ => none⟩
noncomputable def qf_463 : qz_Fn := Classical.choice ⟨fun _ _ => none⟩
noncomputable def qb_408_1 : qz_F := Classical.choice ⟨fun _ => none⟩
noncomputable def qc_408_2 : qz_F := Classical.choice ⟨fun _ => none⟩
noncomputable def qf_408 : qz_Fn := Classical.choice ⟨fun _ _ => none⟩
noncomputable def qb_413_1 : qz_F := Classical.choice ⟨fun _ => none⟩
noncomputable def qc_413_2 : qz_F := Classical.choice ⟨fun _ => none⟩
noncomputable def qf_413 : qz_Fn := Classical.choice ⟨fun _ _ => none⟩
noncomputable def qf_422 : qz_Fn := Classical.choice ⟨fun _ _ => none⟩
noncomputable def qb_402_1 : qz_F := Classical.choice ⟨fun _ => none⟩
noncomputable def qc_402_2 : qz_F := Classical.choice ⟨fun _ => none⟩
noncomputable def qf_402 : qz_Fn := Classical.choice ⟨fun _ _ => none⟩
noncomputable def qf_553 : qz_Fn := Classical.choice ⟨fun _ _ => none⟩
noncomputable def qb_450_1 : qz_F := Classical.choice ⟨fun _ => none⟩
noncomputable def qc_450_2 : qz_F := Classical.choice ⟨fun _ => none⟩
noncomputable def qf_450 : qz_Fn := Classical.choice ⟨fun _ _ => none⟩
noncomputable def qb_486_1 : qz_F := Classical.choice ⟨fun _ => none⟩
noncomputable def qb_486_2 : qz_F := Classical.choice ⟨fun _ => none⟩
noncomputable def qb_486_3 : qz_F := Classical.choice ⟨fun _ => none⟩
noncomputable def qc_486_4 : qz_F := Classical.choice ⟨fun _ => none⟩
noncomputable def qc_486_5 : qz_F := Classical.choice ⟨fun _ => none⟩
noncomputable def qc_486_6 : qz_F := Classical.choice ⟨fun _ => none⟩
noncomputable def qf_486 : qz_Fn := Classical.choice ⟨fun _ _ => none⟩
noncomputable def qb_523_1 : qz_F := Classical.choice ⟨fun _ => none⟩
noncomputable def qc_523_2 : qz_F := Classical.choice ⟨fun _ => none⟩
noncomputable def qb_523_3 : qz_F := Classical.choice ⟨fun _ => none⟩
noncomputable def qb_523_4 : qz_F := Classical.choice ⟨fun _ => none⟩
noncomputable def qc_523_5 : qz_F := Classical.choice ⟨fun _ => none⟩
noncomputable def qc_523_6 : qz_F := Classical.choice ⟨fun _ => none⟩
noncomputable def qf_523 : qz_Fn := Classical.choice ⟨fun _ _ => none⟩
noncomputable def qf_566 : qz_Fn := Classical.choice ⟨fun _ _ => none⟩
noncomputable def qf_560 : qz_Fn := Classical.choice ⟨fun _ _ => none⟩
noncomputable def qf_558 : qz_Fn := Classical.choice ⟨fun _ _ => none⟩
noncomputable def qf_555 : qz_Fn := Classical.choice ⟨fun _ _ => none⟩
noncomputable def qb_559_1 : qz_F := Classical.choice ⟨fun _ => none⟩
noncomputable def qc_559_2 : qz_F := Classical.choice ⟨fun _ => none⟩
noncomputable def qf_559 : qz_Fn := Classical.choice ⟨fun _ _ => none⟩
noncomputable def qb_568_1 : qz_F := Classical.choice ⟨fun _ => none⟩
noncomputable def qc_568_2 : qz_F := Classical.choice ⟨fun _ => none⟩
noncomputable def qf_568 : qz_Fn := Classical.choice ⟨fun _ _ => none⟩
noncomputable def qf_551 : qz_Fn := Classical.choice ⟨fun _ _ => none⟩
noncomputable def qb_550_1 : qz_F := Classical.choice ⟨fun _ => none⟩
noncomputable def qc_550_2 : qz_F := Classical.choice ⟨fun _ => none⟩
noncomputable def qf_550 : qz_Fn := Classical.choice ⟨fun _ _ => none⟩
noncomputable def qf_549 : qz_Fn := Classical.choice ⟨fun _ _ => none⟩
noncomputable def qb_554_1 : qz_F := Classical.choice ⟨fun _ => none⟩
noncomputable def qb_554_2 : qz_F := Classical.choice ⟨fun _ => none⟩
noncomputable def qc_554_3 : qz_F := Classical.choice ⟨fun _ => none⟩
noncomputable def qc_554_4 : qz_F := Classical.choice ⟨fun _ => none⟩
noncomputable def qf_554 : qz_Fn := Classical.choice ⟨fun _ _ => none⟩
noncomputable def qb_567_1 : qz_F := Classical.choice ⟨fun _ => none⟩
noncomputable def qb_567_2 : qz_F := Classical.choice ⟨fun _ => none⟩
noncomputable def qc_567_3 : qz_F := Classical.choice ⟨fun _ => none⟩
noncomputable def qc_567_4 : qz_F := Classical.choice ⟨fun _ => none⟩
noncomputable def qf_567 : qz_Fn := Classical.choice ⟨fun _ _ => none⟩
noncomputable def qf_556 : qz_Fn := Classical.choice ⟨fun _ _ => none⟩
noncomputable def qb_392_1 : qz_F := Classical.choice ⟨fun _ => none⟩
noncomputable def qc_392_2 : qz_F := Classical.choice ⟨fun _ => none⟩
noncomputable def qf_392 : qz_Fn := Classical.choice ⟨fun _ _ => none⟩
noncomputable def qf_414 : qz_Fn := Classical.choice ⟨fun _ _ => none⟩
noncomputable def qb_424_1 : qz_F := Classical.choice ⟨fun _ => none⟩
noncomputable def qc_424_2 : qz_F := Classical.choice ⟨fun _ => none⟩
noncomputable def qf_424 : qz_Fn := Classical.choice ⟨fun _ _ => none⟩
noncomputable def qf_475 : qz_Fn := Classical.choice ⟨fun _ _ => none⟩
noncomputable def qf_425 : qz_Fn := Classical.choice ⟨fun _ _ => none⟩
noncomputable def qf_427 : qz_Fn := Classical.choice ⟨fun _ _ => none⟩
noncomputable def qf_428 : qz_Fn := Classical.choice ⟨fun _ _ => none⟩
noncomputable def qf_440 : qz_Fn := Classical.choice ⟨fun _ _ => none⟩
noncomputable def qf_442 : qz_Fn := Classical.choice ⟨fun _ _ => none⟩
noncomputable def qf_444 : qz_Fn := Classical.choice ⟨fun _ _ => none⟩
noncomputable def qf_445 : qz_Fn := Classical.choice ⟨fun _ _ => none⟩
noncomputable def qf_480 : qz_Fn := Classical.choice ⟨fun _ _ => none⟩
noncomputable def qf_448 : qz_Fn := Classical.choice ⟨fun _ _ => none⟩
noncomputable def qf_456 : qz_Fn := Classical.choice ⟨fun _ _ => none⟩
noncomputable def qf_455 : qz_Fn := Classical.choice ⟨fun _ _ => none⟩
noncomputable def qf_449 : qz_Fn := Classical.choice ⟨fun _ _ => none⟩
noncomputable def qb_452_1 : qz_F := Classical.choice ⟨fun _ => none⟩
noncomputable def qc_452_2 : qz_F := Classical.choice ⟨fun _ => none⟩
noncomputable def qb_452_3 : qz_F := Classical.choice ⟨fun _ => none⟩
noncomputable def qc_452_4 : qz_F := Classical.choice ⟨fun _ => none⟩
noncomputable def qf_452 : qz_Fn := Classical.choice ⟨fun _ _ => none⟩
noncomputable def qf_458 : qz_Fn := Classical.choice ⟨fun _ _ => none⟩
noncomputable def qf_483 : qz_Fn := Classical.choice ⟨fun _ _ => none⟩
noncomputable def qf_494 : qz_Fn := Classical.choice ⟨fun _ _ => none⟩
noncomputable def qf_497 : qz_Fn := Classical.choice ⟨fun _ _ => none⟩
noncomputable def qf_501 : qz_Fn := Classical.choice ⟨fun _ _ => none⟩
noncomputable def qf_502 : qz_Fn := Classical.choice ⟨fun _ _ => none⟩
noncomputable def qb_561_1 : qz_F := Classical.choice ⟨fun _ => none⟩
noncomputable def qc_561_2 : qz_F := Classical.choice ⟨fun _ => none⟩
noncomputable def qf_561 : qz_Fn := Classical.choice ⟨fun _ _ => none⟩
noncomputable def qb_562_1 : qz_F := Classical.choice ⟨fun _ => none⟩
noncomputable def qc_562_2 : qz_F := Classical.choice ⟨fun _ => none⟩
noncomputable def qf_562 : qz_Fn := Classical.choice ⟨fun _ _ => none⟩
noncomputable def qf_529 : qz_Fn := Classical.choice ⟨fun _ _ => none⟩
noncomputable def qf_504 : qz_Fn := Classical.choice ⟨fun _ _ => none⟩
noncomputable def qf_532 : qz_Fn := Classical.choice ⟨fun _ _ => none⟩
noncomputable def qf_533 : qz_Fn := Classical.choice ⟨fun _ _ => none⟩
noncomputable def qf_545 : qz_Fn := Classical.choice ⟨fun _ _ => none⟩
noncomputable def qb_552_1 : qz_F := Classical.choice ⟨fun _ => none⟩
noncomputable def qc_552_2 : qz_F := Classical.choice ⟨fun _ => none⟩
noncomputable def qc_552_3 : qz_F := Classical.choice ⟨fun _ => none⟩
noncomputable def qf_552 : qz_Fn := Classical.choice ⟨fun _ _ => none⟩
noncomputable def qb_564_1 : qz_F := Classical.choice ⟨fun _ => none⟩
noncomputable def qc_564_2 : qz_F := Classical.choice ⟨fun _ => none⟩
noncomputable def qf_564 : qz_Fn := Classical.choice ⟨fun _ _ => none⟩
noncomputable def qf_535 : qz_Fn := Classical.choice ⟨fun _ _ => none⟩
noncomputable def qf_536 : qz_Fn := Classical.choice ⟨fun _ _ => none⟩
noncomputable def qf_538 : qz_Fn := Classical.choice ⟨fun _ _ => none⟩
noncomputable def qb_541_1 : qz_F := Classical.choice ⟨fun _ => none⟩
noncomputable def qc_541_2 : qz_F := Classical.choice ⟨fun _ => none⟩
noncomputable def qf_541 : qz_Fn := Classical.choice ⟨fun _ _ => none⟩
noncomputable def qf_547 : qz_Fn := Classical.choice ⟨fun _ _ => none⟩
noncomputable def qf_569 : qz_Fn := Classical.choice ⟨fun _ _ => none⟩
noncomputable def qf_570 : qz_Fn := Classical.choice ⟨fun _ _ => none⟩
noncomputable def qf_571 : qz_Fn := Classical.choice ⟨fun _ _ => none⟩
noncomputable def qf_572 : qz_Fn := Classical.choice ⟨fun _ _ => none⟩
noncomputable def qf_573 : qz_Fn := Classical.choice ⟨fun _ _ => none⟩
noncomputable def qf_574 : qz_Fn := Classical.choice ⟨fun _ _ => none⟩
noncomputable def qf_575 : qz_Fn := Classical.choice ⟨fun _ _ => none⟩
noncomputable def qf_576 : qz_Fn := Classical.choice ⟨fun _ _ => none⟩
noncomputable def qf_577 : qz_Fn := Classical.choice ⟨fun _ _ => none⟩
noncomputable def qf_578 : qz_Fn := Classical.choice ⟨fun _ _ => none⟩
noncomputable def qf_579 : qz_Fn := Classical.choice ⟨fun _ _ => none⟩
noncomputable def qf_580 : qz_Fn := Classical.choice ⟨fun _ _ => none⟩
noncomputable def qf_581 : qz_Fn := Classical.choice ⟨fun _ _ => none⟩
noncomputable def qf_582 : qz_Fn := Classical.choice ⟨fun _ _ => none⟩
noncomputable def qf_583 : qz_Fn := Classical.choice ⟨fun _ _ => none⟩
noncomputable def qf_584 : qz_Fn := Classical.choice ⟨fun _ _ => none⟩
noncomputable def qf_585 : qz_Fn := Classical.choice ⟨fun _ _ => none⟩
noncomputable def qf_586 : qz_Fn := Classical.choice ⟨fun _ _ => none⟩
noncomputable def qf_587 : qz_Fn := Classical.choice ⟨fun _ _ => none⟩
noncomputable def qf_588 : qz_Fn := Classical.choice ⟨fun _ _ => none⟩
noncomputable def qf_589 : qz_Fn := Classical.choice ⟨fun _ _ => none⟩
noncomputable def qf_590 : qz_Fn := Classical.choice ⟨fun _ _ => none⟩
noncomputable def qf_591 : qz_Fn := Classical.choice ⟨fun _ _ => none⟩
noncomputable def qf_592 : qz_Fn := Classical.choice ⟨fun _ _ => none⟩
noncomputable def qf_593 : qz_Fn := Classical.choice ⟨fun _ _ => none⟩
noncomputable def qf_594 : qz_Fn := Classical.choice ⟨fun _ _ => none⟩
noncomputable def qf_595 : qz_Fn := Classical.choice ⟨fun _ _ => none⟩
noncomputable def qf_596 : qz_Fn := Classical.choice ⟨fun _ _ => none⟩
noncomputable def qf_597 : qz_Fn := Classical.choice ⟨fun _ _ => none⟩
noncomputable def qf_598 : qz_Fn := Classical.choice ⟨fun _ _ => none⟩
noncomputable def qf_599 : qz_Fn := Classical.choice ⟨fun _ _ => none⟩
noncomputable def qf_600 : qz_Fn := Classical.choice ⟨fun _ _ => none⟩
noncomputable def qf_601 : qz_Fn := Classical.choice ⟨fun _ _ => none⟩
noncomputable def qf_602 : qz_Fn := Classical.choice ⟨fun _ _ => none⟩
noncomputable def qf_603 : qz_Fn := Classical.choice ⟨fun _ _ => none⟩
noncomputable def qf_604 : qz_Fn := Classical.choice ⟨fun _ _ => none⟩
noncomputable def qf_605 : qz_Fn := Classical.choice ⟨fun _ _ => none⟩
noncomputable def qf_606 : qz_Fn := Classical.choice ⟨fun _ _ => none⟩
noncomputable def qf_607 : qz_Fn := Classical.choice ⟨fun _ _ => none⟩
noncomputable def qf_608 : qz_Fn := Classical.choice ⟨fun _ _ => none⟩
noncomputable def qf_609 : qz_Fn := Classical.choice ⟨fun _ _ => none⟩
noncomputable def qf_610 : qz_Fn := Classical.choice ⟨fun _ _ => none⟩
noncomputable def qf_611 : qz_Fn := Classical.choice ⟨fun _ _ => none⟩
noncomputable def qf_612 : qz_Fn := Classical.choice ⟨fun _ _ => none⟩
noncomputable def qf_613 : qz_Fn := Classical.choice ⟨fun _ _ => none⟩
noncomputable def qf_614 : qz_Fn := Classical.choice ⟨fun _ _ => none⟩
noncomputable def qf_615 : qz_Fn := Classical.choice ⟨fun _ _ => none⟩
noncomputable def qf_616 : qz_Fn := Classical.choice ⟨fun _ _ => none⟩
noncomputable def qf_617 : qz_Fn := Classical.choice ⟨fun _ _ => none⟩
noncomputable def qf_618 : qz_Fn := Classical.choice ⟨fun _ _ => none⟩
noncomputable def qf_619 : qz_Fn := Classical.choice ⟨fun _ _ => none⟩
noncomputable def qf_620 : qz_Fn := Classical.choice ⟨fun _ _ => none⟩
noncomputable def qf_621 : qz_Fn := Classical.choice ⟨fun _ _ => none⟩
noncomputable def qf_622 : qz_Fn := Classical.choice ⟨fun _ _ => none⟩
noncomputable def qf_623 : qz_Fn := Classical.choice ⟨fun _ _ => none⟩
noncomputable def qf_624 : qz_Fn := Classical.choice ⟨fun _ _ => none⟩
noncomputable def qf_625 : qz_Fn := Classical.choice ⟨fun _ _ => none⟩
noncomputable def qf_626 : qz_Fn := Classical.choice ⟨fun _ _ => none⟩
noncomputable def qf_627 : qz_Fn := Classical.choice ⟨fun _ _ => none⟩
noncomputable def qf_628 : qz_Fn := Classical.choice ⟨fun _ _ => none⟩
noncomputable def qf_629 : qz_Fn := Classical.choice ⟨fun _ _ => none⟩
noncomputable def qf_630 : qz_Fn := Classical.choice ⟨fun _ _ => none⟩
noncomputable def qf_631 : qz_Fn := Classical.choice ⟨fun _ _ => none⟩
noncomputable def qb_632_1 : qz_F := Classical.choice ⟨fun _ => none⟩
noncomputable def qc_632_2 : qz_F := Classical.choice ⟨fun _ => none⟩
noncomputable def qf_law0 : qz_F := Classical.choice ⟨fun _ => none⟩
noncomputable def qf_law : qz_F := Classical.choice ⟨fun _ => none⟩
