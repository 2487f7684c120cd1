/-! checks of methods 116 to 167 -/
theorem pk_116 : pz_ckm 6 82 153 ps_6 cX6_isLike pr_116 = true := by decide +kernel
theorem pv_116 : pz_c60 pr_116 = true := by decide +kernel
theorem pk_117 : pz_ckm 6 82 153 ps_6 cX6_isToday pr_117 = true := by decide +kernel
theorem pv_117 : pz_c60 pr_117 = true := by decide +kernel
theorem pk_118 : pz_ckm 6 82 153 ps_6 cX6_letHours pr_118 = true := by decide +kernel
theorem pv_118 : pz_c60 pr_118 = true := by decide +kernel
theorem pk_119 : pz_ckm 6 82 153 ps_6 cX6_likeRow pr_119 = true := by decide +kernel
theorem pv_119 : pz_c60 pr_119 = true := by decide +kernel
theorem pk_120 : pz_ckm 6 82 153 ps_6 cX6_likeRows pr_120 = true := by decide +kernel
theorem pv_120 : pz_c60 pr_120 = true := by decide +kernel
theorem pk_121 : pz_ckm 6 82 153 ps_6 cX6_perform pr_121 = true := by decide +kernel
theorem pv_121 : pz_c60 pr_121 = true := by decide +kernel
theorem pk_122 : pz_ckm 6 82 153 ps_6 cX6_swap pr_122 = true := by decide +kernel
theorem pv_122 : pz_c60 pr_122 = true := by decide +kernel
theorem pk_123 : pz_ckm 6 82 153 ps_6 cX6_taskFault pr_123 = true := by decide +kernel
theorem pv_123 : pz_c60 pr_123 = true := by decide +kernel
theorem pk_124 : pz_ckm 6 82 153 ps_6 cX6_tellSum pr_124 = true := by decide +kernel
theorem pv_124 : pz_c60 pr_124 = true := by decide +kernel
theorem pk_125 : pz_ckm 6 82 153 ps_6 cX6_today pr_125 = true := by decide +kernel
theorem pv_125 : pz_c60 pr_125 = true := by decide +kernel
theorem pk_126 : pz_ckm 7 82 153 ps_7 cX7_addInspector pr_126 = true := by decide +kernel
theorem pv_126 : pz_c60 pr_126 = true := by decide +kernel
theorem pk_127 : pz_ckm 7 82 153 ps_7 cX7_anHourLater pr_127 = true := by decide +kernel
theorem pv_127 : pz_c60 pr_127 = true := by decide +kernel
theorem pk_128 : pz_ckm 7 82 153 ps_7 cX7_areSound pr_128 = true := by decide +kernel
theorem pv_128 : pz_c60 pr_128 = true := by decide +kernel
theorem pk_129 : pz_ckm 7 82 153 ps_7 cX7_areStops pr_129 = true := by decide +kernel
theorem pv_129 : pz_c60 pr_129 = true := by decide +kernel
theorem pk_130 : pz_ckm 7 82 153 ps_7 cX7_changeRound pr_130 = true := by decide +kernel
theorem pv_130 : pz_c60 pr_130 = true := by decide +kernel
theorem pk_131 : pz_ckm 7 82 153 ps_7 cX7_findingBack pr_131 = true := by decide +kernel
theorem pv_131 : pz_c60 pr_131 = true := by decide +kernel
theorem pk_132 : pz_ckm 7 82 153 ps_7 cX7_findingsAt pr_132 = true := by decide +kernel
theorem pv_132 : pz_c60 pr_132 = true := by decide +kernel
theorem pk_133 : pz_ckm 7 82 153 ps_7 cX7_howManyStops pr_133 = true := by decide +kernel
theorem pv_133 : pz_c60 pr_133 = true := by decide +kernel
theorem pk_134 : pz_ckm 7 82 153 ps_7 cX7_isStop pr_134 = true := by decide +kernel
theorem pv_134 : pz_c60 pr_134 = true := by decide +kernel
theorem pk_135 : pz_ckm 7 82 153 ps_7 cX7_kindOf pr_135 = true := by decide +kernel
theorem pv_135 : pz_c60 pr_135 = true := by decide +kernel
theorem pk_136 : pz_ckm 7 82 153 ps_7 cX7_look pr_136 = true := by decide +kernel
theorem pv_136 : pz_c60 pr_136 = true := by decide +kernel
theorem pk_137 : pz_ckm 7 82 153 ps_7 cX7_lookAhead pr_137 = true := by decide +kernel
theorem pv_137 : pz_c60 pr_137 = true := by decide +kernel
theorem pk_138 : pz_ckm 7 82 153 ps_7 cX7_search pr_138 = true := by decide +kernel
theorem pv_138 : pz_c60 pr_138 = true := by decide +kernel
theorem pk_139 : pz_ckm 7 82 153 ps_7 cX7_stopAt pr_139 = true := by decide +kernel
theorem pv_139 : pz_c60 pr_139 = true := by decide +kernel
theorem pk_140 : pz_ckm 7 82 153 ps_7 cX7_tellInspector pr_140 = true := by decide +kernel
theorem pv_140 : pz_c60 pr_140 = true := by decide +kernel
theorem pk_141 : pz_ckm 7 82 153 ps_7 cX7_writeFinding pr_141 = true := by decide +kernel
theorem pv_141 : pz_c60 pr_141 = true := by decide +kernel
theorem pk_142 : pz_ckm 8 82 153 ps_8 cX8_draw pr_142 = true := by decide +kernel
theorem pv_142 : pz_c60 pr_142 = true := by decide +kernel
theorem pk_143 : pz_ckm 8 82 153 ps_8 cX8_init pr_143 = true := by decide +kernel
theorem pv_143 : pz_c60 pr_143 = true := by decide +kernel
theorem pk_144 : pz_ckm 8 82 153 ps_8 cX8_tellAll pr_144 = true := by decide +kernel
theorem pv_144 : pz_c60 pr_144 = true := by decide +kernel
theorem pk_145 : pz_ckm 8 82 153 ps_8 cX8_tellBuyers pr_145 = true := by decide +kernel
theorem pv_145 : pz_c60 pr_145 = true := by decide +kernel
theorem pk_146 : pz_ckm 8 82 153 ps_8 cX8_tellCarriers pr_146 = true := by decide +kernel
theorem pv_146 : pz_c60 pr_146 = true := by decide +kernel
theorem pk_147 : pz_ckm 8 82 153 ps_8 cX8_tellClocks pr_147 = true := by decide +kernel
theorem pv_147 : pz_c60 pr_147 = true := by decide +kernel
theorem pk_148 : pz_ckm 8 82 153 ps_8 cX8_tellGoods pr_148 = true := by decide +kernel
theorem pv_148 : pz_c60 pr_148 = true := by decide +kernel
theorem pk_149 : pz_ckm 8 82 153 ps_8 cX8_tellRounds pr_149 = true := by decide +kernel
theorem pv_149 : pz_c60 pr_149 = true := by decide +kernel
theorem pk_150 : pz_ckm 8 82 153 ps_8 cX8_tellStores pr_150 = true := by decide +kernel
theorem pv_150 : pz_c60 pr_150 = true := by decide +kernel
theorem pk_151 : pz_ckm 9 82 153 ps_9 cX9_fault pr_151 = true := by decide +kernel
theorem pv_151 : pz_c60 pr_151 = true := by decide +kernel
theorem pk_152 : pz_ckm 9 82 153 ps_9 cX9_howManyNumbers pr_152 = true := by decide +kernel
theorem pv_152 : pz_c60 pr_152 = true := by decide +kernel
theorem pk_153 : pz_ckm 9 82 153 ps_9 cX9_init pr_153 = true := by decide +kernel
theorem pv_153 : pz_c60 pr_153 = true := by decide +kernel
theorem pk_154 : pz_ckm 9 82 153 ps_9 cX9_isFigure pr_154 = true := by decide +kernel
theorem pv_154 : pz_c60 pr_154 = true := by decide +kernel
theorem pk_155 : pz_ckm 9 82 153 ps_9 cX9_isSign pr_155 = true := by decide +kernel
theorem pv_155 : pz_c60 pr_155 = true := by decide +kernel
theorem pk_156 : pz_ckm 9 82 153 ps_9 cX9_kindOf pr_156 = true := by decide +kernel
theorem pv_156 : pz_c60 pr_156 = true := by decide +kernel
theorem pk_157 : pz_ckm 9 82 153 ps_9 cX9_readNumber pr_157 = true := by decide +kernel
theorem pv_157 : pz_c60 pr_157 = true := by decide +kernel
theorem pk_158 : pz_ckm 9 82 153 ps_9 cX9_readTask pr_158 = true := by decide +kernel
theorem pv_158 : pz_c60 pr_158 = true := by decide +kernel
theorem pk_159 : pz_ckm 9 82 153 ps_9 cX9_write pr_159 = true := by decide +kernel
theorem pv_159 : pz_c60 pr_159 = true := by decide +kernel
theorem pk_160 : pz_ckm 10 82 153 ps_10 cX10_addRoom pr_160 = true := by decide +kernel
theorem pv_160 : pz_c60 pr_160 = true := by decide +kernel
theorem pk_161 : pz_ckm 10 82 153 ps_10 cX10_areSound pr_161 = true := by decide +kernel
theorem pv_161 : pz_c60 pr_161 = true := by decide +kernel
theorem pk_162 : pz_ckm 10 82 153 ps_10 cX10_bestWay pr_162 = true := by decide +kernel
theorem pv_162 : pz_c60 pr_162 = true := by decide +kernel
theorem pk_163 : pz_ckm 10 82 153 ps_10 cX10_canGo pr_163 = true := by decide +kernel
theorem pv_163 : pz_c60 pr_163 = true := by decide +kernel
theorem pk_164 : pz_ckm 10 82 153 ps_10 cX10_comeTo pr_164 = true := by decide +kernel
theorem pv_164 : pz_c60 pr_164 = true := by decide +kernel
theorem pk_165 : pz_ckm 10 82 153 ps_10 cX10_dumpFault pr_165 = true := by decide +kernel
theorem pv_165 : pz_c60 pr_165 = true := by decide +kernel
theorem pk_166 : pz_ckm 10 82 153 ps_10 cX10_findFine pr_166 = true := by decide +kernel
theorem pv_166 : pz_c60 pr_166 = true := by decide +kernel
theorem pk_167 : pz_ckm 10 82 153 ps_10 cX10_findThree pr_167 = true := by decide +kernel
theorem pv_167 : pz_c60 pr_167 = true := by decide +kernel
