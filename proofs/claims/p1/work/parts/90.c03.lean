/-! checks of methods 168 to 264 -/
theorem pk_168 : pz_ckm 10 82 153 ps_10 cX10_findWarmth pr_168 = true := by decide +kernel
theorem pv_168 : pz_c60 pr_168 = true := by decide +kernel
theorem pk_169 : pz_ckm 10 82 153 ps_10 cX10_fineAt pr_169 = true := by decide +kernel
theorem pv_169 : pz_c60 pr_169 = true := by decide +kernel
theorem pk_170 : pz_ckm 10 82 153 ps_10 cX10_fineBy pr_170 = true := by decide +kernel
theorem pv_170 : pz_c60 pr_170 = true := by decide +kernel
theorem pk_171 : pz_ckm 10 82 153 ps_10 cX10_growOlder pr_171 = true := by decide +kernel
theorem pv_171 : pz_c60 pr_171 = true := by decide +kernel
theorem pk_172 : pz_ckm 10 82 153 ps_10 cX10_harmed pr_172 = true := by decide +kernel
theorem pv_172 : pz_c60 pr_172 = true := by decide +kernel
theorem pk_173 : pz_ckm 10 82 153 ps_10 cX10_isShut pr_173 = true := by decide +kernel
theorem pv_173 : pz_c60 pr_173 = true := by decide +kernel
theorem pk_174 : pz_ckm 10 82 153 ps_10 cX10_leaked pr_174 = true := by decide +kernel
theorem pv_174 : pz_c60 pr_174 = true := by decide +kernel
theorem pk_175 : pz_ckm 10 82 153 ps_10 cX10_move pr_175 = true := by decide +kernel
theorem pv_175 : pz_c60 pr_175 = true := by decide +kernel
theorem pk_176 : pz_ckm 10 82 153 ps_10 cX10_placesLeft pr_176 = true := by decide +kernel
theorem pv_176 : pz_c60 pr_176 = true := by decide +kernel
theorem pk_177 : pz_ckm 10 82 153 ps_10 cX10_powered pr_177 = true := by decide +kernel
theorem pv_177 : pz_c60 pr_177 = true := by decide +kernel
theorem pk_178 : pz_ckm 10 82 153 ps_10 cX10_putFault pr_178 = true := by decide +kernel
theorem pv_178 : pz_c60 pr_178 = true := by decide +kernel
theorem pk_179 : pz_ckm 10 82 153 ps_10 cX10_putPallet pr_179 = true := by decide +kernel
theorem pv_179 : pz_c60 pr_179 = true := by decide +kernel
theorem pk_180 : pz_ckm 10 82 153 ps_10 cX10_ripeAt pr_180 = true := by decide +kernel
theorem pv_180 : pz_c60 pr_180 = true := by decide +kernel
theorem pk_181 : pz_ckm 10 82 153 ps_10 cX10_riper pr_181 = true := by decide +kernel
theorem pv_181 : pz_c60 pr_181 = true := by decide +kernel
theorem pk_182 : pz_ckm 10 82 153 ps_10 cX10_standing pr_182 = true := by decide +kernel
theorem pv_182 : pz_c60 pr_182 = true := by decide +kernel
theorem pk_183 : pz_ckm 10 82 153 ps_10 cX10_tellRoom pr_183 = true := by decide +kernel
theorem pv_183 : pz_c60 pr_183 = true := by decide +kernel
theorem pk_184 : pz_ckm 10 82 153 ps_10 cX10_towards pr_184 = true := by decide +kernel
theorem pv_184 : pz_c60 pr_184 = true := by decide +kernel
theorem pk_185 : pz_ckm 11 82 153 ps_11 cX11_account pr_185 = true := by decide +kernel
theorem pv_185 : pz_c60 pr_185 = true := by decide +kernel
theorem pk_186 : pz_ckm 11 82 153 ps_11 cX11_again pr_186 = true := by decide +kernel
theorem pv_186 : pz_c60 pr_186 = true := by decide +kernel
theorem pk_187 : pz_ckm 11 82 153 ps_11 cX11_best pr_187 = true := by decide +kernel
theorem pv_187 : pz_c60 pr_187 = true := by decide +kernel
theorem pk_188 : pz_ckm 11 82 153 ps_11 cX11_bestRow pr_188 = true := by decide +kernel
theorem pv_188 : pz_c60 pr_188 = true := by decide +kernel
theorem pk_189 : pz_ckm 11 82 153 ps_11 cX11_bestStart pr_189 = true := by decide +kernel
theorem pv_189 : pz_c60 pr_189 = true := by decide +kernel
theorem pk_190 : pz_ckm 11 82 153 ps_11 cX11_blame pr_190 = true := by decide +kernel
theorem pv_190 : pz_c60 pr_190 = true := by decide +kernel
theorem pk_191 : pz_ckm 11 82 153 ps_11 cX11_buyer pr_191 = true := by decide +kernel
theorem pv_191 : pz_c60 pr_191 = true := by decide +kernel
theorem pk_192 : pz_ckm 11 82 153 ps_11 cX11_cancel pr_192 = true := by decide +kernel
theorem pv_192 : pz_c60 pr_192 = true := by decide +kernel
theorem pk_193 : pz_ckm 11 82 153 ps_11 cX11_clock pr_193 = true := by decide +kernel
theorem pv_193 : pz_c60 pr_193 = true := by decide +kernel
theorem pk_194 : pz_ckm 11 82 153 ps_11 cX11_deed pr_194 = true := by decide +kernel
theorem pv_194 : pz_c60 pr_194 = true := by decide +kernel
theorem pk_195 : pz_ckm 11 82 153 ps_11 cX11_deliver pr_195 = true := by decide +kernel
theorem pv_195 : pz_c60 pr_195 = true := by decide +kernel
theorem pk_196 : pz_ckm 11 82 153 ps_11 cX11_doTasks pr_196 = true := by decide +kernel
theorem pv_196 : pz_c60 pr_196 = true := by decide +kernel
theorem pk_197 : pz_ckm 11 82 153 ps_11 cX11_docks pr_197 = true := by decide +kernel
theorem pv_197 : pz_c60 pr_197 = true := by decide +kernel
theorem pk_198 : pz_ckm 11 82 153 ps_11 cX11_dump pr_198 = true := by decide +kernel
theorem pv_198 : pz_c60 pr_198 = true := by decide +kernel
theorem pk_199 : pz_ckm 11 82 153 ps_11 cX11_entry pr_199 = true := by decide +kernel
theorem pv_199 : pz_c60 pr_199 = true := by decide +kernel
theorem pk_200 : pz_ckm 11 82 153 ps_11 cX11_fewest pr_200 = true := by decide +kernel
theorem pv_200 : pz_c60 pr_200 = true := by decide +kernel
theorem pk_201 : pz_ckm 11 82 153 ps_11 cX11_found pr_201 = true := by decide +kernel
theorem pv_201 : pz_c60 pr_201 = true := by decide +kernel
theorem pk_202 : pz_ckm 11 82 153 ps_11 cX11_gas pr_202 = true := by decide +kernel
theorem pv_202 : pz_c60 pr_202 = true := by decide +kernel
theorem pk_203 : pz_ckm 11 82 153 ps_11 cX11_grade pr_203 = true := by decide +kernel
theorem pv_203 : pz_c60 pr_203 = true := by decide +kernel
theorem pk_204 : pz_ckm 11 82 153 ps_11 cX11_grower pr_204 = true := by decide +kernel
theorem pv_204 : pz_c60 pr_204 = true := by decide +kernel
theorem pk_205 : pz_ckm 11 82 153 ps_11 cX11_grown pr_205 = true := by decide +kernel
theorem pv_205 : pz_c60 pr_205 = true := by decide +kernel
theorem pk_206 : pz_ckm 11 82 153 ps_11 cX11_hand pr_206 = true := by decide +kernel
theorem pv_206 : pz_c60 pr_206 = true := by decide +kernel
theorem pk_207 : pz_ckm 11 82 153 ps_11 cX11_haul pr_207 = true := by decide +kernel
theorem pv_207 : pz_c60 pr_207 = true := by decide +kernel
theorem pk_208 : pz_ckm 11 82 153 ps_11 cX11_inRange pr_208 = true := by decide +kernel
theorem pv_208 : pz_c60 pr_208 = true := by decide +kernel
theorem pk_209 : pz_ckm 11 82 153 ps_11 cX11_inTime pr_209 = true := by decide +kernel
theorem pv_209 : pz_c60 pr_209 = true := by decide +kernel
theorem pk_210 : pz_ckm 11 82 153 ps_11 cX11_init pr_210 = true := by decide +kernel
theorem pv_210 : pz_c60 pr_210 = true := by decide +kernel
theorem pk_211 : pz_ckm 11 82 153 ps_11 cX11_inspector pr_211 = true := by decide +kernel
theorem pv_211 : pz_c60 pr_211 = true := by decide +kernel
theorem pk_212 : pz_ckm 11 82 153 ps_11 cX11_isSound pr_212 = true := by decide +kernel
theorem pv_212 : pz_c60 pr_212 = true := by decide +kernel
theorem pk_213 : pz_ckm 11 82 153 ps_11 cX11_keep pr_213 = true := by decide +kernel
theorem pv_213 : pz_c60 pr_213 = true := by decide +kernel
theorem pk_214 : pz_ckm 11 82 153 ps_11 cX11_kept pr_214 = true := by decide +kernel
theorem pv_214 : pz_c60 pr_214 = true := by decide +kernel
theorem pk_215 : pz_ckm 11 82 153 ps_11 cX11_load pr_215 = true := by decide +kernel
theorem pv_215 : pz_c60 pr_215 = true := by decide +kernel
theorem pk_216 : pz_ckm 11 82 153 ps_11 cX11_looked pr_216 = true := by decide +kernel
theorem pv_216 : pz_c60 pr_216 = true := by decide +kernel
theorem pk_217 : pz_ckm 11 82 153 ps_11 cX11_lot pr_217 = true := by decide +kernel
theorem pv_217 : pz_c60 pr_217 = true := by decide +kernel
theorem pk_218 : pz_ckm 11 82 153 ps_11 cX11_match pr_218 = true := by decide +kernel
theorem pv_218 : pz_c60 pr_218 = true := by decide +kernel
theorem pk_219 : pz_ckm 11 82 153 ps_11 cX11_odds pr_219 = true := by decide +kernel
theorem pv_219 : pz_c60 pr_219 = true := by decide +kernel
theorem pk_220 : pz_ckm 11 82 153 ps_11 cX11_order pr_220 = true := by decide +kernel
theorem pv_220 : pz_c60 pr_220 = true := by decide +kernel
theorem pk_221 : pz_ckm 11 82 153 ps_11 cX11_ordered pr_221 = true := by decide +kernel
theorem pv_221 : pz_c60 pr_221 = true := by decide +kernel
theorem pk_222 : pz_ckm 11 82 153 ps_11 cX11_outside pr_222 = true := by decide +kernel
theorem pv_222 : pz_c60 pr_222 = true := by decide +kernel
theorem pk_223 : pz_ckm 11 82 153 ps_11 cX11_owed pr_223 = true := by decide +kernel
theorem pv_223 : pz_c60 pr_223 = true := by decide +kernel
theorem pk_224 : pz_ckm 11 82 153 ps_11 cX11_owes pr_224 = true := by decide +kernel
theorem pv_224 : pz_c60 pr_224 = true := by decide +kernel
theorem pk_225 : pz_ckm 11 82 153 ps_11 cX11_pallet pr_225 = true := by decide +kernel
theorem pv_225 : pz_c60 pr_225 = true := by decide +kernel
theorem pk_226 : pz_ckm 11 82 153 ps_11 cX11_parcel pr_226 = true := by decide +kernel
theorem pv_226 : pz_c60 pr_226 = true := by decide +kernel
theorem pk_227 : pz_ckm 11 82 153 ps_11 cX11_pass pr_227 = true := by decide +kernel
theorem pv_227 : pz_c60 pr_227 = true := by decide +kernel
theorem pk_228 : pz_ckm 11 82 153 ps_11 cX11_pay pr_228 = true := by decide +kernel
theorem pv_228 : pz_c60 pr_228 = true := by decide +kernel
theorem pk_229 : pz_ckm 11 82 153 ps_11 cX11_plan pr_229 = true := by decide +kernel
theorem pv_229 : pz_c60 pr_229 = true := by decide +kernel
theorem pk_230 : pz_ckm 11 82 153 ps_11 cX11_put pr_230 = true := by decide +kernel
theorem pv_230 : pz_c60 pr_230 = true := by decide +kernel
theorem pk_231 : pz_ckm 11 82 153 ps_11 cX11_quarrel pr_231 = true := by decide +kernel
theorem pv_231 : pz_c60 pr_231 = true := by decide +kernel
theorem pk_232 : pz_ckm 11 82 153 ps_11 cX11_quarrelled pr_232 = true := by decide +kernel
theorem pv_232 : pz_c60 pr_232 = true := by decide +kernel
theorem pk_233 : pz_ckm 11 82 153 ps_11 cX11_queue pr_233 = true := by decide +kernel
theorem pv_233 : pz_c60 pr_233 = true := by decide +kernel
theorem pk_234 : pz_ckm 11 82 153 ps_11 cX11_refuse pr_234 = true := by decide +kernel
theorem pv_234 : pz_c60 pr_234 = true := by decide +kernel
theorem pk_235 : pz_ckm 11 82 153 ps_11 cX11_ripe pr_235 = true := by decide +kernel
theorem pv_235 : pz_c60 pr_235 = true := by decide +kernel
theorem pk_236 : pz_ckm 11 82 153 ps_11 cX11_room pr_236 = true := by decide +kernel
theorem pv_236 : pz_c60 pr_236 = true := by decide +kernel
theorem pk_237 : pz_ckm 11 82 153 ps_11 cX11_round pr_237 = true := by decide +kernel
theorem pv_237 : pz_c60 pr_237 = true := by decide +kernel
theorem pk_238 : pz_ckm 11 82 153 ps_11 cX11_season pr_238 = true := by decide +kernel
theorem pv_238 : pz_c60 pr_238 = true := by decide +kernel
theorem pk_239 : pz_ckm 11 82 153 ps_11 cX11_send pr_239 = true := by decide +kernel
theorem pv_239 : pz_c60 pr_239 = true := by decide +kernel
theorem pk_240 : pz_ckm 11 82 153 ps_11 cX11_set pr_240 = true := by decide +kernel
theorem pv_240 : pz_c60 pr_240 = true := by decide +kernel
theorem pk_241 : pz_ckm 11 82 153 ps_11 cX11_shares pr_241 = true := by decide +kernel
theorem pv_241 : pz_c60 pr_241 = true := by decide +kernel
theorem pk_242 : pz_ckm 11 82 153 ps_11 cX11_sign pr_242 = true := by decide +kernel
theorem pv_242 : pz_c60 pr_242 = true := by decide +kernel
theorem pk_243 : pz_ckm 11 82 153 ps_11 cX11_sort pr_243 = true := by decide +kernel
theorem pv_243 : pz_c60 pr_243 = true := by decide +kernel
theorem pk_244 : pz_ckm 11 82 153 ps_11 cX11_sum pr_244 = true := by decide +kernel
theorem pv_244 : pz_c60 pr_244 = true := by decide +kernel
theorem pk_245 : pz_ckm 11 82 153 ps_11 cX11_taker pr_245 = true := by decide +kernel
theorem pv_245 : pz_c60 pr_245 = true := by decide +kernel
theorem pk_246 : pz_ckm 11 82 153 ps_11 cX11_takings pr_246 = true := by decide +kernel
theorem pv_246 : pz_c60 pr_246 = true := by decide +kernel
theorem pk_247 : pz_ckm 11 82 153 ps_11 cX11_tariff pr_247 = true := by decide +kernel
theorem pv_247 : pz_c60 pr_247 = true := by decide +kernel
theorem pk_248 : pz_ckm 11 82 153 ps_11 cX11_tasks pr_248 = true := by decide +kernel
theorem pv_248 : pz_c60 pr_248 = true := by decide +kernel
theorem pk_249 : pz_ckm 11 82 153 ps_11 cX11_thing pr_249 = true := by decide +kernel
theorem pv_249 : pz_c60 pr_249 = true := by decide +kernel
theorem pk_250 : pz_ckm 11 82 153 ps_11 cX11_trip pr_250 = true := by decide +kernel
theorem pv_250 : pz_c60 pr_250 = true := by decide +kernel
theorem pk_251 : pz_ckm 11 82 153 ps_11 cX11_truck pr_251 = true := by decide +kernel
theorem pv_251 : pz_c60 pr_251 = true := by decide +kernel
theorem pk_252 : pz_ckm 11 82 153 ps_11 cX11_undo pr_252 = true := by decide +kernel
theorem pv_252 : pz_c60 pr_252 = true := by decide +kernel
theorem pk_253 : pz_ckm 11 82 153 ps_11 cX11_way pr_253 = true := by decide +kernel
theorem pv_253 : pz_c60 pr_253 = true := by decide +kernel
theorem pk_254 : pz_ckm 11 82 153 ps_11 cX11_withdraw pr_254 = true := by decide +kernel
theorem pv_254 : pz_c60 pr_254 = true := by decide +kernel
theorem pk_255 : pz_ckm 11 82 153 ps_11 cX11_worst pr_255 = true := by decide +kernel
theorem pv_255 : pz_c60 pr_255 = true := by decide +kernel
theorem pk_256 : pz_ckm 12 82 153 ps_12 cX12_account pr_256 = true := by decide +kernel
theorem pv_256 : pz_c60 pr_256 = true := by decide +kernel
theorem pk_257 : pz_ckm 12 82 153 ps_12 cX12_again pr_257 = true := by decide +kernel
theorem pv_257 : pz_c60 pr_257 = true := by decide +kernel
theorem pk_258 : pz_ckm 12 82 153 ps_12 cX12_areParts pr_258 = true := by decide +kernel
theorem pv_258 : pz_c60 pr_258 = true := by decide +kernel
theorem pk_259 : pz_ckm 12 82 153 ps_12 cX12_bAsking pr_259 = true := by decide +kernel
theorem pv_259 : pz_c60 pr_259 = true := by decide +kernel
theorem pk_260 : pz_ckm 12 82 153 ps_12 cX12_bAsks pr_260 = true := by decide +kernel
theorem pv_260 : pz_c60 pr_260 = true := by decide +kernel
theorem pk_261 : pz_ckm 12 82 153 ps_12 cX12_bAt pr_261 = true := by decide +kernel
theorem pv_261 : pz_c60 pr_261 = true := by decide +kernel
theorem pk_262 : pz_ckm 12 82 153 ps_12 cX12_bBegin pr_262 = true := by decide +kernel
theorem pv_262 : pz_c60 pr_262 = true := by decide +kernel
theorem pk_263 : pz_ckm 12 82 153 ps_12 cX12_bBuyer pr_263 = true := by decide +kernel
theorem pv_263 : pz_c60 pr_263 = true := by decide +kernel
theorem pk_264 : pz_ckm 12 82 153 ps_12 cX12_bBuyerSound pr_264 = true := by decide +kernel
theorem pv_264 : pz_c60 pr_264 = true := by decide +kernel
