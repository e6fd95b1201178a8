/-! ===== printed by gen.py: the tables are checked, 5 ===== -/
theorem x_c_231 : x_chkT yX12_ship cX12_ship x_t_X12_ship = true := xq_wkT 11 false xq_LKok_11 rfl (fun h => nomatch h) (by decide +kernel)
theorem x_e_231 : x_y 231 = yX12_ship ∧ x_b 231 = cX12_ship ∧ x_tab 231 = x_t_X12_ship := ⟨rfl, rfl, rfl⟩
theorem x_c_232 : x_chkT yX12_cart cX12_cart x_t_X12_cart = true := xq_wkT 11 false xq_LKok_11 rfl (fun h => nomatch h) (by decide +kernel)
theorem x_e_232 : x_y 232 = yX12_cart ∧ x_b 232 = cX12_cart ∧ x_tab 232 = x_t_X12_cart := ⟨rfl, rfl, rfl⟩
theorem x_c_233 : x_chkT yX12_beatsOf cX12_beatsOf x_t_X12_beatsOf = true := xq_wkT 11 false xq_LKok_11 rfl (fun h => nomatch h) (by decide +kernel)
theorem x_e_233 : x_y 233 = yX12_beatsOf ∧ x_b 233 = cX12_beatsOf ∧ x_tab 233 = x_t_X12_beatsOf := ⟨rfl, rfl, rfl⟩
theorem x_c_234 : x_chkT yX12_soundOf cX12_soundOf x_t_X12_soundOf = true := xq_wkT 11 false xq_LKok_11 rfl (fun h => nomatch h) (by decide +kernel)
theorem x_e_234 : x_y 234 = yX12_soundOf ∧ x_b 234 = cX12_soundOf ∧ x_tab 234 = x_t_X12_soundOf := ⟨rfl, rfl, rfl⟩
theorem x_c_235 : x_chkT yX12_echoed cX12_echoed x_t_X12_echoed = true := xq_wkT 11 false xq_LKok_11 rfl (fun h => nomatch h) (by decide +kernel)
theorem x_e_235 : x_y 235 = yX12_echoed ∧ x_b 235 = cX12_echoed ∧ x_tab 235 = x_t_X12_echoed := ⟨rfl, rfl, rfl⟩
theorem x_c_236 : x_chkT yX12_heardOf cX12_heardOf x_t_X12_heardOf = true := xq_wkT 11 false xq_LKok_11 rfl (fun h => nomatch h) (by decide +kernel)
theorem x_e_236 : x_y 236 = yX12_heardOf ∧ x_b 236 = cX12_heardOf ∧ x_tab 236 = x_t_X12_heardOf := ⟨rfl, rfl, rfl⟩
theorem x_c_237 : x_chkT yX12_bits cX12_bits x_t_X12_bits = true := xq_wkT 11 false xq_LKok_11 rfl (fun h => nomatch h) (by decide +kernel)
theorem x_e_237 : x_y 237 = yX12_bits ∧ x_b 237 = cX12_bits ∧ x_tab 237 = x_t_X12_bits := ⟨rfl, rfl, rfl⟩
theorem x_c_238 : x_chkT yX12_sound cX12_sound x_t_X12_sound = true := xq_wkT 11 false xq_LKok_11 rfl (fun h => nomatch h) (by decide +kernel)
theorem x_e_238 : x_y 238 = yX12_sound ∧ x_b 238 = cX12_sound ∧ x_tab 238 = x_t_X12_sound := ⟨rfl, rfl, rfl⟩
theorem x_c_239 : x_chkT yX12_heard cX12_heard x_t_X12_heard = true := xq_wkT 11 false xq_LKok_11 rfl (fun h => nomatch h) (by decide +kernel)
theorem x_e_239 : x_y 239 = yX12_heard ∧ x_b 239 = cX12_heard ∧ x_tab 239 = x_t_X12_heard := ⟨rfl, rfl, rfl⟩
theorem x_c_240 : x_chkT yX12_together cX12_together x_t_X12_together = true := xq_wkT 11 false xq_LKok_11 rfl (fun h => nomatch h) (by decide +kernel)
theorem x_e_240 : x_y 240 = yX12_together ∧ x_b 240 = cX12_together ∧ x_tab 240 = x_t_X12_together := ⟨rfl, rfl, rfl⟩
theorem x_c_241 : x_chkT yX12_lasts cX12_lasts x_t_X12_lasts = true := xq_wkT 11 false xq_LKok_11 rfl (fun h => nomatch h) (by decide +kernel)
theorem x_e_241 : x_y 241 = yX12_lasts ∧ x_b 241 = cX12_lasts ∧ x_tab 241 = x_t_X12_lasts := ⟨rfl, rfl, rfl⟩
theorem x_c_242 : x_chkT yX12_far cX12_far x_t_X12_far = true := xq_wkT 11 false xq_LKok_11 rfl (fun h => nomatch h) (by decide +kernel)
theorem x_e_242 : x_y 242 = yX12_far ∧ x_b 242 = cX12_far ∧ x_tab 242 = x_t_X12_far := ⟨rfl, rfl, rfl⟩
theorem x_c_243 : x_chkT yX12_reads cX12_reads x_t_X12_reads = true := xq_wkT 11 false xq_LKok_11 rfl (fun h => nomatch h) (by decide +kernel)
theorem x_e_243 : x_y 243 = yX12_reads ∧ x_b 243 = cX12_reads ∧ x_tab 243 = x_t_X12_reads := ⟨rfl, rfl, rfl⟩
theorem x_c_244 : x_chkT yX12_findsReadings cX12_findsReadings x_t_X12_findsReadings = true := xq_wkT 11 false xq_LKok_11 rfl (fun h => nomatch h) (by decide +kernel)
theorem x_e_244 : x_y 244 = yX12_findsReadings ∧ x_b 244 = cX12_findsReadings ∧ x_tab 244 = x_t_X12_findsReadings := ⟨rfl, rfl, rfl⟩
theorem x_c_245 : x_chkT yX12_readings cX12_readings x_t_X12_readings = true := xq_wkT 11 false xq_LKok_11 rfl (fun h => nomatch h) (by decide +kernel)
theorem x_e_245 : x_y 245 = yX12_readings ∧ x_b 245 = cX12_readings ∧ x_tab 245 = x_t_X12_readings := ⟨rfl, rfl, rfl⟩
theorem x_c_246 : x_chkT yX12_reading cX12_reading x_t_X12_reading = true := xq_wkT 11 false xq_LKok_11 rfl (fun h => nomatch h) (by decide +kernel)
theorem x_e_246 : x_y 246 = yX12_reading ∧ x_b 246 = cX12_reading ∧ x_tab 246 = x_t_X12_reading := ⟨rfl, rfl, rfl⟩
theorem x_c_247 : x_chkT yX12_doubt cX12_doubt x_t_X12_doubt = true := xq_wkT 11 false xq_LKok_11 rfl (fun h => nomatch h) (by decide +kernel)
theorem x_e_247 : x_y 247 = yX12_doubt ∧ x_b 247 = cX12_doubt ∧ x_tab 247 = x_t_X12_doubt := ⟨rfl, rfl, rfl⟩
theorem x_c_248 : x_chkT yX12_alike cX12_alike x_t_X12_alike = true := xq_wkT 11 false xq_LKok_11 rfl (fun h => nomatch h) (by decide +kernel)
theorem x_e_248 : x_y 248 = yX12_alike ∧ x_b 248 = cX12_alike ∧ x_tab 248 = x_t_X12_alike := ⟨rfl, rfl, rfl⟩
theorem x_c_249 : x_chkT yX12_parts cX12_parts x_t_X12_parts = true := xq_wkT 11 false xq_LKok_11 rfl (fun h => nomatch h) (by decide +kernel)
theorem x_e_249 : x_y 249 = yX12_parts ∧ x_b 249 = cX12_parts ∧ x_tab 249 = x_t_X12_parts := ⟨rfl, rfl, rfl⟩
theorem x_c_250 : x_chkT yX12_clearBeats cX12_clearBeats x_t_X12_clearBeats = true := xq_wkT 11 false xq_LKok_11 rfl (fun h => nomatch h) (by decide +kernel)
theorem x_e_250 : x_y 250 = yX12_clearBeats ∧ x_b 250 = cX12_clearBeats ∧ x_tab 250 = x_t_X12_clearBeats := ⟨rfl, rfl, rfl⟩
theorem x_c_251 : x_chkT yX12_alikeBy cX12_alikeBy x_t_X12_alikeBy = true := xq_wkT 11 false xq_LKok_11 rfl (fun h => nomatch h) (by decide +kernel)
theorem x_e_251 : x_y 251 = yX12_alikeBy ∧ x_b 251 = cX12_alikeBy ∧ x_tab 251 = x_t_X12_alikeBy := ⟨rfl, rfl, rfl⟩
theorem x_c_252 : x_chkT yX12_clearEcho cX12_clearEcho x_t_X12_clearEcho = true := xq_wkT 11 false xq_LKok_11 rfl (fun h => nomatch h) (by decide +kernel)
theorem x_e_252 : x_y 252 = yX12_clearEcho ∧ x_b 252 = cX12_clearEcho ∧ x_tab 252 = x_t_X12_clearEcho := ⟨rfl, rfl, rfl⟩
theorem x_c_253 : x_chkT yX12_silent cX12_silent x_t_X12_silent = true := xq_wkT 11 false xq_LKok_11 rfl (fun h => nomatch h) (by decide +kernel)
theorem x_e_253 : x_y 253 = yX12_silent ∧ x_b 253 = cX12_silent ∧ x_tab 253 = x_t_X12_silent := ⟨rfl, rfl, rfl⟩
theorem x_c_254 : x_chkT yX12_laysCalls cX12_laysCalls x_t_X12_laysCalls = true := xq_wkT 11 false xq_LKok_11 rfl (fun h => nomatch h) (by decide +kernel)
theorem x_e_254 : x_y 254 = yX12_laysCalls ∧ x_b 254 = cX12_laysCalls ∧ x_tab 254 = x_t_X12_laysCalls := ⟨rfl, rfl, rfl⟩
theorem x_c_255 : x_chkT yX12_isCode cX12_isCode x_t_X12_isCode = true := xq_wkT 11 false xq_LKok_11 rfl (fun h => nomatch h) (by decide +kernel)
theorem x_e_255 : x_y 255 = yX12_isCode ∧ x_b 255 = cX12_isCode ∧ x_tab 255 = x_t_X12_isCode := ⟨rfl, rfl, rfl⟩
theorem x_c_256 : x_chkT yX12_code cX12_code x_t_X12_code = true := xq_wkT 11 false xq_LKok_11 rfl (fun h => nomatch h) (by decide +kernel)
theorem x_e_256 : x_y 256 = yX12_code ∧ x_b 256 = cX12_code ∧ x_tab 256 = x_t_X12_code := ⟨rfl, rfl, rfl⟩
theorem x_c_257 : x_chkT yX12_codeAt cX12_codeAt x_t_X12_codeAt = true := xq_wkT 11 false xq_LKok_11 rfl (fun h => nomatch h) (by decide +kernel)
theorem x_e_257 : x_y 257 = yX12_codeAt ∧ x_b 257 = cX12_codeAt ∧ x_tab 257 = x_t_X12_codeAt := ⟨rfl, rfl, rfl⟩
theorem x_c_258 : x_chkT yX12_tellsMinutes cX12_tellsMinutes x_t_X12_tellsMinutes = true := xq_wkT 11 false xq_LKok_11 rfl (fun h => nomatch h) (by decide +kernel)
theorem x_e_258 : x_y 258 = yX12_tellsMinutes ∧ x_b 258 = cX12_tellsMinutes ∧ x_tab 258 = x_t_X12_tellsMinutes := ⟨rfl, rfl, rfl⟩
theorem x_c_259 : x_chkT yX12_orders cX12_orders x_t_X12_orders = true := xq_wkT 11 false xq_LKok_11 rfl (fun h => nomatch h) (by decide +kernel)
theorem x_e_259 : x_y 259 = yX12_orders ∧ x_b 259 = cX12_orders ∧ x_tab 259 = x_t_X12_orders := ⟨rfl, rfl, rfl⟩
theorem x_c_260 : x_chkT yX12_nextShip cX12_nextShip x_t_X12_nextShip = true := xq_wkT 11 false xq_LKok_11 rfl (fun h => nomatch h) (by decide +kernel)
theorem x_e_260 : x_y 260 = yX12_nextShip ∧ x_b 260 = cX12_nextShip ∧ x_tab 260 = x_t_X12_nextShip := ⟨rfl, rfl, rfl⟩
theorem x_c_261 : x_chkT yX12_nextCart cX12_nextCart x_t_X12_nextCart = true := xq_wkT 11 false xq_LKok_11 rfl (fun h => nomatch h) (by decide +kernel)
theorem x_e_261 : x_y 261 = yX12_nextCart ∧ x_b 261 = cX12_nextCart ∧ x_tab 261 = x_t_X12_nextCart := ⟨rfl, rfl, rfl⟩
theorem x_c_262 : x_chkT yX12_ofShip cX12_ofShip x_t_X12_ofShip = true := xq_wkT 11 false xq_LKok_11 rfl (fun h => nomatch h) (by decide +kernel)
theorem x_e_262 : x_y 262 = yX12_ofShip ∧ x_b 262 = cX12_ofShip ∧ x_tab 262 = x_t_X12_ofShip := ⟨rfl, rfl, rfl⟩
theorem x_c_263 : x_chkT yX12_ofCart cX12_ofCart x_t_X12_ofCart = true := xq_wkT 11 false xq_LKok_11 rfl (fun h => nomatch h) (by decide +kernel)
theorem x_e_263 : x_y 263 = yX12_ofCart ∧ x_b 263 = cX12_ofCart ∧ x_tab 263 = x_t_X12_ofCart := ⟨rfl, rfl, rfl⟩
theorem x_c_264 : x_chkT yX12_turnTime cX12_turnTime x_t_X12_turnTime = true := xq_wkT 11 false xq_LKok_11 rfl (fun h => nomatch h) (by decide +kernel)
theorem x_e_264 : x_y 264 = yX12_turnTime ∧ x_b 264 = cX12_turnTime ∧ x_tab 264 = x_t_X12_turnTime := ⟨rfl, rfl, rfl⟩
theorem x_c_265 : x_chkT yX12_stateOf cX12_stateOf x_t_X12_stateOf = true := xq_wkT 11 false xq_LKok_11 rfl (fun h => nomatch h) (by decide +kernel)
theorem x_e_265 : x_y 265 = yX12_stateOf ∧ x_b 265 = cX12_stateOf ∧ x_tab 265 = x_t_X12_stateOf := ⟨rfl, rfl, rfl⟩
theorem x_c_266 : x_chkT yX12_leftAt cX12_leftAt x_t_X12_leftAt = true := xq_wkT 11 false xq_LKok_11 rfl (fun h => nomatch h) (by decide +kernel)
theorem x_e_266 : x_y 266 = yX12_leftAt ∧ x_b 266 = cX12_leftAt ∧ x_tab 266 = x_t_X12_leftAt := ⟨rfl, rfl, rfl⟩
theorem x_c_267 : x_chkT yX12_mayShip cX12_mayShip x_t_X12_mayShip = true := xq_wkT 11 false xq_LKok_11 rfl (fun h => nomatch h) (by decide +kernel)
theorem x_e_267 : x_y 267 = yX12_mayShip ∧ x_b 267 = cX12_mayShip ∧ x_tab 267 = x_t_X12_mayShip := ⟨rfl, rfl, rfl⟩
theorem x_c_268 : x_chkT yX12_mayCart cX12_mayCart x_t_X12_mayCart = true := xq_wkT 11 false xq_LKok_11 rfl (fun h => nomatch h) (by decide +kernel)
theorem x_e_268 : x_y 268 = yX12_mayCart ∧ x_b 268 = cX12_mayCart ∧ x_tab 268 = x_t_X12_mayCart := ⟨rfl, rfl, rfl⟩
theorem x_c_269 : x_chkT yX12_byShip cX12_byShip x_t_X12_byShip = true := xq_wkT 11 false xq_LKok_11 rfl (fun h => nomatch h) (by decide +kernel)
theorem x_e_269 : x_y 269 = yX12_byShip ∧ x_b 269 = cX12_byShip ∧ x_tab 269 = x_t_X12_byShip := ⟨rfl, rfl, rfl⟩
theorem x_c_270 : x_chkT yX12_byCart cX12_byCart x_t_X12_byCart = true := xq_wkT 11 false xq_LKok_11 rfl (fun h => nomatch h) (by decide +kernel)
theorem x_e_270 : x_y 270 = yX12_byCart ∧ x_b 270 = cX12_byCart ∧ x_tab 270 = x_t_X12_byCart := ⟨rfl, rfl, rfl⟩
theorem x_c_271 : x_chkT yX12_reckons cX12_reckons x_t_X12_reckons = true := xq_wkT 11 false xq_LKok_11 rfl (fun h => nomatch h) (by decide +kernel)
theorem x_e_271 : x_y 271 = yX12_reckons ∧ x_b 271 = cX12_reckons ∧ x_tab 271 = x_t_X12_reckons := ⟨rfl, rfl, rfl⟩
theorem x_c_272 : x_chkT yX12_leastBy cX12_leastBy x_t_X12_leastBy = true := xq_wkT 11 false xq_LKok_11 rfl (fun h => nomatch h) (by decide +kernel)
theorem x_e_272 : x_y 272 = yX12_leastBy ∧ x_b 272 = cX12_leastBy ∧ x_tab 272 = x_t_X12_leastBy := ⟨rfl, rfl, rfl⟩
theorem x_c_273 : x_chkT yX12_least cX12_least x_t_X12_least = true := xq_wkT 11 false xq_LKok_11 rfl (fun h => nomatch h) (by decide +kernel)
theorem x_e_273 : x_y 273 = yX12_least ∧ x_b 273 = cX12_least ∧ x_tab 273 = x_t_X12_least := ⟨rfl, rfl, rfl⟩
theorem x_c_274 : x_chkT yX12_acts cX12_acts x_t_X12_acts = true := xq_wkT 11 false xq_LKok_11 rfl (fun h => nomatch h) (by decide +kernel)
theorem x_e_274 : x_y 274 = yX12_acts ∧ x_b 274 = cX12_acts ∧ x_tab 274 = x_t_X12_acts := ⟨rfl, rfl, rfl⟩
theorem x_c_275 : x_chkT yX12_plans cX12_plans x_t_X12_plans = true := xq_wkT 11 false xq_LKok_11 rfl (fun h => nomatch h) (by decide +kernel)
theorem x_e_275 : x_y 275 = yX12_plans ∧ x_b 275 = cX12_plans ∧ x_tab 275 = x_t_X12_plans := ⟨rfl, rfl, rfl⟩
theorem x_mA_5 : ∀ k, 231 ≤ k → k < 276 → x_okM k := xq_mAs (n := 45) (by decide +kernel)
theorem x_cA_5 : ∀ k, 231 ≤ k → k < 276 → x_chkT (x_y k) (x_b k) (x_tab k) = true := by
  intro k h1 h2
  obtain rfl | rfl | rfl | rfl | rfl | rfl | rfl | rfl | rfl | rfl | rfl | rfl | rfl | rfl | rfl | rfl | rfl | rfl | rfl | rfl | rfl | rfl | rfl | rfl | rfl | rfl | rfl | rfl | rfl | rfl | rfl | rfl | rfl | rfl | rfl | rfl | rfl | rfl | rfl | rfl | rfl | rfl | rfl | rfl | rfl : k = 231 ∨ k = 232 ∨ k = 233 ∨ k = 234 ∨ k = 235 ∨ k = 236 ∨ k = 237 ∨ k = 238 ∨ k = 239 ∨ k = 240 ∨ k = 241 ∨ k = 242 ∨ k = 243 ∨ k = 244 ∨ k = 245 ∨ k = 246 ∨ k = 247 ∨ k = 248 ∨ k = 249 ∨ k = 250 ∨ k = 251 ∨ k = 252 ∨ k = 253 ∨ k = 254 ∨ k = 255 ∨ k = 256 ∨ k = 257 ∨ k = 258 ∨ k = 259 ∨ k = 260 ∨ k = 261 ∨ k = 262 ∨ k = 263 ∨ k = 264 ∨ k = 265 ∨ k = 266 ∨ k = 267 ∨ k = 268 ∨ k = 269 ∨ k = 270 ∨ k = 271 ∨ k = 272 ∨ k = 273 ∨ k = 274 ∨ k = 275 := by omega
  · rw [x_e_231.1, x_e_231.2.1, x_e_231.2.2]; exact x_c_231
  · rw [x_e_232.1, x_e_232.2.1, x_e_232.2.2]; exact x_c_232
  · rw [x_e_233.1, x_e_233.2.1, x_e_233.2.2]; exact x_c_233
  · rw [x_e_234.1, x_e_234.2.1, x_e_234.2.2]; exact x_c_234
  · rw [x_e_235.1, x_e_235.2.1, x_e_235.2.2]; exact x_c_235
  · rw [x_e_236.1, x_e_236.2.1, x_e_236.2.2]; exact x_c_236
  · rw [x_e_237.1, x_e_237.2.1, x_e_237.2.2]; exact x_c_237
  · rw [x_e_238.1, x_e_238.2.1, x_e_238.2.2]; exact x_c_238
  · rw [x_e_239.1, x_e_239.2.1, x_e_239.2.2]; exact x_c_239
  · rw [x_e_240.1, x_e_240.2.1, x_e_240.2.2]; exact x_c_240
  · rw [x_e_241.1, x_e_241.2.1, x_e_241.2.2]; exact x_c_241
  · rw [x_e_242.1, x_e_242.2.1, x_e_242.2.2]; exact x_c_242
  · rw [x_e_243.1, x_e_243.2.1, x_e_243.2.2]; exact x_c_243
  · rw [x_e_244.1, x_e_244.2.1, x_e_244.2.2]; exact x_c_244
  · rw [x_e_245.1, x_e_245.2.1, x_e_245.2.2]; exact x_c_245
  · rw [x_e_246.1, x_e_246.2.1, x_e_246.2.2]; exact x_c_246
  · rw [x_e_247.1, x_e_247.2.1, x_e_247.2.2]; exact x_c_247
  · rw [x_e_248.1, x_e_248.2.1, x_e_248.2.2]; exact x_c_248
  · rw [x_e_249.1, x_e_249.2.1, x_e_249.2.2]; exact x_c_249
  · rw [x_e_250.1, x_e_250.2.1, x_e_250.2.2]; exact x_c_250
  · rw [x_e_251.1, x_e_251.2.1, x_e_251.2.2]; exact x_c_251
  · rw [x_e_252.1, x_e_252.2.1, x_e_252.2.2]; exact x_c_252
  · rw [x_e_253.1, x_e_253.2.1, x_e_253.2.2]; exact x_c_253
  · rw [x_e_254.1, x_e_254.2.1, x_e_254.2.2]; exact x_c_254
  · rw [x_e_255.1, x_e_255.2.1, x_e_255.2.2]; exact x_c_255
  · rw [x_e_256.1, x_e_256.2.1, x_e_256.2.2]; exact x_c_256
  · rw [x_e_257.1, x_e_257.2.1, x_e_257.2.2]; exact x_c_257
  · rw [x_e_258.1, x_e_258.2.1, x_e_258.2.2]; exact x_c_258
  · rw [x_e_259.1, x_e_259.2.1, x_e_259.2.2]; exact x_c_259
  · rw [x_e_260.1, x_e_260.2.1, x_e_260.2.2]; exact x_c_260
  · rw [x_e_261.1, x_e_261.2.1, x_e_261.2.2]; exact x_c_261
  · rw [x_e_262.1, x_e_262.2.1, x_e_262.2.2]; exact x_c_262
  · rw [x_e_263.1, x_e_263.2.1, x_e_263.2.2]; exact x_c_263
  · rw [x_e_264.1, x_e_264.2.1, x_e_264.2.2]; exact x_c_264
  · rw [x_e_265.1, x_e_265.2.1, x_e_265.2.2]; exact x_c_265
  · rw [x_e_266.1, x_e_266.2.1, x_e_266.2.2]; exact x_c_266
  · rw [x_e_267.1, x_e_267.2.1, x_e_267.2.2]; exact x_c_267
  · rw [x_e_268.1, x_e_268.2.1, x_e_268.2.2]; exact x_c_268
  · rw [x_e_269.1, x_e_269.2.1, x_e_269.2.2]; exact x_c_269
  · rw [x_e_270.1, x_e_270.2.1, x_e_270.2.2]; exact x_c_270
  · rw [x_e_271.1, x_e_271.2.1, x_e_271.2.2]; exact x_c_271
  · rw [x_e_272.1, x_e_272.2.1, x_e_272.2.2]; exact x_c_272
  · rw [x_e_273.1, x_e_273.2.1, x_e_273.2.2]; exact x_c_273
  · rw [x_e_274.1, x_e_274.2.1, x_e_274.2.2]; exact x_c_274
  · rw [x_e_275.1, x_e_275.2.1, x_e_275.2.2]; exact x_c_275
