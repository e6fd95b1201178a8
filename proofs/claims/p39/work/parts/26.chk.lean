/-! ===== printed by gen.py: the tables are checked, 6 ===== -/
theorem x_c_276 : x_chkT yX12_plan cX12_plan x_t_X12_plan = true := xq_wkT 11 false xq_LKok_11 rfl (fun h => nomatch h) (by decide +kernel)
theorem x_e_276 : x_y 276 = yX12_plan ∧ x_b 276 = cX12_plan ∧ x_tab 276 = x_t_X12_plan := ⟨rfl, rfl, rfl⟩
theorem x_c_277 : x_chkT yX12_planAt cX12_planAt x_t_X12_planAt = true := xq_wkT 11 false xq_LKok_11 rfl (fun h => nomatch h) (by decide +kernel)
theorem x_e_277 : x_y 277 = yX12_planAt ∧ x_b 277 = cX12_planAt ∧ x_tab 277 = x_t_X12_planAt := ⟨rfl, rfl, rfl⟩
theorem x_c_278 : x_chkT yX12_worth cX12_worth x_t_X12_worth = true := xq_wkT 11 false xq_LKok_11 rfl (fun h => nomatch h) (by decide +kernel)
theorem x_e_278 : x_y 278 = yX12_worth ∧ x_b 278 = cX12_worth ∧ x_tab 278 = x_t_X12_worth := ⟨rfl, rfl, rfl⟩
theorem x_c_279 : x_chkT yX12_quicker cX12_quicker x_t_X12_quicker = true := xq_wkT 11 false xq_LKok_11 rfl (fun h => nomatch h) (by decide +kernel)
theorem x_e_279 : x_y 279 = yX12_quicker ∧ x_b 279 = cX12_quicker ∧ x_tab 279 = x_t_X12_quicker := ⟨rfl, rfl, rfl⟩
theorem x_c_280 : x_chkT yX12_away cX12_away x_t_X12_away = true := xq_wkT 11 false xq_LKok_11 rfl (fun h => nomatch h) (by decide +kernel)
theorem x_e_280 : x_y 280 = yX12_away ∧ x_b 280 = cX12_away ∧ x_tab 280 = x_t_X12_away := ⟨rfl, rfl, rfl⟩
theorem x_c_281 : x_chkT yX12_later cX12_later x_t_X12_later = true := xq_wkT 11 false xq_LKok_11 rfl (fun h => nomatch h) (by decide +kernel)
theorem x_e_281 : x_y 281 = yX12_later ∧ x_b 281 = cX12_later ∧ x_tab 281 = x_t_X12_later := ⟨rfl, rfl, rfl⟩
theorem x_c_282 : x_chkT yX12_laterBy cX12_laterBy x_t_X12_laterBy = true := xq_wkT 11 false xq_LKok_11 rfl (fun h => nomatch h) (by decide +kernel)
theorem x_e_282 : x_y 282 = yX12_laterBy ∧ x_b 282 = cX12_laterBy ∧ x_tab 282 = x_t_X12_laterBy := ⟨rfl, rfl, rfl⟩
theorem x_c_283 : x_chkT yX12_slack cX12_slack x_t_X12_slack = true := xq_wkT 11 false xq_LKok_11 rfl (fun h => nomatch h) (by decide +kernel)
theorem x_e_283 : x_y 283 = yX12_slack ∧ x_b 283 = cX12_slack ∧ x_tab 283 = x_t_X12_slack := ⟨rfl, rfl, rfl⟩
theorem x_c_284 : x_chkT yX12_without cX12_without x_t_X12_without = true := xq_wkT 11 false xq_LKok_11 rfl (fun h => nomatch h) (by decide +kernel)
theorem x_e_284 : x_y 284 = yX12_without ∧ x_b 284 = cX12_without ∧ x_tab 284 = x_t_X12_without := ⟨rfl, rfl, rfl⟩
theorem x_c_285 : x_chkT yX12_cameBy cX12_cameBy x_t_X12_cameBy = true := xq_wkT 11 false xq_LKok_11 rfl (fun h => nomatch h) (by decide +kernel)
theorem x_e_285 : x_y 285 = yX12_cameBy ∧ x_b 285 = cX12_cameBy ∧ x_tab 285 = x_t_X12_cameBy := ⟨rfl, rfl, rfl⟩
theorem x_c_286 : x_chkT yX12_costsBy cX12_costsBy x_t_X12_costsBy = true := xq_wkT 11 false xq_LKok_11 rfl (fun h => nomatch h) (by decide +kernel)
theorem x_e_286 : x_y 286 = yX12_costsBy ∧ x_b 286 = cX12_costsBy ∧ x_tab 286 = x_t_X12_costsBy := ⟨rfl, rfl, rfl⟩
theorem x_c_287 : x_chkT yX12_dearest cX12_dearest x_t_X12_dearest = true := xq_wkT 11 false xq_LKok_11 rfl (fun h => nomatch h) (by decide +kernel)
theorem x_e_287 : x_y 287 = yX12_dearest ∧ x_b 287 = cX12_dearest ∧ x_tab 287 = x_t_X12_dearest := ⟨rfl, rfl, rfl⟩
theorem x_c_288 : x_chkT yX12_opened cX12_opened x_t_X12_opened = true := xq_wkT 11 false xq_LKok_11 rfl (fun h => nomatch h) (by decide +kernel)
theorem x_e_288 : x_y 288 = yX12_opened ∧ x_b 288 = cX12_opened ∧ x_tab 288 = x_t_X12_opened := ⟨rfl, rfl, rfl⟩
theorem x_c_289 : x_chkT yX12_busiest cX12_busiest x_t_X12_busiest = true := xq_wkT 11 false xq_LKok_11 rfl (fun h => nomatch h) (by decide +kernel)
theorem x_e_289 : x_y 289 = yX12_busiest ∧ x_b 289 = cX12_busiest ∧ x_tab 289 = x_t_X12_busiest := ⟨rfl, rfl, rfl⟩
theorem x_c_290 : x_chkT yX12_draw cX12_draw x_t_X12_draw = true := xq_wkT 11 false xq_LKok_11 rfl (fun h => nomatch h) (by decide +kernel)
theorem x_e_290 : x_y 290 = yX12_draw ∧ x_b 290 = cX12_draw ∧ x_tab 290 = x_t_X12_draw := ⟨rfl, rfl, rfl⟩
theorem x_c_291 : x_chkT yX12_waitingShips cX12_waitingShips x_t_X12_waitingShips = true := xq_wkT 11 false xq_LKok_11 rfl (fun h => nomatch h) (by decide +kernel)
theorem x_e_291 : x_y 291 = yX12_waitingShips ∧ x_b 291 = cX12_waitingShips ∧ x_tab 291 = x_t_X12_waitingShips := ⟨rfl, rfl, rfl⟩
theorem x_c_292 : x_chkT yX12_waitingCarts cX12_waitingCarts x_t_X12_waitingCarts = true := xq_wkT 11 false xq_LKok_11 rfl (fun h => nomatch h) (by decide +kernel)
theorem x_e_292 : x_y 292 = yX12_waitingCarts ∧ x_b 292 = cX12_waitingCarts ∧ x_tab 292 = x_t_X12_waitingCarts := ⟨rfl, rfl, rfl⟩
theorem x_c_293 : x_chkT yX12_nextIn cX12_nextIn x_t_X12_nextIn = true := xq_wkT 11 false xq_LKok_11 rfl (fun h => nomatch h) (by decide +kernel)
theorem x_e_293 : x_y 293 = yX12_nextIn ∧ x_b 293 = cX12_nextIn ∧ x_tab 293 = x_t_X12_nextIn := ⟨rfl, rfl, rfl⟩
theorem x_c_294 : x_chkT yX12_asked cX12_asked x_t_X12_asked = true := xq_wkT 11 false xq_LKok_11 rfl (fun h => nomatch h) (by decide +kernel)
theorem x_e_294 : x_y 294 = yX12_asked ∧ x_b 294 = cX12_asked ∧ x_tab 294 = x_t_X12_asked := ⟨rfl, rfl, rfl⟩
theorem x_c_295 : x_chkT yX12_holds cX12_holds x_t_X12_holds = true := xq_wkT 11 false xq_LKok_11 rfl (fun h => nomatch h) (by decide +kernel)
theorem x_e_295 : x_y 295 = yX12_holds ∧ x_b 295 = cX12_holds ∧ x_tab 295 = x_t_X12_holds := ⟨rfl, rfl, rfl⟩
theorem x_c_296 : x_chkT yX12_actNow cX12_actNow x_t_X12_actNow = true := xq_wkT 11 false xq_LKok_11 rfl (fun h => nomatch h) (by decide +kernel)
theorem x_e_296 : x_y 296 = yX12_actNow ∧ x_b 296 = cX12_actNow ∧ x_tab 296 = x_t_X12_actNow := ⟨rfl, rfl, rfl⟩
theorem x_c_297 : x_chkT yX12_passesOver cX12_passesOver x_t_X12_passesOver = true := xq_wkT 11 false xq_LKok_11 rfl (fun h => nomatch h) (by decide +kernel)
theorem x_e_297 : x_y 297 = yX12_passesOver ∧ x_b 297 = cX12_passesOver ∧ x_tab 297 = x_t_X12_passesOver := ⟨rfl, rfl, rfl⟩
theorem x_c_298 : x_chkT yX12_isBusy cX12_isBusy x_t_X12_isBusy = true := xq_wkT 11 false xq_LKok_11 rfl (fun h => nomatch h) (by decide +kernel)
theorem x_e_298 : x_y 298 = yX12_isBusy ∧ x_b 298 = cX12_isBusy ∧ x_tab 298 = x_t_X12_isBusy := ⟨rfl, rfl, rfl⟩
theorem x_c_299 : x_chkT yX12_strikes cX12_strikes x_t_X12_strikes = true := xq_wkT 11 false xq_LKok_11 rfl (fun h => nomatch h) (by decide +kernel)
theorem x_e_299 : x_y 299 = yX12_strikes ∧ x_b 299 = cX12_strikes ∧ x_tab 299 = x_t_X12_strikes := ⟨rfl, rfl, rfl⟩
theorem x_c_300 : x_chkT yX12_minuteGoes cX12_minuteGoes x_t_X12_minuteGoes = true := xq_wkT 11 false xq_LKok_11 rfl (fun h => nomatch h) (by decide +kernel)
theorem x_e_300 : x_y 300 = yX12_minuteGoes ∧ x_b 300 = cX12_minuteGoes ∧ x_tab 300 = x_t_X12_minuteGoes := ⟨rfl, rfl, rfl⟩
theorem x_c_301 : x_chkT yX12_leftOver cX12_leftOver x_t_X12_leftOver = true := xq_wkT 11 false xq_LKok_11 rfl (fun h => nomatch h) (by decide +kernel)
theorem x_e_301 : x_y 301 = yX12_leftOver ∧ x_b 301 = cX12_leftOver ∧ x_tab 301 = x_t_X12_leftOver := ⟨rfl, rfl, rfl⟩
theorem x_c_302 : x_chkT yX12_keeps cX12_keeps x_t_X12_keeps = true := xq_wkT 11 false xq_LKok_11 rfl (fun h => nomatch h) (by decide +kernel)
theorem x_e_302 : x_y 302 = yX12_keeps ∧ x_b 302 = cX12_keeps ∧ x_tab 302 = x_t_X12_keeps := ⟨rfl, rfl, rfl⟩
theorem x_c_303 : x_chkT yX12_keep cX12_keep x_t_X12_keep = true := xq_wkT 11 false xq_LKok_11 rfl (fun h => nomatch h) (by decide +kernel)
theorem x_e_303 : x_y 303 = yX12_keep ∧ x_b 303 = cX12_keep ∧ x_tab 303 = x_t_X12_keep := ⟨rfl, rfl, rfl⟩
theorem x_c_304 : x_chkT yX12_kept cX12_kept x_t_X12_kept = true := xq_wkT 11 false xq_LKok_11 rfl (fun h => nomatch h) (by decide +kernel)
theorem x_e_304 : x_y 304 = yX12_kept ∧ x_b 304 = cX12_kept ∧ x_tab 304 = x_t_X12_kept := ⟨rfl, rfl, rfl⟩
theorem x_c_305 : x_chkT yX12_areSeeds cX12_areSeeds x_t_X12_areSeeds = true := xq_wkT 11 false xq_LKok_11 rfl (fun h => nomatch h) (by decide +kernel)
theorem x_e_305 : x_y 305 = yX12_areSeeds ∧ x_b 305 = cX12_areSeeds ∧ x_tab 305 = x_t_X12_areSeeds := ⟨rfl, rfl, rfl⟩
theorem x_c_306 : x_chkT yX12_odds cX12_odds x_t_X12_odds = true := xq_wkT 11 false xq_LKok_11 rfl (fun h => nomatch h) (by decide +kernel)
theorem x_e_306 : x_y 306 = yX12_odds ∧ x_b 306 = cX12_odds ∧ x_tab 306 = x_t_X12_odds := ⟨rfl, rfl, rfl⟩
theorem x_mA_6 : ∀ k, 276 ≤ k → k < 307 → x_okM k := xq_mAs (n := 31) (by decide +kernel)
theorem x_cA_6 : ∀ k, 276 ≤ k → k < 307 → x_chkT (x_y k) (x_b k) (x_tab k) = true := by
  intro k h1 h2
  obtain rfl | rfl | rfl | rfl | rfl | rfl | rfl | rfl | rfl | rfl | rfl | rfl | rfl | rfl | rfl | rfl | rfl | rfl | rfl | rfl | rfl | rfl | rfl | rfl | rfl | rfl | rfl | rfl | rfl | rfl | rfl : k = 276 ∨ k = 277 ∨ k = 278 ∨ k = 279 ∨ k = 280 ∨ k = 281 ∨ k = 282 ∨ k = 283 ∨ k = 284 ∨ k = 285 ∨ k = 286 ∨ k = 287 ∨ k = 288 ∨ k = 289 ∨ k = 290 ∨ k = 291 ∨ k = 292 ∨ k = 293 ∨ k = 294 ∨ k = 295 ∨ k = 296 ∨ k = 297 ∨ k = 298 ∨ k = 299 ∨ k = 300 ∨ k = 301 ∨ k = 302 ∨ k = 303 ∨ k = 304 ∨ k = 305 ∨ k = 306 := by omega
  · rw [x_e_276.1, x_e_276.2.1, x_e_276.2.2]; exact x_c_276
  · rw [x_e_277.1, x_e_277.2.1, x_e_277.2.2]; exact x_c_277
  · rw [x_e_278.1, x_e_278.2.1, x_e_278.2.2]; exact x_c_278
  · rw [x_e_279.1, x_e_279.2.1, x_e_279.2.2]; exact x_c_279
  · rw [x_e_280.1, x_e_280.2.1, x_e_280.2.2]; exact x_c_280
  · rw [x_e_281.1, x_e_281.2.1, x_e_281.2.2]; exact x_c_281
  · rw [x_e_282.1, x_e_282.2.1, x_e_282.2.2]; exact x_c_282
  · rw [x_e_283.1, x_e_283.2.1, x_e_283.2.2]; exact x_c_283
  · rw [x_e_284.1, x_e_284.2.1, x_e_284.2.2]; exact x_c_284
  · rw [x_e_285.1, x_e_285.2.1, x_e_285.2.2]; exact x_c_285
  · rw [x_e_286.1, x_e_286.2.1, x_e_286.2.2]; exact x_c_286
  · rw [x_e_287.1, x_e_287.2.1, x_e_287.2.2]; exact x_c_287
  · rw [x_e_288.1, x_e_288.2.1, x_e_288.2.2]; exact x_c_288
  · rw [x_e_289.1, x_e_289.2.1, x_e_289.2.2]; exact x_c_289
  · rw [x_e_290.1, x_e_290.2.1, x_e_290.2.2]; exact x_c_290
  · rw [x_e_291.1, x_e_291.2.1, x_e_291.2.2]; exact x_c_291
  · rw [x_e_292.1, x_e_292.2.1, x_e_292.2.2]; exact x_c_292
  · rw [x_e_293.1, x_e_293.2.1, x_e_293.2.2]; exact x_c_293
  · rw [x_e_294.1, x_e_294.2.1, x_e_294.2.2]; exact x_c_294
  · rw [x_e_295.1, x_e_295.2.1, x_e_295.2.2]; exact x_c_295
  · rw [x_e_296.1, x_e_296.2.1, x_e_296.2.2]; exact x_c_296
  · rw [x_e_297.1, x_e_297.2.1, x_e_297.2.2]; exact x_c_297
  · rw [x_e_298.1, x_e_298.2.1, x_e_298.2.2]; exact x_c_298
  · rw [x_e_299.1, x_e_299.2.1, x_e_299.2.2]; exact x_c_299
  · rw [x_e_300.1, x_e_300.2.1, x_e_300.2.2]; exact x_c_300
  · rw [x_e_301.1, x_e_301.2.1, x_e_301.2.2]; exact x_c_301
  · rw [x_e_302.1, x_e_302.2.1, x_e_302.2.2]; exact x_c_302
  · rw [x_e_303.1, x_e_303.2.1, x_e_303.2.2]; exact x_c_303
  · rw [x_e_304.1, x_e_304.2.1, x_e_304.2.2]; exact x_c_304
  · rw [x_e_305.1, x_e_305.2.1, x_e_305.2.2]; exact x_c_305
  · rw [x_e_306.1, x_e_306.2.1, x_e_306.2.2]; exact x_c_306
