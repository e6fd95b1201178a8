/-! ===== printed by gen.py: the tables are checked, 7 ===== -/
theorem x_c_307 : x_chkT yX12_waits cX12_waits x_t_X12_waits = true := xq_wkT 11 false xq_LKok_11 rfl (fun h => nomatch h) (by decide +kernel)
theorem x_e_307 : x_y 307 = yX12_waits ∧ x_b 307 = cX12_waits ∧ x_tab 307 = x_t_X12_waits := ⟨rfl, rfl, rfl⟩
theorem x_c_308 : x_chkT yX12_copies cX12_copies x_t_X12_copies = true := xq_wkT 11 false xq_LKok_11 rfl (fun h => nomatch h) (by decide +kernel)
theorem x_e_308 : x_y 308 = yX12_copies ∧ x_b 308 = cX12_copies ∧ x_tab 308 = x_t_X12_copies := ⟨rfl, rfl, rfl⟩
theorem x_c_309 : x_chkT yX12_mark cX12_mark x_t_X12_mark = true := xq_wkT 11 false xq_LKok_11 rfl (fun h => nomatch h) (by decide +kernel)
theorem x_e_309 : x_y 309 = yX12_mark ∧ x_b 309 = cX12_mark ∧ x_tab 309 = x_t_X12_mark := ⟨rfl, rfl, rfl⟩
theorem x_c_310 : x_chkT yX12_back cX12_back x_t_X12_back = true := xq_wkT 11 false xq_LKok_11 rfl (fun h => nomatch h) (by decide +kernel)
theorem x_e_310 : x_y 310 = yX12_back ∧ x_b 310 = cX12_back ∧ x_tab 310 = x_t_X12_back := ⟨rfl, rfl, rfl⟩
theorem x_c_311 : x_chkT yJ6_numberOfLeadingZeros_0f7a4 cJ6_numberOfLeadingZeros_0f7a4 x_t_J6_numberOfLeadingZeros_0f7a4 = true := xq_wkT 12 false xq_LKok_12 rfl (fun h => nomatch h) (by decide +kernel)
theorem x_e_311 : x_y 311 = yJ6_numberOfLeadingZeros_0f7a4 ∧ x_b 311 = cJ6_numberOfLeadingZeros_0f7a4 ∧ x_tab 311 = x_t_J6_numberOfLeadingZeros_0f7a4 := ⟨rfl, rfl, rfl⟩
theorem x_c_312 : x_chkT yJ6_numberOfTrailingZeros_0f7a4 cJ6_numberOfTrailingZeros_0f7a4 x_t_J6_numberOfTrailingZeros_0f7a4 = true := xq_wkT 12 false xq_LKok_12 rfl (fun h => nomatch h) (by decide +kernel)
theorem x_e_312 : x_y 312 = yJ6_numberOfTrailingZeros_0f7a4 ∧ x_b 312 = cJ6_numberOfTrailingZeros_0f7a4 ∧ x_tab 312 = x_t_J6_numberOfTrailingZeros_0f7a4 := ⟨rfl, rfl, rfl⟩
theorem x_c_313 : x_chkT yJ6_bitCount_0f7a4 cJ6_bitCount_0f7a4 x_t_J6_bitCount_0f7a4 = true := xq_wkT 12 false xq_LKok_12 rfl (fun h => nomatch h) (by decide +kernel)
theorem x_e_313 : x_y 313 = yJ6_bitCount_0f7a4 ∧ x_b 313 = cJ6_bitCount_0f7a4 ∧ x_tab 313 = x_t_J6_bitCount_0f7a4 := ⟨rfl, rfl, rfl⟩
theorem x_c_314 : x_chkT yJ13_numberOfLeadingZeros_95d88 cJ13_numberOfLeadingZeros_95d88 x_t_J13_numberOfLeadingZeros_95d88 = true := xq_wkT 13 false xq_LKok_13 rfl (fun h => nomatch h) (by decide +kernel)
theorem x_e_314 : x_y 314 = yJ13_numberOfLeadingZeros_95d88 ∧ x_b 314 = cJ13_numberOfLeadingZeros_95d88 ∧ x_tab 314 = x_t_J13_numberOfLeadingZeros_95d88 := ⟨rfl, rfl, rfl⟩
theorem x_c_315 : x_chkT yJ13_numberOfTrailingZeros_95d88 cJ13_numberOfTrailingZeros_95d88 x_t_J13_numberOfTrailingZeros_95d88 = true := xq_wkT 13 false xq_LKok_13 rfl (fun h => nomatch h) (by decide +kernel)
theorem x_e_315 : x_y 315 = yJ13_numberOfTrailingZeros_95d88 ∧ x_b 315 = cJ13_numberOfTrailingZeros_95d88 ∧ x_tab 315 = x_t_J13_numberOfTrailingZeros_95d88 := ⟨rfl, rfl, rfl⟩
theorem x_c_316 : x_chkT yJ13_bitCount_95d88 cJ13_bitCount_95d88 x_t_J13_bitCount_95d88 = true := xq_wkT 13 false xq_LKok_13 rfl (fun h => nomatch h) (by decide +kernel)
theorem x_e_316 : x_y 316 = yJ13_bitCount_95d88 ∧ x_b 316 = cJ13_bitCount_95d88 ∧ x_tab 316 = x_t_J13_bitCount_95d88 := ⟨rfl, rfl, rfl⟩
theorem x_c_317 : x_chkT yJ0_length_8abf5 cJ0_length_8abf5 x_t_J0_length_8abf5 = true := xq_wkT 14 false xq_LKok_14 rfl (fun h => nomatch h) (by decide +kernel)
theorem x_e_317 : x_y 317 = yJ0_length_8abf5 ∧ x_b 317 = cJ0_length_8abf5 ∧ x_tab 317 = x_t_J0_length_8abf5 := ⟨rfl, rfl, rfl⟩
theorem x_c_318 : x_chkT yJ0_charAt_5068e cJ0_charAt_5068e x_t_J0_charAt_5068e = true := xq_wkT 14 false xq_LKok_14 rfl (fun h => nomatch h) (by decide +kernel)
theorem x_e_318 : x_y 318 = yJ0_charAt_5068e ∧ x_b 318 = cJ0_charAt_5068e ∧ x_tab 318 = x_t_J0_charAt_5068e := ⟨rfl, rfl, rfl⟩
theorem x_c_319 : x_chkT yJ0_coder_7d493 cJ0_coder_7d493 x_t_J0_coder_7d493 = true := xq_wkT 14 false xq_LKok_14 rfl (fun h => nomatch h) (by decide +kernel)
theorem x_e_319 : x_y 319 = yJ0_coder_7d493 ∧ x_b 319 = cJ0_coder_7d493 ∧ x_tab 319 = x_t_J0_coder_7d493 := ⟨rfl, rfl, rfl⟩
theorem x_c_320 : x_chkT yJ0_isLatin1_aae02 cJ0_isLatin1_aae02 x_t_J0_isLatin1_aae02 = true := xq_wkT 14 false xq_LKok_14 rfl (fun h => nomatch h) (by decide +kernel)
theorem x_e_320 : x_y 320 = yJ0_isLatin1_aae02 ∧ x_b 320 = cJ0_isLatin1_aae02 ∧ x_tab 320 = x_t_J0_isLatin1_aae02 := ⟨rfl, rfl, rfl⟩
theorem x_c_321 : x_chkT yJ0_checkIndex_df160 cJ0_checkIndex_df160 x_t_J0_checkIndex_df160 = true := xq_wkT 14 false xq_LKok_14 rfl (fun h => nomatch h) (by decide +kernel)
theorem x_e_321 : x_y 321 = yJ0_checkIndex_df160 ∧ x_b 321 = cJ0_checkIndex_df160 ∧ x_tab 321 = x_t_J0_checkIndex_df160 := ⟨rfl, rfl, rfl⟩
theorem x_c_322 : x_chkT yJ1_charAt_3b067 cJ1_charAt_3b067 x_t_J1_charAt_3b067 = true := xq_wkT 15 false xq_LKok_15 rfl (fun h => nomatch h) (by decide +kernel)
theorem x_e_322 : x_y 322 = yJ1_charAt_3b067 ∧ x_b 322 = cJ1_charAt_3b067 ∧ x_tab 322 = x_t_J1_charAt_3b067 := ⟨rfl, rfl, rfl⟩
theorem x_c_323 : x_chkT yJ2_getChar_3b067 cJ2_getChar_3b067 x_t_J2_getChar_3b067 = true := xq_wkT 16 false xq_LKok_16 rfl (fun h => nomatch h) (by decide +kernel)
theorem x_e_323 : x_y 323 = yJ2_getChar_3b067 ∧ x_b 323 = cJ2_getChar_3b067 ∧ x_tab 323 = x_t_J2_getChar_3b067 := ⟨rfl, rfl, rfl⟩
theorem x_c_324 : x_chkT yJ2_length_9d52b cJ2_length_9d52b x_t_J2_length_9d52b = true := xq_wkT 16 false xq_LKok_16 rfl (fun h => nomatch h) (by decide +kernel)
theorem x_e_324 : x_y 324 = yJ2_length_9d52b ∧ x_b 324 = cJ2_length_9d52b ∧ x_tab 324 = x_t_J2_length_9d52b := ⟨rfl, rfl, rfl⟩
theorem x_c_325 : x_chkT yJ2_charAt_3b067 cJ2_charAt_3b067 x_t_J2_charAt_3b067 = true := xq_wkT 16 false xq_LKok_16 rfl (fun h => nomatch h) (by decide +kernel)
theorem x_e_325 : x_y 325 = yJ2_charAt_3b067 ∧ x_b 325 = cJ2_charAt_3b067 ∧ x_tab 325 = x_t_J2_charAt_3b067 := ⟨rfl, rfl, rfl⟩
theorem x_c_326 : x_chkT yJ2_checkIndex_2214a cJ2_checkIndex_2214a x_t_J2_checkIndex_2214a = true := xq_wkT 16 false xq_LKok_16 rfl (fun h => nomatch h) (by decide +kernel)
theorem x_e_326 : x_y 326 = yJ2_checkIndex_2214a ∧ x_b 326 = cJ2_checkIndex_2214a ∧ x_tab 326 = x_t_J2_checkIndex_2214a := ⟨rfl, rfl, rfl⟩
theorem x_c_327 : x_chkT yJ3_checkIndex_8e157 cJ3_checkIndex_8e157 x_t_J3_checkIndex_8e157 = true := xq_wkT 17 false xq_LKok_17 rfl (fun h => nomatch h) (by decide +kernel)
theorem x_e_327 : x_y 327 = yJ3_checkIndex_8e157 ∧ x_b 327 = cJ3_checkIndex_8e157 ∧ x_tab 327 = x_t_J3_checkIndex_8e157 := ⟨rfl, rfl, rfl⟩
theorem x_c_328 : x_chkT yL_law code x_t_L_law = true := xq_wkT 18 false xq_LKok_18 rfl (fun h => nomatch h) (by decide +kernel)
theorem x_e_328 : x_y 328 = yL_law ∧ x_b 328 = code ∧ x_tab 328 = x_t_L_law := ⟨rfl, rfl, rfl⟩
theorem x_mA_7 : ∀ k, 307 ≤ k → k < 328 → x_okM k := xq_mAs (n := 21) (by decide +kernel)
theorem x_cA_7 : ∀ k, 307 ≤ k → k < 329 → x_chkT (x_y k) (x_b k) (x_tab k) = true := by
  intro k h1 h2
  obtain rfl | rfl | rfl | rfl | rfl | rfl | rfl | rfl | rfl | rfl | rfl | rfl | rfl | rfl | rfl | rfl | rfl | rfl | rfl | rfl | rfl | rfl : k = 307 ∨ k = 308 ∨ k = 309 ∨ k = 310 ∨ k = 311 ∨ k = 312 ∨ k = 313 ∨ k = 314 ∨ k = 315 ∨ k = 316 ∨ k = 317 ∨ k = 318 ∨ k = 319 ∨ k = 320 ∨ k = 321 ∨ k = 322 ∨ k = 323 ∨ k = 324 ∨ k = 325 ∨ k = 326 ∨ k = 327 ∨ k = 328 := by omega
  · rw [x_e_307.1, x_e_307.2.1, x_e_307.2.2]; exact x_c_307
  · rw [x_e_308.1, x_e_308.2.1, x_e_308.2.2]; exact x_c_308
  · rw [x_e_309.1, x_e_309.2.1, x_e_309.2.2]; exact x_c_309
  · rw [x_e_310.1, x_e_310.2.1, x_e_310.2.2]; exact x_c_310
  · rw [x_e_311.1, x_e_311.2.1, x_e_311.2.2]; exact x_c_311
  · rw [x_e_312.1, x_e_312.2.1, x_e_312.2.2]; exact x_c_312
  · rw [x_e_313.1, x_e_313.2.1, x_e_313.2.2]; exact x_c_313
  · rw [x_e_314.1, x_e_314.2.1, x_e_314.2.2]; exact x_c_314
  · rw [x_e_315.1, x_e_315.2.1, x_e_315.2.2]; exact x_c_315
  · rw [x_e_316.1, x_e_316.2.1, x_e_316.2.2]; exact x_c_316
  · rw [x_e_317.1, x_e_317.2.1, x_e_317.2.2]; exact x_c_317
  · rw [x_e_318.1, x_e_318.2.1, x_e_318.2.2]; exact x_c_318
  · rw [x_e_319.1, x_e_319.2.1, x_e_319.2.2]; exact x_c_319
  · rw [x_e_320.1, x_e_320.2.1, x_e_320.2.2]; exact x_c_320
  · rw [x_e_321.1, x_e_321.2.1, x_e_321.2.2]; exact x_c_321
  · rw [x_e_322.1, x_e_322.2.1, x_e_322.2.2]; exact x_c_322
  · rw [x_e_323.1, x_e_323.2.1, x_e_323.2.2]; exact x_c_323
  · rw [x_e_324.1, x_e_324.2.1, x_e_324.2.2]; exact x_c_324
  · rw [x_e_325.1, x_e_325.2.1, x_e_325.2.2]; exact x_c_325
  · rw [x_e_326.1, x_e_326.2.1, x_e_326.2.2]; exact x_c_326
  · rw [x_e_327.1, x_e_327.2.1, x_e_327.2.2]; exact x_c_327
  · rw [x_e_328.1, x_e_328.2.1, x_e_328.2.2]; exact x_c_328
