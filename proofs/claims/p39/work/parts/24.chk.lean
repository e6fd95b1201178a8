/-! ===== printed by gen.py: the tables are checked, 4 ===== -/
theorem x_c_192 : x_chkT yX12_isSmall cX12_isSmall x_t_X12_isSmall = true := xq_wkT 11 false xq_LKok_11 rfl (fun h => nomatch h) (by decide +kernel)
theorem x_e_192 : x_y 192 = yX12_isSmall ∧ x_b 192 = cX12_isSmall ∧ x_tab 192 = x_t_X12_isSmall := ⟨rfl, rfl, rfl⟩
theorem x_c_193 : x_chkT yX12_isDigit cX12_isDigit x_t_X12_isDigit = true := xq_wkT 11 false xq_LKok_11 rfl (fun h => nomatch h) (by decide +kernel)
theorem x_e_193 : x_y 193 = yX12_isDigit ∧ x_b 193 = cX12_isDigit ∧ x_tab 193 = x_t_X12_isDigit := ⟨rfl, rfl, rfl⟩
theorem x_c_194 : x_chkT yX12_ahead cX12_ahead x_t_X12_ahead = true := xq_wkT 11 false xq_LKok_11 rfl (fun h => nomatch h) (by decide +kernel)
theorem x_e_194 : x_y 194 = yX12_ahead ∧ x_b 194 = cX12_ahead ∧ x_tab 194 = x_t_X12_ahead := ⟨rfl, rfl, rfl⟩
theorem x_c_195 : x_chkT yX12_isSign cX12_isSign x_t_X12_isSign = true := xq_wkT 11 false xq_LKok_11 rfl (fun h => nomatch h) (by decide +kernel)
theorem x_e_195 : x_y 195 = yX12_isSign ∧ x_b 195 = cX12_isSign ∧ x_tab 195 = x_t_X12_isSign := ⟨rfl, rfl, rfl⟩
theorem x_c_196 : x_chkT yX12_inWords cX12_inWords x_t_X12_inWords = true := xq_wkT 11 false xq_LKok_11 rfl (fun h => nomatch h) (by decide +kernel)
theorem x_e_196 : x_y 196 = yX12_inWords ∧ x_b 196 = cX12_inWords ∧ x_tab 196 = x_t_X12_inWords := ⟨rfl, rfl, rfl⟩
theorem x_c_197 : x_chkT yX12_fails cX12_fails x_t_X12_fails = true := xq_wkT 11 false xq_LKok_11 rfl (fun h => nomatch h) (by decide +kernel)
theorem x_e_197 : x_y 197 = yX12_fails ∧ x_b 197 = cX12_fails ∧ x_tab 197 = x_t_X12_fails := ⟨rfl, rfl, rfl⟩
theorem x_c_198 : x_chkT yX12_begins cX12_begins x_t_X12_begins = true := xq_wkT 11 false xq_LKok_11 rfl (fun h => nomatch h) (by decide +kernel)
theorem x_e_198 : x_y 198 = yX12_begins ∧ x_b 198 = cX12_begins ∧ x_tab 198 = x_t_X12_begins := ⟨rfl, rfl, rfl⟩
theorem x_c_199 : x_chkT yX12_wantSign cX12_wantSign x_t_X12_wantSign = true := xq_wkT 11 false xq_LKok_11 rfl (fun h => nomatch h) (by decide +kernel)
theorem x_e_199 : x_y 199 = yX12_wantSign ∧ x_b 199 = cX12_wantSign ∧ x_tab 199 = x_t_X12_wantSign := ⟨rfl, rfl, rfl⟩
theorem x_c_200 : x_chkT yX12_wantWord cX12_wantWord x_t_X12_wantWord = true := xq_wkT 11 false xq_LKok_11 rfl (fun h => nomatch h) (by decide +kernel)
theorem x_e_200 : x_y 200 = yX12_wantWord ∧ x_b 200 = cX12_wantWord ∧ x_tab 200 = x_t_X12_wantWord := ⟨rfl, rfl, rfl⟩
theorem x_c_201 : x_chkT yX12_number cX12_number x_t_X12_number = true := xq_wkT 11 false xq_LKok_11 rfl (fun h => nomatch h) (by decide +kernel)
theorem x_e_201 : x_y 201 = yX12_number ∧ x_b 201 = cX12_number ∧ x_tab 201 = x_t_X12_number := ⟨rfl, rfl, rfl⟩
theorem x_c_202 : x_chkT yX12_isName cX12_isName x_t_X12_isName = true := xq_wkT 11 false xq_LKok_11 rfl (fun h => nomatch h) (by decide +kernel)
theorem x_e_202 : x_y 202 = yX12_isName ∧ x_b 202 = cX12_isName ∧ x_tab 202 = x_t_X12_isName := ⟨rfl, rfl, rfl⟩
theorem x_c_203 : x_chkT yX12_nameHere cX12_nameHere x_t_X12_nameHere = true := xq_wkT 11 false xq_LKok_11 rfl (fun h => nomatch h) (by decide +kernel)
theorem x_e_203 : x_y 203 = yX12_nameHere ∧ x_b 203 = cX12_nameHere ∧ x_tab 203 = x_t_X12_nameHere := ⟨rfl, rfl, rfl⟩
theorem x_c_204 : x_chkT yX12_findHere cX12_findHere x_t_X12_findHere = true := xq_wkT 11 false xq_LKok_11 rfl (fun h => nomatch h) (by decide +kernel)
theorem x_e_204 : x_y 204 = yX12_findHere ∧ x_b 204 = cX12_findHere ∧ x_tab 204 = x_t_X12_findHere := ⟨rfl, rfl, rfl⟩
theorem x_c_205 : x_chkT yX12_fault cX12_fault x_t_X12_fault = true := xq_wkT 11 false xq_LKok_11 rfl (fun h => nomatch h) (by decide +kernel)
theorem x_e_205 : x_y 205 = yX12_fault ∧ x_b 205 = cX12_fault ∧ x_tab 205 = x_t_X12_fault := ⟨rfl, rfl, rfl⟩
theorem x_c_206 : x_chkT yX12_taken cX12_taken x_t_X12_taken = true := xq_wkT 11 false xq_LKok_11 rfl (fun h => nomatch h) (by decide +kernel)
theorem x_e_206 : x_y 206 = yX12_taken ∧ x_b 206 = cX12_taken ∧ x_tab 206 = x_t_X12_taken := ⟨rfl, rfl, rfl⟩
theorem x_c_207 : x_chkT yX12_aNewName cX12_aNewName x_t_X12_aNewName = true := xq_wkT 11 false xq_LKok_11 rfl (fun h => nomatch h) (by decide +kernel)
theorem x_e_207 : x_y 207 = yX12_aNewName ∧ x_b 207 = cX12_aNewName ∧ x_tab 207 = x_t_X12_aNewName := ⟨rfl, rfl, rfl⟩
theorem x_c_208 : x_chkT yX12_areBlasts cX12_areBlasts x_t_X12_areBlasts = true := xq_wkT 11 false xq_LKok_11 rfl (fun h => nomatch h) (by decide +kernel)
theorem x_e_208 : x_y 208 = yX12_areBlasts ∧ x_b 208 = cX12_areBlasts ∧ x_tab 208 = x_t_X12_areBlasts := ⟨rfl, rfl, rfl⟩
theorem x_c_209 : x_chkT yX12_aPort cX12_aPort x_t_X12_aPort = true := xq_wkT 11 false xq_LKok_11 rfl (fun h => nomatch h) (by decide +kernel)
theorem x_e_209 : x_y 209 = yX12_aPort ∧ x_b 209 = cX12_aPort ∧ x_tab 209 = x_t_X12_aPort := ⟨rfl, rfl, rfl⟩
theorem x_c_210 : x_chkT yX12_aShip cX12_aShip x_t_X12_aShip = true := xq_wkT 11 false xq_LKok_11 rfl (fun h => nomatch h) (by decide +kernel)
theorem x_e_210 : x_y 210 = yX12_aShip ∧ x_b 210 = cX12_aShip ∧ x_tab 210 = x_t_X12_aShip := ⟨rfl, rfl, rfl⟩
theorem x_c_211 : x_chkT yX12_passes cX12_passes x_t_X12_passes = true := xq_wkT 11 false xq_LKok_11 rfl (fun h => nomatch h) (by decide +kernel)
theorem x_e_211 : x_y 211 = yX12_passes ∧ x_b 211 = cX12_passes ∧ x_tab 211 = x_t_X12_passes := ⟨rfl, rfl, rfl⟩
theorem x_c_212 : x_chkT yX12_aCart cX12_aCart x_t_X12_aCart = true := xq_wkT 11 false xq_LKok_11 rfl (fun h => nomatch h) (by decide +kernel)
theorem x_e_212 : x_y 212 = yX12_aCart ∧ x_b 212 = cX12_aCart ∧ x_tab 212 = x_t_X12_aCart := ⟨rfl, rfl, rfl⟩
theorem x_c_213 : x_chkT yX12_once cX12_once x_t_X12_once = true := xq_wkT 11 false xq_LKok_11 rfl (fun h => nomatch h) (by decide +kernel)
theorem x_e_213 : x_y 213 = yX12_once ∧ x_b 213 = cX12_once ∧ x_tab 213 = x_t_X12_once := ⟨rfl, rfl, rfl⟩
theorem x_c_214 : x_chkT yX12_riverPart cX12_riverPart x_t_X12_riverPart = true := xq_wkT 11 false xq_LKok_11 rfl (fun h => nomatch h) (by decide +kernel)
theorem x_e_214 : x_y 214 = yX12_riverPart ∧ x_b 214 = cX12_riverPart ∧ x_tab 214 = x_t_X12_riverPart := ⟨rfl, rfl, rfl⟩
theorem x_c_215 : x_chkT yX12_river cX12_river x_t_X12_river = true := xq_wkT 11 false xq_LKok_11 rfl (fun h => nomatch h) (by decide +kernel)
theorem x_e_215 : x_y 215 = yX12_river ∧ x_b 215 = cX12_river ∧ x_tab 215 = x_t_X12_river := ⟨rfl, rfl, rfl⟩
theorem x_c_216 : x_chkT yX12_asksAlso cX12_asksAlso x_t_X12_asksAlso = true := xq_wkT 11 false xq_LKok_11 rfl (fun h => nomatch h) (by decide +kernel)
theorem x_e_216 : x_y 216 = yX12_asksAlso ∧ x_b 216 = cX12_asksAlso ∧ x_tab 216 = x_t_X12_asksAlso := ⟨rfl, rfl, rfl⟩
theorem x_c_217 : x_chkT yX12_isDoing cX12_isDoing x_t_X12_isDoing = true := xq_wkT 11 false xq_LKok_11 rfl (fun h => nomatch h) (by decide +kernel)
theorem x_e_217 : x_y 217 = yX12_isDoing ∧ x_b 217 = cX12_isDoing ∧ x_tab 217 = x_t_X12_isDoing := ⟨rfl, rfl, rfl⟩
theorem x_c_218 : x_chkT yX12_does cX12_does x_t_X12_does = true := xq_wkT 11 false xq_LKok_11 rfl (fun h => nomatch h) (by decide +kernel)
theorem x_e_218 : x_y 218 = yX12_does ∧ x_b 218 = cX12_does ∧ x_tab 218 = x_t_X12_does := ⟨rfl, rfl, rfl⟩
theorem x_c_219 : x_chkT yX12_joins cX12_joins x_t_X12_joins = true := xq_wkT 11 false xq_LKok_11 rfl (fun h => nomatch h) (by decide +kernel)
theorem x_e_219 : x_y 219 = yX12_joins ∧ x_b 219 = cX12_joins ∧ x_tab 219 = x_t_X12_joins := ⟨rfl, rfl, rfl⟩
theorem x_c_220 : x_chkT yX12_turnsRound cX12_turnsRound x_t_X12_turnsRound = true := xq_wkT 11 false xq_LKok_11 rfl (fun h => nomatch h) (by decide +kernel)
theorem x_e_220 : x_y 220 = yX12_turnsRound ∧ x_b 220 = cX12_turnsRound ∧ x_tab 220 = x_t_X12_turnsRound := ⟨rfl, rfl, rfl⟩
theorem x_c_221 : x_chkT yX12_isWithin cX12_isWithin x_t_X12_isWithin = true := xq_wkT 11 false xq_LKok_11 rfl (fun h => nomatch h) (by decide +kernel)
theorem x_e_221 : x_y 221 = yX12_isWithin ∧ x_b 221 = cX12_isWithin ∧ x_tab 221 = x_t_X12_isWithin := ⟨rfl, rfl, rfl⟩
theorem x_c_222 : x_chkT yX12_aCase cX12_aCase x_t_X12_aCase = true := xq_wkT 11 false xq_LKok_11 rfl (fun h => nomatch h) (by decide +kernel)
theorem x_e_222 : x_y 222 = yX12_aCase ∧ x_b 222 = cX12_aCase ∧ x_tab 222 = x_t_X12_aCase := ⟨rfl, rfl, rfl⟩
theorem x_c_223 : x_chkT yX12_aOne cX12_aOne x_t_X12_aOne = true := xq_wkT 11 false xq_LKok_11 rfl (fun h => nomatch h) (by decide +kernel)
theorem x_e_223 : x_y 223 = yX12_aOne ∧ x_b 223 = cX12_aOne ∧ x_tab 223 = x_t_X12_aOne := ⟨rfl, rfl, rfl⟩
theorem x_c_224 : x_chkT yX12_conditions cX12_conditions x_t_X12_conditions = true := xq_wkT 11 false xq_LKok_11 rfl (fun h => nomatch h) (by decide +kernel)
theorem x_e_224 : x_y 224 = yX12_conditions ∧ x_b 224 = cX12_conditions ∧ x_tab 224 = x_t_X12_conditions := ⟨rfl, rfl, rfl⟩
theorem x_c_225 : x_chkT yX12_aRule cX12_aRule x_t_X12_aRule = true := xq_wkT 11 false xq_LKok_11 rfl (fun h => nomatch h) (by decide +kernel)
theorem x_e_225 : x_y 225 = yX12_aRule ∧ x_b 225 = cX12_aRule ∧ x_tab 225 = x_t_X12_aRule := ⟨rfl, rfl, rfl⟩
theorem x_c_226 : x_chkT yX12_rules cX12_rules x_t_X12_rules = true := xq_wkT 11 false xq_LKok_11 rfl (fun h => nomatch h) (by decide +kernel)
theorem x_e_226 : x_y 226 = yX12_rules ∧ x_b 226 = cX12_rules ∧ x_tab 226 = x_t_X12_rules := ⟨rfl, rfl, rfl⟩
theorem x_c_227 : x_chkT yX12_isPort cX12_isPort x_t_X12_isPort = true := xq_wkT 11 false xq_LKok_11 rfl (fun h => nomatch h) (by decide +kernel)
theorem x_e_227 : x_y 227 = yX12_isPort ∧ x_b 227 = cX12_isPort ∧ x_tab 227 = x_t_X12_isPort := ⟨rfl, rfl, rfl⟩
theorem x_c_228 : x_chkT yX12_isShip cX12_isShip x_t_X12_isShip = true := xq_wkT 11 false xq_LKok_11 rfl (fun h => nomatch h) (by decide +kernel)
theorem x_e_228 : x_y 228 = yX12_isShip ∧ x_b 228 = cX12_isShip ∧ x_tab 228 = x_t_X12_isShip := ⟨rfl, rfl, rfl⟩
theorem x_c_229 : x_chkT yX12_isCart cX12_isCart x_t_X12_isCart = true := xq_wkT 11 false xq_LKok_11 rfl (fun h => nomatch h) (by decide +kernel)
theorem x_e_229 : x_y 229 = yX12_isCart ∧ x_b 229 = cX12_isCart ∧ x_tab 229 = x_t_X12_isCart := ⟨rfl, rfl, rfl⟩
theorem x_c_230 : x_chkT yX12_told cX12_told x_t_X12_told = true := xq_wkT 11 false xq_LKok_11 rfl (fun h => nomatch h) (by decide +kernel)
theorem x_e_230 : x_y 230 = yX12_told ∧ x_b 230 = cX12_told ∧ x_tab 230 = x_t_X12_told := ⟨rfl, rfl, rfl⟩
theorem x_mA_4 : ∀ k, 192 ≤ k → k < 231 → x_okM k := xq_mAs (n := 39) (by decide +kernel)
theorem x_cA_4 : ∀ k, 192 ≤ k → k < 231 → x_chkT (x_y k) (x_b k) (x_tab k) = true := by
  intro k h1 h2
  obtain rfl | rfl | rfl | rfl | rfl | rfl | rfl | rfl | rfl | rfl | rfl | rfl | rfl | rfl | rfl | rfl | rfl | rfl | rfl | rfl | rfl | rfl | rfl | rfl | rfl | rfl | rfl | rfl | rfl | rfl | rfl | rfl | rfl | rfl | rfl | rfl | rfl | rfl | rfl : k = 192 ∨ k = 193 ∨ k = 194 ∨ k = 195 ∨ k = 196 ∨ k = 197 ∨ k = 198 ∨ k = 199 ∨ k = 200 ∨ k = 201 ∨ k = 202 ∨ k = 203 ∨ k = 204 ∨ k = 205 ∨ k = 206 ∨ k = 207 ∨ k = 208 ∨ k = 209 ∨ k = 210 ∨ k = 211 ∨ k = 212 ∨ k = 213 ∨ k = 214 ∨ k = 215 ∨ k = 216 ∨ k = 217 ∨ k = 218 ∨ k = 219 ∨ k = 220 ∨ k = 221 ∨ k = 222 ∨ k = 223 ∨ k = 224 ∨ k = 225 ∨ k = 226 ∨ k = 227 ∨ k = 228 ∨ k = 229 ∨ k = 230 := by omega
  · rw [x_e_192.1, x_e_192.2.1, x_e_192.2.2]; exact x_c_192
  · rw [x_e_193.1, x_e_193.2.1, x_e_193.2.2]; exact x_c_193
  · rw [x_e_194.1, x_e_194.2.1, x_e_194.2.2]; exact x_c_194
  · rw [x_e_195.1, x_e_195.2.1, x_e_195.2.2]; exact x_c_195
  · rw [x_e_196.1, x_e_196.2.1, x_e_196.2.2]; exact x_c_196
  · rw [x_e_197.1, x_e_197.2.1, x_e_197.2.2]; exact x_c_197
  · rw [x_e_198.1, x_e_198.2.1, x_e_198.2.2]; exact x_c_198
  · rw [x_e_199.1, x_e_199.2.1, x_e_199.2.2]; exact x_c_199
  · rw [x_e_200.1, x_e_200.2.1, x_e_200.2.2]; exact x_c_200
  · rw [x_e_201.1, x_e_201.2.1, x_e_201.2.2]; exact x_c_201
  · rw [x_e_202.1, x_e_202.2.1, x_e_202.2.2]; exact x_c_202
  · rw [x_e_203.1, x_e_203.2.1, x_e_203.2.2]; exact x_c_203
  · rw [x_e_204.1, x_e_204.2.1, x_e_204.2.2]; exact x_c_204
  · rw [x_e_205.1, x_e_205.2.1, x_e_205.2.2]; exact x_c_205
  · rw [x_e_206.1, x_e_206.2.1, x_e_206.2.2]; exact x_c_206
  · rw [x_e_207.1, x_e_207.2.1, x_e_207.2.2]; exact x_c_207
  · rw [x_e_208.1, x_e_208.2.1, x_e_208.2.2]; exact x_c_208
  · rw [x_e_209.1, x_e_209.2.1, x_e_209.2.2]; exact x_c_209
  · rw [x_e_210.1, x_e_210.2.1, x_e_210.2.2]; exact x_c_210
  · rw [x_e_211.1, x_e_211.2.1, x_e_211.2.2]; exact x_c_211
  · rw [x_e_212.1, x_e_212.2.1, x_e_212.2.2]; exact x_c_212
  · rw [x_e_213.1, x_e_213.2.1, x_e_213.2.2]; exact x_c_213
  · rw [x_e_214.1, x_e_214.2.1, x_e_214.2.2]; exact x_c_214
  · rw [x_e_215.1, x_e_215.2.1, x_e_215.2.2]; exact x_c_215
  · rw [x_e_216.1, x_e_216.2.1, x_e_216.2.2]; exact x_c_216
  · rw [x_e_217.1, x_e_217.2.1, x_e_217.2.2]; exact x_c_217
  · rw [x_e_218.1, x_e_218.2.1, x_e_218.2.2]; exact x_c_218
  · rw [x_e_219.1, x_e_219.2.1, x_e_219.2.2]; exact x_c_219
  · rw [x_e_220.1, x_e_220.2.1, x_e_220.2.2]; exact x_c_220
  · rw [x_e_221.1, x_e_221.2.1, x_e_221.2.2]; exact x_c_221
  · rw [x_e_222.1, x_e_222.2.1, x_e_222.2.2]; exact x_c_222
  · rw [x_e_223.1, x_e_223.2.1, x_e_223.2.2]; exact x_c_223
  · rw [x_e_224.1, x_e_224.2.1, x_e_224.2.2]; exact x_c_224
  · rw [x_e_225.1, x_e_225.2.1, x_e_225.2.2]; exact x_c_225
  · rw [x_e_226.1, x_e_226.2.1, x_e_226.2.2]; exact x_c_226
  · rw [x_e_227.1, x_e_227.2.1, x_e_227.2.2]; exact x_c_227
  · rw [x_e_228.1, x_e_228.2.1, x_e_228.2.2]; exact x_c_228
  · rw [x_e_229.1, x_e_229.2.1, x_e_229.2.2]; exact x_c_229
  · rw [x_e_230.1, x_e_230.2.1, x_e_230.2.2]; exact x_c_230
