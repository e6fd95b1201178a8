/-! ===== printed by gen.py: the tables are checked, 3 ===== -/
theorem x_c_133 : x_chkT yX11_addReading cX11_addReading x_t_X11_addReading = true := xq_wkT 10 false xq_LKok_10 rfl (fun h => nomatch h) (by decide +kernel)
theorem x_e_133 : x_y 133 = yX11_addReading ∧ x_b 133 = cX11_addReading ∧ x_tab 133 = x_t_X11_addReading := ⟨rfl, rfl, rfl⟩
theorem x_c_134 : x_chkT yX11_reading cX11_reading x_t_X11_reading = true := xq_wkT 10 false xq_LKok_10 rfl (fun h => nomatch h) (by decide +kernel)
theorem x_e_134 : x_y 134 = yX11_reading ∧ x_b 134 = cX11_reading ∧ x_tab 134 = x_t_X11_reading := ⟨rfl, rfl, rfl⟩
theorem x_c_135 : x_chkT yX11_doubt cX11_doubt x_t_X11_doubt = true := xq_wkT 10 false xq_LKok_10 rfl (fun h => nomatch h) (by decide +kernel)
theorem x_e_135 : x_y 135 = yX11_doubt ∧ x_b 135 = cX11_doubt ∧ x_tab 135 = x_t_X11_doubt := ⟨rfl, rfl, rfl⟩
theorem x_c_136 : x_chkT yX11_alike cX11_alike x_t_X11_alike = true := xq_wkT 10 false xq_LKok_10 rfl (fun h => nomatch h) (by decide +kernel)
theorem x_e_136 : x_y 136 = yX11_alike ∧ x_b 136 = cX11_alike ∧ x_tab 136 = x_t_X11_alike := ⟨rfl, rfl, rfl⟩
theorem x_c_137 : x_chkT yX11_code cX11_code x_t_X11_code = true := xq_wkT 10 false xq_LKok_10 rfl (fun h => nomatch h) (by decide +kernel)
theorem x_e_137 : x_y 137 = yX11_code ∧ x_b 137 = cX11_code ∧ x_tab 137 = x_t_X11_code := ⟨rfl, rfl, rfl⟩
theorem x_c_138 : x_chkT yX11_codeAt cX11_codeAt x_t_X11_codeAt = true := xq_wkT 10 false xq_LKok_10 rfl (fun h => nomatch h) (by decide +kernel)
theorem x_e_138 : x_y 138 = yX11_codeAt ∧ x_b 138 = cX11_codeAt ∧ x_tab 138 = x_t_X11_codeAt := ⟨rfl, rfl, rfl⟩
theorem x_c_139 : x_chkT yX11_parts cX11_parts x_t_X11_parts = true := xq_wkT 10 false xq_LKok_10 rfl (fun h => nomatch h) (by decide +kernel)
theorem x_e_139 : x_y 139 = yX11_parts ∧ x_b 139 = cX11_parts ∧ x_tab 139 = x_t_X11_parts := ⟨rfl, rfl, rfl⟩
theorem x_c_140 : x_chkT yX11_clearBeats cX11_clearBeats x_t_X11_clearBeats = true := xq_wkT 10 false xq_LKok_10 rfl (fun h => nomatch h) (by decide +kernel)
theorem x_e_140 : x_y 140 = yX11_clearBeats ∧ x_b 140 = cX11_clearBeats ∧ x_tab 140 = x_t_X11_clearBeats := ⟨rfl, rfl, rfl⟩
theorem x_c_141 : x_chkT yX11_clearEcho cX11_clearEcho x_t_X11_clearEcho = true := xq_wkT 10 false xq_LKok_10 rfl (fun h => nomatch h) (by decide +kernel)
theorem x_e_141 : x_y 141 = yX11_clearEcho ∧ x_b 141 = cX11_clearEcho ∧ x_tab 141 = x_t_X11_clearEcho := ⟨rfl, rfl, rfl⟩
theorem x_c_142 : x_chkT yX11_silent cX11_silent x_t_X11_silent = true := xq_wkT 10 false xq_LKok_10 rfl (fun h => nomatch h) (by decide +kernel)
theorem x_e_142 : x_y 142 = yX11_silent ∧ x_b 142 = cX11_silent ∧ x_tab 142 = x_t_X11_silent := ⟨rfl, rfl, rfl⟩
theorem x_c_143 : x_chkT yX11_least cX11_least x_t_X11_least = true := xq_wkT 10 false xq_LKok_10 rfl (fun h => nomatch h) (by decide +kernel)
theorem x_e_143 : x_y 143 = yX11_least ∧ x_b 143 = cX11_least ∧ x_tab 143 = x_t_X11_least := ⟨rfl, rfl, rfl⟩
theorem x_c_144 : x_chkT yX11_plan cX11_plan x_t_X11_plan = true := xq_wkT 10 false xq_LKok_10 rfl (fun h => nomatch h) (by decide +kernel)
theorem x_e_144 : x_y 144 = yX11_plan ∧ x_b 144 = cX11_plan ∧ x_tab 144 = x_t_X11_plan := ⟨rfl, rfl, rfl⟩
theorem x_c_145 : x_chkT yX11_planAt cX11_planAt x_t_X11_planAt = true := xq_wkT 10 false xq_LKok_10 rfl (fun h => nomatch h) (by decide +kernel)
theorem x_e_145 : x_y 145 = yX11_planAt ∧ x_b 145 = cX11_planAt ∧ x_tab 145 = x_t_X11_planAt := ⟨rfl, rfl, rfl⟩
theorem x_c_146 : x_chkT yX11_worth cX11_worth x_t_X11_worth = true := xq_wkT 10 false xq_LKok_10 rfl (fun h => nomatch h) (by decide +kernel)
theorem x_e_146 : x_y 146 = yX11_worth ∧ x_b 146 = cX11_worth ∧ x_tab 146 = x_t_X11_worth := ⟨rfl, rfl, rfl⟩
theorem x_c_147 : x_chkT yX11_quicker cX11_quicker x_t_X11_quicker = true := xq_wkT 10 false xq_LKok_10 rfl (fun h => nomatch h) (by decide +kernel)
theorem x_e_147 : x_y 147 = yX11_quicker ∧ x_b 147 = cX11_quicker ∧ x_tab 147 = x_t_X11_quicker := ⟨rfl, rfl, rfl⟩
theorem x_c_148 : x_chkT yX11_away cX11_away x_t_X11_away = true := xq_wkT 10 false xq_LKok_10 rfl (fun h => nomatch h) (by decide +kernel)
theorem x_e_148 : x_y 148 = yX11_away ∧ x_b 148 = cX11_away ∧ x_tab 148 = x_t_X11_away := ⟨rfl, rfl, rfl⟩
theorem x_c_149 : x_chkT yX11_later cX11_later x_t_X11_later = true := xq_wkT 10 false xq_LKok_10 rfl (fun h => nomatch h) (by decide +kernel)
theorem x_e_149 : x_y 149 = yX11_later ∧ x_b 149 = cX11_later ∧ x_tab 149 = x_t_X11_later := ⟨rfl, rfl, rfl⟩
theorem x_c_150 : x_chkT yX11_slack cX11_slack x_t_X11_slack = true := xq_wkT 10 false xq_LKok_10 rfl (fun h => nomatch h) (by decide +kernel)
theorem x_e_150 : x_y 150 = yX11_slack ∧ x_b 150 = cX11_slack ∧ x_tab 150 = x_t_X11_slack := ⟨rfl, rfl, rfl⟩
theorem x_c_151 : x_chkT yX11_without cX11_without x_t_X11_without = true := xq_wkT 10 false xq_LKok_10 rfl (fun h => nomatch h) (by decide +kernel)
theorem x_e_151 : x_y 151 = yX11_without ∧ x_b 151 = cX11_without ∧ x_tab 151 = x_t_X11_without := ⟨rfl, rfl, rfl⟩
theorem x_c_152 : x_chkT yX11_dearest cX11_dearest x_t_X11_dearest = true := xq_wkT 10 false xq_LKok_10 rfl (fun h => nomatch h) (by decide +kernel)
theorem x_e_152 : x_y 152 = yX11_dearest ∧ x_b 152 = cX11_dearest ∧ x_tab 152 = x_t_X11_dearest := ⟨rfl, rfl, rfl⟩
theorem x_c_153 : x_chkT yX11_opened cX11_opened x_t_X11_opened = true := xq_wkT 10 false xq_LKok_10 rfl (fun h => nomatch h) (by decide +kernel)
theorem x_e_153 : x_y 153 = yX11_opened ∧ x_b 153 = cX11_opened ∧ x_tab 153 = x_t_X11_opened := ⟨rfl, rfl, rfl⟩
theorem x_c_154 : x_chkT yX11_busiest cX11_busiest x_t_X11_busiest = true := xq_wkT 10 false xq_LKok_10 rfl (fun h => nomatch h) (by decide +kernel)
theorem x_e_154 : x_y 154 = yX11_busiest ∧ x_b 154 = cX11_busiest ∧ x_tab 154 = x_t_X11_busiest := ⟨rfl, rfl, rfl⟩
theorem x_c_155 : x_chkT yX11_leastAsTold cX11_leastAsTold x_t_X11_leastAsTold = true := xq_wkT 10 false xq_LKok_10 rfl (fun h => nomatch h) (by decide +kernel)
theorem x_e_155 : x_y 155 = yX11_leastAsTold ∧ x_b 155 = cX11_leastAsTold ∧ x_tab 155 = x_t_X11_leastAsTold := ⟨rfl, rfl, rfl⟩
theorem x_c_156 : x_chkT yX11_answerWaits cX11_answerWaits x_t_X11_answerWaits = true := xq_wkT 10 false xq_LKok_10 rfl (fun h => nomatch h) (by decide +kernel)
theorem x_e_156 : x_y 156 = yX11_answerWaits ∧ x_b 156 = cX11_answerWaits ∧ x_tab 156 = x_t_X11_answerWaits := ⟨rfl, rfl, rfl⟩
theorem x_c_157 : x_chkT yX11_keep cX11_keep x_t_X11_keep = true := xq_wkT 10 false xq_LKok_10 rfl (fun h => nomatch h) (by decide +kernel)
theorem x_e_157 : x_y 157 = yX11_keep ∧ x_b 157 = cX11_keep ∧ x_tab 157 = x_t_X11_keep := ⟨rfl, rfl, rfl⟩
theorem x_c_158 : x_chkT yX11_kept cX11_kept x_t_X11_kept = true := xq_wkT 10 false xq_LKok_10 rfl (fun h => nomatch h) (by decide +kernel)
theorem x_e_158 : x_y 158 = yX11_kept ∧ x_b 158 = cX11_kept ∧ x_tab 158 = x_t_X11_kept := ⟨rfl, rfl, rfl⟩
theorem x_c_159 : x_chkT yX11_odds cX11_odds x_t_X11_odds = true := xq_wkT 10 false xq_LKok_10 rfl (fun h => nomatch h) (by decide +kernel)
theorem x_e_159 : x_y 159 = yX11_odds ∧ x_b 159 = cX11_odds ∧ x_tab 159 = x_t_X11_odds := ⟨rfl, rfl, rfl⟩
theorem x_c_160 : x_chkT yX11_waits cX11_waits x_t_X11_waits = true := xq_wkT 10 false xq_LKok_10 rfl (fun h => nomatch h) (by decide +kernel)
theorem x_e_160 : x_y 160 = yX11_waits ∧ x_b 160 = cX11_waits ∧ x_tab 160 = x_t_X11_waits := ⟨rfl, rfl, rfl⟩
theorem x_c_161 : x_chkT yX11_wrongSeeds cX11_wrongSeeds x_t_X11_wrongSeeds = true := xq_wkT 10 false xq_LKok_10 rfl (fun h => nomatch h) (by decide +kernel)
theorem x_e_161 : x_y 161 = yX11_wrongSeeds ∧ x_b 161 = cX11_wrongSeeds ∧ x_tab 161 = x_t_X11_wrongSeeds := ⟨rfl, rfl, rfl⟩
theorem x_c_162 : x_chkT yX11_mark cX11_mark x_t_X11_mark = true := xq_wkT 10 false xq_LKok_10 rfl (fun h => nomatch h) (by decide +kernel)
theorem x_e_162 : x_y 162 = yX11_mark ∧ x_b 162 = cX11_mark ∧ x_tab 162 = x_t_X11_mark := ⟨rfl, rfl, rfl⟩
theorem x_c_163 : x_chkT yX11_back cX11_back x_t_X11_back = true := xq_wkT 10 false xq_LKok_10 rfl (fun h => nomatch h) (by decide +kernel)
theorem x_e_163 : x_y 163 = yX11_back ∧ x_b 163 = cX11_back ∧ x_tab 163 = x_t_X11_back := ⟨rfl, rfl, rfl⟩
theorem x_c_164 : x_chkT yX11_answer cX11_answer x_t_X11_answer = true := xq_wkT 10 false xq_LKok_10 rfl (fun h => nomatch h) (by decide +kernel)
theorem x_e_164 : x_y 164 = yX11_answer ∧ x_b 164 = cX11_answer ∧ x_tab 164 = x_t_X11_answer := ⟨rfl, rfl, rfl⟩
theorem x_c_165 : x_chkT yX11_answerLong cX11_answerLong x_t_X11_answerLong = true := xq_wkT 10 false xq_LKok_10 rfl (fun h => nomatch h) (by decide +kernel)
theorem x_e_165 : x_y 165 = yX11_answerLong ∧ x_b 165 = cX11_answerLong ∧ x_tab 165 = x_t_X11_answerLong := ⟨rfl, rfl, rfl⟩
theorem x_c_166 : x_chkT yX11_grant cX11_grant x_t_X11_grant = true := xq_wkT 10 false xq_LKok_10 rfl (fun h => nomatch h) (by decide +kernel)
theorem x_e_166 : x_y 166 = yX11_grant ∧ x_b 166 = cX11_grant ∧ x_tab 166 = x_t_X11_grant := ⟨rfl, rfl, rfl⟩
theorem x_c_167 : x_chkT yX11_refuse cX11_refuse x_t_X11_refuse = true := xq_wkT 10 false xq_LKok_10 rfl (fun h => nomatch h) (by decide +kernel)
theorem x_e_167 : x_y 167 = yX11_refuse ∧ x_b 167 = cX11_refuse ∧ x_tab 167 = x_t_X11_refuse := ⟨rfl, rfl, rfl⟩
theorem x_c_168 : x_chkT yX11_deny cX11_deny x_t_X11_deny = true := xq_wkT 10 false xq_LKok_10 rfl (fun h => nomatch h) (by decide +kernel)
theorem x_e_168 : x_y 168 = yX11_deny ∧ x_b 168 = cX11_deny ∧ x_tab 168 = x_t_X11_deny := ⟨rfl, rfl, rfl⟩
theorem x_c_169 : x_chkT yX11_tellFraction cX11_tellFraction x_t_X11_tellFraction = true := xq_wkT 10 false xq_LKok_10 rfl (fun h => nomatch h) (by decide +kernel)
theorem x_e_169 : x_y 169 = yX11_tellFraction ∧ x_b 169 = cX11_tellFraction ∧ x_tab 169 = x_t_X11_tellFraction := ⟨rfl, rfl, rfl⟩
theorem x_c_170 : x_chkT yX11_commonDivisor cX11_commonDivisor x_t_X11_commonDivisor = true := xq_wkT 10 false xq_LKok_10 rfl (fun h => nomatch h) (by decide +kernel)
theorem x_e_170 : x_y 170 = yX11_commonDivisor ∧ x_b 170 = cX11_commonDivisor ∧ x_tab 170 = x_t_X11_commonDivisor := ⟨rfl, rfl, rfl⟩
theorem x_c_171 : x_chkT yX12_init cX12_init x_t_X12_init = true := xq_wkT 11 true xq_LKok_11 rfl (fun _ => rfl) (by decide +kernel)
theorem x_e_171 : x_y 171 = yX12_init ∧ x_b 171 = cX12_init ∧ x_tab 171 = x_t_X12_init := ⟨rfl, rfl, rfl⟩
theorem x_c_172 : x_chkT yX12_status cX12_status x_t_X12_status = true := xq_wkT 11 false xq_LKok_11 rfl (fun h => nomatch h) (by decide +kernel)
theorem x_e_172 : x_y 172 = yX12_status ∧ x_b 172 = cX12_status ∧ x_tab 172 = x_t_X12_status := ⟨rfl, rfl, rfl⟩
theorem x_c_173 : x_chkT yX12_top cX12_top x_t_X12_top = true := xq_wkT 11 false xq_LKok_11 rfl (fun h => nomatch h) (by decide +kernel)
theorem x_e_173 : x_y 173 = yX12_top ∧ x_b 173 = cX12_top ∧ x_tab 173 = x_t_X12_top := ⟨rfl, rfl, rfl⟩
theorem x_c_174 : x_chkT yX12_bottom cX12_bottom x_t_X12_bottom = true := xq_wkT 11 false xq_LKok_11 rfl (fun h => nomatch h) (by decide +kernel)
theorem x_e_174 : x_y 174 = yX12_bottom ∧ x_b 174 = cX12_bottom ∧ x_tab 174 = x_t_X12_bottom := ⟨rfl, rfl, rfl⟩
theorem x_c_175 : x_chkT yX12_is cX12_is x_t_X12_is = true := xq_wkT 11 false xq_LKok_11 rfl (fun h => nomatch h) (by decide +kernel)
theorem x_e_175 : x_y 175 = yX12_is ∧ x_b 175 = cX12_is ∧ x_tab 175 = x_t_X12_is := ⟨rfl, rfl, rfl⟩
theorem x_c_176 : x_chkT yX12_refuse cX12_refuse x_t_X12_refuse = true := xq_wkT 11 false xq_LKok_11 rfl (fun h => nomatch h) (by decide +kernel)
theorem x_e_176 : x_y 176 = yX12_refuse ∧ x_b 176 = cX12_refuse ∧ x_tab 176 = x_t_X12_refuse := ⟨rfl, rfl, rfl⟩
theorem x_c_177 : x_chkT yX12_gives cX12_gives x_t_X12_gives = true := xq_wkT 11 false xq_LKok_11 rfl (fun h => nomatch h) (by decide +kernel)
theorem x_e_177 : x_y 177 = yX12_gives ∧ x_b 177 = cX12_gives ∧ x_tab 177 = x_t_X12_gives := ⟨rfl, rfl, rfl⟩
theorem x_c_178 : x_chkT yX12_orNone cX12_orNone x_t_X12_orNone = true := xq_wkT 11 false xq_LKok_11 rfl (fun h => nomatch h) (by decide +kernel)
theorem x_e_178 : x_y 178 = yX12_orNone ∧ x_b 178 = cX12_orNone ∧ x_tab 178 = x_t_X12_orNone := ⟨rfl, rfl, rfl⟩
theorem x_c_179 : x_chkT yX12_givesLong cX12_givesLong x_t_X12_givesLong = true := xq_wkT 11 false xq_LKok_11 rfl (fun h => nomatch h) (by decide +kernel)
theorem x_e_179 : x_y 179 = yX12_givesLong ∧ x_b 179 = cX12_givesLong ∧ x_tab 179 = x_t_X12_givesLong := ⟨rfl, rfl, rfl⟩
theorem x_c_180 : x_chkT yX12_tellsBy cX12_tellsBy x_t_X12_tellsBy = true := xq_wkT 11 false xq_LKok_11 rfl (fun h => nomatch h) (by decide +kernel)
theorem x_e_180 : x_y 180 = yX12_tellsBy ∧ x_b 180 = cX12_tellsBy ∧ x_tab 180 = x_t_X12_tellsBy := ⟨rfl, rfl, rfl⟩
theorem x_c_181 : x_chkT yX12_isTray cX12_isTray x_t_X12_isTray = true := xq_wkT 11 false xq_LKok_11 rfl (fun h => nomatch h) (by decide +kernel)
theorem x_e_181 : x_y 181 = yX12_isTray ∧ x_b 181 = cX12_isTray ∧ x_tab 181 = x_t_X12_isTray := ⟨rfl, rfl, rfl⟩
theorem x_c_182 : x_chkT yX12_cut cX12_cut x_t_X12_cut = true := xq_wkT 11 false xq_LKok_11 rfl (fun h => nomatch h) (by decide +kernel)
theorem x_e_182 : x_y 182 = yX12_cut ∧ x_b 182 = cX12_cut ∧ x_tab 182 = x_t_X12_cut := ⟨rfl, rfl, rfl⟩
theorem x_c_183 : x_chkT yX12_tray cX12_tray x_t_X12_tray = true := xq_wkT 11 false xq_LKok_11 rfl (fun h => nomatch h) (by decide +kernel)
theorem x_e_183 : x_y 183 = yX12_tray ∧ x_b 183 = cX12_tray ∧ x_tab 183 = x_t_X12_tray := ⟨rfl, rfl, rfl⟩
theorem x_c_184 : x_chkT yX12_wrongPlace cX12_wrongPlace x_t_X12_wrongPlace = true := xq_wkT 11 false xq_LKok_11 rfl (fun h => nomatch h) (by decide +kernel)
theorem x_e_184 : x_y 184 = yX12_wrongPlace ∧ x_b 184 = cX12_wrongPlace ∧ x_tab 184 = x_t_X12_wrongPlace := ⟨rfl, rfl, rfl⟩
theorem x_c_185 : x_chkT yX12_write cX12_write x_t_X12_write = true := xq_wkT 11 false xq_LKok_11 rfl (fun h => nomatch h) (by decide +kernel)
theorem x_e_185 : x_y 185 = yX12_write ∧ x_b 185 = cX12_write ∧ x_tab 185 = x_t_X12_write := ⟨rfl, rfl, rfl⟩
theorem x_c_186 : x_chkT yX12_read cX12_read x_t_X12_read = true := xq_wkT 11 false xq_LKok_11 rfl (fun h => nomatch h) (by decide +kernel)
theorem x_e_186 : x_y 186 = yX12_read ∧ x_b 186 = cX12_read ∧ x_tab 186 = x_t_X12_read := ⟨rfl, rfl, rfl⟩
theorem x_c_187 : x_chkT yX12_pour cX12_pour x_t_X12_pour = true := xq_wkT 11 false xq_LKok_11 rfl (fun h => nomatch h) (by decide +kernel)
theorem x_e_187 : x_y 187 = yX12_pour ∧ x_b 187 = cX12_pour ∧ x_tab 187 = x_t_X12_pour := ⟨rfl, rfl, rfl⟩
theorem x_c_188 : x_chkT yX12_isFrom cX12_isFrom x_t_X12_isFrom = true := xq_wkT 11 false xq_LKok_11 rfl (fun h => nomatch h) (by decide +kernel)
theorem x_e_188 : x_y 188 = yX12_isFrom ∧ x_b 188 = cX12_isFrom ∧ x_tab 188 = x_t_X12_isFrom := ⟨rfl, rfl, rfl⟩
theorem x_c_189 : x_chkT yX12_feed cX12_feed x_t_X12_feed = true := xq_wkT 11 false xq_LKok_11 rfl (fun h => nomatch h) (by decide +kernel)
theorem x_e_189 : x_y 189 = yX12_feed ∧ x_b 189 = cX12_feed ∧ x_tab 189 = x_t_X12_feed := ⟨rfl, rfl, rfl⟩
theorem x_c_190 : x_chkT yX12_four cX12_four x_t_X12_four = true := xq_wkT 11 false xq_LKok_11 rfl (fun h => nomatch h) (by decide +kernel)
theorem x_e_190 : x_y 190 = yX12_four ∧ x_b 190 = cX12_four ∧ x_tab 190 = x_t_X12_four := ⟨rfl, rfl, rfl⟩
theorem x_c_191 : x_chkT yX12_byteAt cX12_byteAt x_t_X12_byteAt = true := xq_wkT 11 false xq_LKok_11 rfl (fun h => nomatch h) (by decide +kernel)
theorem x_e_191 : x_y 191 = yX12_byteAt ∧ x_b 191 = cX12_byteAt ∧ x_tab 191 = x_t_X12_byteAt := ⟨rfl, rfl, rfl⟩
theorem x_mA_3 : ∀ k, 133 ≤ k → k < 192 → x_okM k := xq_mAs (n := 59) (by decide +kernel)
theorem x_cA_3 : ∀ k, 133 ≤ k → k < 192 → x_chkT (x_y k) (x_b k) (x_tab k) = true := by
  intro k h1 h2
  obtain rfl | rfl | rfl | rfl | rfl | rfl | rfl | rfl | rfl | rfl | rfl | rfl | rfl | rfl | rfl | rfl | rfl | rfl | rfl | rfl | rfl | rfl | rfl | rfl | rfl | rfl | rfl | rfl | rfl | rfl | rfl | rfl | rfl | rfl | rfl | rfl | rfl | rfl | rfl | rfl | rfl | rfl | rfl | rfl | rfl | rfl | rfl | rfl | rfl | rfl | rfl | rfl | rfl | rfl | rfl | rfl | rfl | rfl | rfl : k = 133 ∨ k = 134 ∨ k = 135 ∨ k = 136 ∨ k = 137 ∨ k = 138 ∨ k = 139 ∨ k = 140 ∨ k = 141 ∨ k = 142 ∨ k = 143 ∨ k = 144 ∨ k = 145 ∨ k = 146 ∨ k = 147 ∨ k = 148 ∨ k = 149 ∨ k = 150 ∨ k = 151 ∨ k = 152 ∨ k = 153 ∨ k = 154 ∨ k = 155 ∨ k = 156 ∨ k = 157 ∨ k = 158 ∨ k = 159 ∨ k = 160 ∨ k = 161 ∨ k = 162 ∨ k = 163 ∨ k = 164 ∨ k = 165 ∨ k = 166 ∨ k = 167 ∨ k = 168 ∨ k = 169 ∨ k = 170 ∨ k = 171 ∨ k = 172 ∨ k = 173 ∨ k = 174 ∨ k = 175 ∨ k = 176 ∨ k = 177 ∨ k = 178 ∨ k = 179 ∨ k = 180 ∨ k = 181 ∨ k = 182 ∨ k = 183 ∨ k = 184 ∨ k = 185 ∨ k = 186 ∨ k = 187 ∨ k = 188 ∨ k = 189 ∨ k = 190 ∨ k = 191 := by omega
  · rw [x_e_133.1, x_e_133.2.1, x_e_133.2.2]; exact x_c_133
  · rw [x_e_134.1, x_e_134.2.1, x_e_134.2.2]; exact x_c_134
  · rw [x_e_135.1, x_e_135.2.1, x_e_135.2.2]; exact x_c_135
  · rw [x_e_136.1, x_e_136.2.1, x_e_136.2.2]; exact x_c_136
  · rw [x_e_137.1, x_e_137.2.1, x_e_137.2.2]; exact x_c_137
  · rw [x_e_138.1, x_e_138.2.1, x_e_138.2.2]; exact x_c_138
  · rw [x_e_139.1, x_e_139.2.1, x_e_139.2.2]; exact x_c_139
  · rw [x_e_140.1, x_e_140.2.1, x_e_140.2.2]; exact x_c_140
  · rw [x_e_141.1, x_e_141.2.1, x_e_141.2.2]; exact x_c_141
  · rw [x_e_142.1, x_e_142.2.1, x_e_142.2.2]; exact x_c_142
  · rw [x_e_143.1, x_e_143.2.1, x_e_143.2.2]; exact x_c_143
  · rw [x_e_144.1, x_e_144.2.1, x_e_144.2.2]; exact x_c_144
  · rw [x_e_145.1, x_e_145.2.1, x_e_145.2.2]; exact x_c_145
  · rw [x_e_146.1, x_e_146.2.1, x_e_146.2.2]; exact x_c_146
  · rw [x_e_147.1, x_e_147.2.1, x_e_147.2.2]; exact x_c_147
  · rw [x_e_148.1, x_e_148.2.1, x_e_148.2.2]; exact x_c_148
  · rw [x_e_149.1, x_e_149.2.1, x_e_149.2.2]; exact x_c_149
  · rw [x_e_150.1, x_e_150.2.1, x_e_150.2.2]; exact x_c_150
  · rw [x_e_151.1, x_e_151.2.1, x_e_151.2.2]; exact x_c_151
  · rw [x_e_152.1, x_e_152.2.1, x_e_152.2.2]; exact x_c_152
  · rw [x_e_153.1, x_e_153.2.1, x_e_153.2.2]; exact x_c_153
  · rw [x_e_154.1, x_e_154.2.1, x_e_154.2.2]; exact x_c_154
  · rw [x_e_155.1, x_e_155.2.1, x_e_155.2.2]; exact x_c_155
  · rw [x_e_156.1, x_e_156.2.1, x_e_156.2.2]; exact x_c_156
  · rw [x_e_157.1, x_e_157.2.1, x_e_157.2.2]; exact x_c_157
  · rw [x_e_158.1, x_e_158.2.1, x_e_158.2.2]; exact x_c_158
  · rw [x_e_159.1, x_e_159.2.1, x_e_159.2.2]; exact x_c_159
  · rw [x_e_160.1, x_e_160.2.1, x_e_160.2.2]; exact x_c_160
  · rw [x_e_161.1, x_e_161.2.1, x_e_161.2.2]; exact x_c_161
  · rw [x_e_162.1, x_e_162.2.1, x_e_162.2.2]; exact x_c_162
  · rw [x_e_163.1, x_e_163.2.1, x_e_163.2.2]; exact x_c_163
  · rw [x_e_164.1, x_e_164.2.1, x_e_164.2.2]; exact x_c_164
  · rw [x_e_165.1, x_e_165.2.1, x_e_165.2.2]; exact x_c_165
  · rw [x_e_166.1, x_e_166.2.1, x_e_166.2.2]; exact x_c_166
  · rw [x_e_167.1, x_e_167.2.1, x_e_167.2.2]; exact x_c_167
  · rw [x_e_168.1, x_e_168.2.1, x_e_168.2.2]; exact x_c_168
  · rw [x_e_169.1, x_e_169.2.1, x_e_169.2.2]; exact x_c_169
  · rw [x_e_170.1, x_e_170.2.1, x_e_170.2.2]; exact x_c_170
  · rw [x_e_171.1, x_e_171.2.1, x_e_171.2.2]; exact x_c_171
  · rw [x_e_172.1, x_e_172.2.1, x_e_172.2.2]; exact x_c_172
  · rw [x_e_173.1, x_e_173.2.1, x_e_173.2.2]; exact x_c_173
  · rw [x_e_174.1, x_e_174.2.1, x_e_174.2.2]; exact x_c_174
  · rw [x_e_175.1, x_e_175.2.1, x_e_175.2.2]; exact x_c_175
  · rw [x_e_176.1, x_e_176.2.1, x_e_176.2.2]; exact x_c_176
  · rw [x_e_177.1, x_e_177.2.1, x_e_177.2.2]; exact x_c_177
  · rw [x_e_178.1, x_e_178.2.1, x_e_178.2.2]; exact x_c_178
  · rw [x_e_179.1, x_e_179.2.1, x_e_179.2.2]; exact x_c_179
  · rw [x_e_180.1, x_e_180.2.1, x_e_180.2.2]; exact x_c_180
  · rw [x_e_181.1, x_e_181.2.1, x_e_181.2.2]; exact x_c_181
  · rw [x_e_182.1, x_e_182.2.1, x_e_182.2.2]; exact x_c_182
  · rw [x_e_183.1, x_e_183.2.1, x_e_183.2.2]; exact x_c_183
  · rw [x_e_184.1, x_e_184.2.1, x_e_184.2.2]; exact x_c_184
  · rw [x_e_185.1, x_e_185.2.1, x_e_185.2.2]; exact x_c_185
  · rw [x_e_186.1, x_e_186.2.1, x_e_186.2.2]; exact x_c_186
  · rw [x_e_187.1, x_e_187.2.1, x_e_187.2.2]; exact x_c_187
  · rw [x_e_188.1, x_e_188.2.1, x_e_188.2.2]; exact x_c_188
  · rw [x_e_189.1, x_e_189.2.1, x_e_189.2.2]; exact x_c_189
  · rw [x_e_190.1, x_e_190.2.1, x_e_190.2.2]; exact x_c_190
  · rw [x_e_191.1, x_e_191.2.1, x_e_191.2.2]; exact x_c_191
