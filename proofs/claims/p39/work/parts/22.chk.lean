/-! ===== printed by gen.py: the tables are checked, 2 ===== -/
theorem x_c_81 : x_chkT yX8_readOne cX8_readOne x_t_X8_readOne = true := xq_wkT 7 false xq_LKok_7 rfl (fun h => nomatch h) (by decide +kernel)
theorem x_e_81 : x_y 81 = yX8_readOne ∧ x_b 81 = cX8_readOne ∧ x_tab 81 = x_t_X8_readOne := ⟨rfl, rfl, rfl⟩
theorem x_c_82 : x_chkT yX8_readNested cX8_readNested x_t_X8_readNested = true := xq_wkT 7 false xq_LKok_7 rfl (fun h => nomatch h) (by decide +kernel)
theorem x_e_82 : x_y 82 = yX8_readNested ∧ x_b 82 = cX8_readNested ∧ x_tab 82 = x_t_X8_readNested := ⟨rfl, rfl, rfl⟩
theorem x_c_83 : x_chkT yX8_factTold cX8_factTold x_t_X8_factTold = true := xq_wkT 7 false xq_LKok_7 rfl (fun h => nomatch h) (by decide +kernel)
theorem x_e_83 : x_y 83 = yX8_factTold ∧ x_b 83 = cX8_factTold ∧ x_tab 83 = x_t_X8_factTold := ⟨rfl, rfl, rfl⟩
theorem x_c_84 : x_chkT yX8_readCase cX8_readCase x_t_X8_readCase = true := xq_wkT 7 false xq_LKok_7 rfl (fun h => nomatch h) (by decide +kernel)
theorem x_e_84 : x_y 84 = yX8_readCase ∧ x_b 84 = cX8_readCase ∧ x_tab 84 = x_t_X8_readCase := ⟨rfl, rfl, rfl⟩
theorem x_c_85 : x_chkT yX8_comparesTold cX8_comparesTold x_t_X8_comparesTold = true := xq_wkT 7 false xq_LKok_7 rfl (fun h => nomatch h) (by decide +kernel)
theorem x_e_85 : x_y 85 = yX8_comparesTold ∧ x_b 85 = cX8_comparesTold ∧ x_tab 85 = x_t_X8_comparesTold := ⟨rfl, rfl, rfl⟩
theorem x_c_86 : x_chkT yX9_init cX9_init x_t_X9_init = true := xq_wkT 8 true xq_LKok_8 rfl (fun _ => rfl) (by decide +kernel)
theorem x_e_86 : x_y 86 = yX9_init ∧ x_b 86 = cX9_init ∧ x_tab 86 = x_t_X9_init := ⟨rfl, rfl, rfl⟩
theorem x_c_87 : x_chkT yX9_step cX9_step x_t_X9_step = true := xq_wkT 8 false xq_LKok_8 rfl (fun h => nomatch h) (by decide +kernel)
theorem x_e_87 : x_y 87 = yX9_step ∧ x_b 87 = cX9_step ∧ x_tab 87 = x_t_X9_step := ⟨rfl, rfl, rfl⟩
theorem x_c_88 : x_chkT yX9_stepWord cX9_stepWord x_t_X9_stepWord = true := xq_wkT 8 false xq_LKok_8 rfl (fun h => nomatch h) (by decide +kernel)
theorem x_e_88 : x_y 88 = yX9_stepWord ∧ x_b 88 = cX9_stepWord ∧ x_tab 88 = x_t_X9_stepWord := ⟨rfl, rfl, rfl⟩
theorem x_c_89 : x_chkT yX9_stepNumber cX9_stepNumber x_t_X9_stepNumber = true := xq_wkT 8 false xq_LKok_8 rfl (fun h => nomatch h) (by decide +kernel)
theorem x_e_89 : x_y 89 = yX9_stepNumber ∧ x_b 89 = cX9_stepNumber ∧ x_tab 89 = x_t_X9_stepNumber := ⟨rfl, rfl, rfl⟩
theorem x_c_90 : x_chkT yX9_isSign cX9_isSign x_t_X9_isSign = true := xq_wkT 8 false xq_LKok_8 rfl (fun h => nomatch h) (by decide +kernel)
theorem x_e_90 : x_y 90 = yX9_isSign ∧ x_b 90 = cX9_isSign ∧ x_tab 90 = x_t_X9_isSign := ⟨rfl, rfl, rfl⟩
theorem x_c_91 : x_chkT yX9_refuseToken cX9_refuseToken x_t_X9_refuseToken = true := xq_wkT 8 false xq_LKok_8 rfl (fun h => nomatch h) (by decide +kernel)
theorem x_e_91 : x_y 91 = yX9_refuseToken ∧ x_b 91 = cX9_refuseToken ∧ x_tab 91 = x_t_X9_refuseToken := ⟨rfl, rfl, rfl⟩
theorem x_c_92 : x_chkT yX9_isName cX9_isName x_t_X9_isName = true := xq_wkT 8 false xq_LKok_8 rfl (fun h => nomatch h) (by decide +kernel)
theorem x_e_92 : x_y 92 = yX9_isName ∧ x_b 92 = cX9_isName ∧ x_tab 92 = x_t_X9_isName := ⟨rfl, rfl, rfl⟩
theorem x_c_93 : x_chkT yX9_isBlasts cX9_isBlasts x_t_X9_isBlasts = true := xq_wkT 8 false xq_LKok_8 rfl (fun h => nomatch h) (by decide +kernel)
theorem x_e_93 : x_y 93 = yX9_isBlasts ∧ x_b 93 = cX9_isBlasts ∧ x_tab 93 = x_t_X9_isBlasts := ⟨rfl, rfl, rfl⟩
theorem x_c_94 : x_chkT yX9_isSignOf cX9_isSignOf x_t_X9_isSignOf = true := xq_wkT 8 false xq_LKok_8 rfl (fun h => nomatch h) (by decide +kernel)
theorem x_e_94 : x_y 94 = yX9_isSignOf ∧ x_b 94 = cX9_isSignOf ∧ x_tab 94 = x_t_X9_isSignOf := ⟨rfl, rfl, rfl⟩
theorem x_c_95 : x_chkT yX9_takeKeyword cX9_takeKeyword x_t_X9_takeKeyword = true := xq_wkT 8 false xq_LKok_8 rfl (fun h => nomatch h) (by decide +kernel)
theorem x_e_95 : x_y 95 = yX9_takeKeyword ∧ x_b 95 = cX9_takeKeyword ∧ x_tab 95 = x_t_X9_takeKeyword := ⟨rfl, rfl, rfl⟩
theorem x_c_96 : x_chkT yX9_takeSign cX9_takeSign x_t_X9_takeSign = true := xq_wkT 8 false xq_LKok_8 rfl (fun h => nomatch h) (by decide +kernel)
theorem x_e_96 : x_y 96 = yX9_takeSign ∧ x_b 96 = cX9_takeSign ∧ x_tab 96 = x_t_X9_takeSign := ⟨rfl, rfl, rfl⟩
theorem x_c_97 : x_chkT yX9_takeNumber cX9_takeNumber x_t_X9_takeNumber = true := xq_wkT 8 false xq_LKok_8 rfl (fun h => nomatch h) (by decide +kernel)
theorem x_e_97 : x_y 97 = yX9_takeNumber ∧ x_b 97 = cX9_takeNumber ∧ x_tab 97 = x_t_X9_takeNumber := ⟨rfl, rfl, rfl⟩
theorem x_c_98 : x_chkT yX10_init cX10_init x_t_X10_init = true := xq_wkT 9 true xq_LKok_9 rfl (fun _ => rfl) (by decide +kernel)
theorem x_e_98 : x_y 98 = yX10_init ∧ x_b 98 = cX10_init ∧ x_tab 98 = x_t_X10_init := ⟨rfl, rfl, rfl⟩
theorem x_c_99 : x_chkT yX10_lay cX10_lay x_t_X10_lay = true := xq_wkT 9 false xq_LKok_9 rfl (fun h => nomatch h) (by decide +kernel)
theorem x_e_99 : x_y 99 = yX10_lay ∧ x_b 99 = cX10_lay ∧ x_tab 99 = x_t_X10_lay := ⟨rfl, rfl, rfl⟩
theorem x_c_100 : x_chkT yX10_isMissing cX10_isMissing x_t_X10_isMissing = true := xq_wkT 9 false xq_LKok_9 rfl (fun h => nomatch h) (by decide +kernel)
theorem x_e_100 : x_y 100 = yX10_isMissing ∧ x_b 100 = cX10_isMissing ∧ x_tab 100 = x_t_X10_isMissing := ⟨rfl, rfl, rfl⟩
theorem x_c_101 : x_chkT yX10_hasStretch cX10_hasStretch x_t_X10_hasStretch = true := xq_wkT 9 false xq_LKok_9 rfl (fun h => nomatch h) (by decide +kernel)
theorem x_e_101 : x_y 101 = yX10_hasStretch ∧ x_b 101 = cX10_hasStretch ∧ x_tab 101 = x_t_X10_hasStretch := ⟨rfl, rfl, rfl⟩
theorem x_c_102 : x_chkT yX10_put cX10_put x_t_X10_put = true := xq_wkT 9 false xq_LKok_9 rfl (fun h => nomatch h) (by decide +kernel)
theorem x_e_102 : x_y 102 = yX10_put ∧ x_b 102 = cX10_put ∧ x_tab 102 = x_t_X10_put := ⟨rfl, rfl, rfl⟩
theorem x_c_103 : x_chkT yX11_init cX11_init x_t_X11_init = true := xq_wkT 10 true xq_LKok_10 rfl (fun _ => rfl) (by decide +kernel)
theorem x_e_103 : x_y 103 = yX11_init ∧ x_b 103 = cX11_init ∧ x_tab 103 = x_t_X11_init := ⟨rfl, rfl, rfl⟩
theorem x_c_104 : x_chkT yX11_status cX11_status x_t_X11_status = true := xq_wkT 10 false xq_LKok_10 rfl (fun h => nomatch h) (by decide +kernel)
theorem x_e_104 : x_y 104 = yX11_status ∧ x_b 104 = cX11_status ∧ x_tab 104 = x_t_X11_status := ⟨rfl, rfl, rfl⟩
theorem x_c_105 : x_chkT yX11_top cX11_top x_t_X11_top = true := xq_wkT 10 false xq_LKok_10 rfl (fun h => nomatch h) (by decide +kernel)
theorem x_e_105 : x_y 105 = yX11_top ∧ x_b 105 = cX11_top ∧ x_tab 105 = x_t_X11_top := ⟨rfl, rfl, rfl⟩
theorem x_c_106 : x_chkT yX11_bottom cX11_bottom x_t_X11_bottom = true := xq_wkT 10 false xq_LKok_10 rfl (fun h => nomatch h) (by decide +kernel)
theorem x_e_106 : x_y 106 = yX11_bottom ∧ x_b 106 = cX11_bottom ∧ x_tab 106 = x_t_X11_bottom := ⟨rfl, rfl, rfl⟩
theorem x_c_107 : x_chkT yX11_tray cX11_tray x_t_X11_tray = true := xq_wkT 10 false xq_LKok_10 rfl (fun h => nomatch h) (by decide +kernel)
theorem x_e_107 : x_y 107 = yX11_tray ∧ x_b 107 = cX11_tray ∧ x_tab 107 = x_t_X11_tray := ⟨rfl, rfl, rfl⟩
theorem x_c_108 : x_chkT yX11_write cX11_write x_t_X11_write = true := xq_wkT 10 false xq_LKok_10 rfl (fun h => nomatch h) (by decide +kernel)
theorem x_e_108 : x_y 108 = yX11_write ∧ x_b 108 = cX11_write ∧ x_tab 108 = x_t_X11_write := ⟨rfl, rfl, rfl⟩
theorem x_c_109 : x_chkT yX11_read cX11_read x_t_X11_read = true := xq_wkT 10 false xq_LKok_10 rfl (fun h => nomatch h) (by decide +kernel)
theorem x_e_109 : x_y 109 = yX11_read ∧ x_b 109 = cX11_read ∧ x_tab 109 = x_t_X11_read := ⟨rfl, rfl, rfl⟩
theorem x_c_110 : x_chkT yX11_pour cX11_pour x_t_X11_pour = true := xq_wkT 10 false xq_LKok_10 rfl (fun h => nomatch h) (by decide +kernel)
theorem x_e_110 : x_y 110 = yX11_pour ∧ x_b 110 = cX11_pour ∧ x_tab 110 = x_t_X11_pour := ⟨rfl, rfl, rfl⟩
theorem x_c_111 : x_chkT yX11_isTray cX11_isTray x_t_X11_isTray = true := xq_wkT 10 false xq_LKok_10 rfl (fun h => nomatch h) (by decide +kernel)
theorem x_e_111 : x_y 111 = yX11_isTray ∧ x_b 111 = cX11_isTray ∧ x_tab 111 = x_t_X11_isTray := ⟨rfl, rfl, rfl⟩
theorem x_c_112 : x_chkT yX11_wrongPlace cX11_wrongPlace x_t_X11_wrongPlace = true := xq_wkT 10 false xq_LKok_10 rfl (fun h => nomatch h) (by decide +kernel)
theorem x_e_112 : x_y 112 = yX11_wrongPlace ∧ x_b 112 = cX11_wrongPlace ∧ x_tab 112 = x_t_X11_wrongPlace := ⟨rfl, rfl, rfl⟩
theorem x_c_113 : x_chkT yX11_feed cX11_feed x_t_X11_feed = true := xq_wkT 10 false xq_LKok_10 rfl (fun h => nomatch h) (by decide +kernel)
theorem x_e_113 : x_y 113 = yX11_feed ∧ x_b 113 = cX11_feed ∧ x_tab 113 = x_t_X11_feed := ⟨rfl, rfl, rfl⟩
theorem x_c_114 : x_chkT yX11_feedOne cX11_feedOne x_t_X11_feedOne = true := xq_wkT 10 false xq_LKok_10 rfl (fun h => nomatch h) (by decide +kernel)
theorem x_e_114 : x_y 114 = yX11_feedOne ∧ x_b 114 = cX11_feedOne ∧ x_tab 114 = x_t_X11_feedOne := ⟨rfl, rfl, rfl⟩
theorem x_c_115 : x_chkT yX11_river cX11_river x_t_X11_river = true := xq_wkT 10 false xq_LKok_10 rfl (fun h => nomatch h) (by decide +kernel)
theorem x_e_115 : x_y 115 = yX11_river ∧ x_b 115 = cX11_river ∧ x_tab 115 = x_t_X11_river := ⟨rfl, rfl, rfl⟩
theorem x_c_116 : x_chkT yX11_rules cX11_rules x_t_X11_rules = true := xq_wkT 10 false xq_LKok_10 rfl (fun h => nomatch h) (by decide +kernel)
theorem x_e_116 : x_y 116 = yX11_rules ∧ x_b 116 = cX11_rules ∧ x_tab 116 = x_t_X11_rules := ⟨rfl, rfl, rfl⟩
theorem x_c_117 : x_chkT yX11_endText cX11_endText x_t_X11_endText = true := xq_wkT 10 false xq_LKok_10 rfl (fun h => nomatch h) (by decide +kernel)
theorem x_e_117 : x_y 117 = yX11_endText ∧ x_b 117 = cX11_endText ∧ x_tab 117 = x_t_X11_endText := ⟨rfl, rfl, rfl⟩
theorem x_c_118 : x_chkT yX11_fault cX11_fault x_t_X11_fault = true := xq_wkT 10 false xq_LKok_10 rfl (fun h => nomatch h) (by decide +kernel)
theorem x_e_118 : x_y 118 = yX11_fault ∧ x_b 118 = cX11_fault ∧ x_tab 118 = x_t_X11_fault := ⟨rfl, rfl, rfl⟩
theorem x_c_119 : x_chkT yX11_told cX11_told x_t_X11_told = true := xq_wkT 10 false xq_LKok_10 rfl (fun h => nomatch h) (by decide +kernel)
theorem x_e_119 : x_y 119 = yX11_told ∧ x_b 119 = cX11_told ∧ x_tab 119 = x_t_X11_told := ⟨rfl, rfl, rfl⟩
theorem x_c_120 : x_chkT yX11_ship cX11_ship x_t_X11_ship = true := xq_wkT 10 false xq_LKok_10 rfl (fun h => nomatch h) (by decide +kernel)
theorem x_e_120 : x_y 120 = yX11_ship ∧ x_b 120 = cX11_ship ∧ x_tab 120 = x_t_X11_ship := ⟨rfl, rfl, rfl⟩
theorem x_c_121 : x_chkT yX11_cart cX11_cart x_t_X11_cart = true := xq_wkT 10 false xq_LKok_10 rfl (fun h => nomatch h) (by decide +kernel)
theorem x_e_121 : x_y 121 = yX11_cart ∧ x_b 121 = cX11_cart ∧ x_tab 121 = x_t_X11_cart := ⟨rfl, rfl, rfl⟩
theorem x_c_122 : x_chkT yX11_nextShip cX11_nextShip x_t_X11_nextShip = true := xq_wkT 10 false xq_LKok_10 rfl (fun h => nomatch h) (by decide +kernel)
theorem x_e_122 : x_y 122 = yX11_nextShip ∧ x_b 122 = cX11_nextShip ∧ x_tab 122 = x_t_X11_nextShip := ⟨rfl, rfl, rfl⟩
theorem x_c_123 : x_chkT yX11_nextCart cX11_nextCart x_t_X11_nextCart = true := xq_wkT 10 false xq_LKok_10 rfl (fun h => nomatch h) (by decide +kernel)
theorem x_e_123 : x_y 123 = yX11_nextCart ∧ x_b 123 = cX11_nextCart ∧ x_tab 123 = x_t_X11_nextCart := ⟨rfl, rfl, rfl⟩
theorem x_c_124 : x_chkT yX11_isPort cX11_isPort x_t_X11_isPort = true := xq_wkT 10 false xq_LKok_10 rfl (fun h => nomatch h) (by decide +kernel)
theorem x_e_124 : x_y 124 = yX11_isPort ∧ x_b 124 = cX11_isPort ∧ x_tab 124 = x_t_X11_isPort := ⟨rfl, rfl, rfl⟩
theorem x_c_125 : x_chkT yX11_isShip cX11_isShip x_t_X11_isShip = true := xq_wkT 10 false xq_LKok_10 rfl (fun h => nomatch h) (by decide +kernel)
theorem x_e_125 : x_y 125 = yX11_isShip ∧ x_b 125 = cX11_isShip ∧ x_tab 125 = x_t_X11_isShip := ⟨rfl, rfl, rfl⟩
theorem x_c_126 : x_chkT yX11_isCart cX11_isCart x_t_X11_isCart = true := xq_wkT 10 false xq_LKok_10 rfl (fun h => nomatch h) (by decide +kernel)
theorem x_e_126 : x_y 126 = yX11_isCart ∧ x_b 126 = cX11_isCart ∧ x_tab 126 = x_t_X11_isCart := ⟨rfl, rfl, rfl⟩
theorem x_c_127 : x_chkT yX11_sound cX11_sound x_t_X11_sound = true := xq_wkT 10 false xq_LKok_10 rfl (fun h => nomatch h) (by decide +kernel)
theorem x_e_127 : x_y 127 = yX11_sound ∧ x_b 127 = cX11_sound ∧ x_tab 127 = x_t_X11_sound := ⟨rfl, rfl, rfl⟩
theorem x_c_128 : x_chkT yX11_heard cX11_heard x_t_X11_heard = true := xq_wkT 10 false xq_LKok_10 rfl (fun h => nomatch h) (by decide +kernel)
theorem x_e_128 : x_y 128 = yX11_heard ∧ x_b 128 = cX11_heard ∧ x_tab 128 = x_t_X11_heard := ⟨rfl, rfl, rfl⟩
theorem x_c_129 : x_chkT yX11_together cX11_together x_t_X11_together = true := xq_wkT 10 false xq_LKok_10 rfl (fun h => nomatch h) (by decide +kernel)
theorem x_e_129 : x_y 129 = yX11_together ∧ x_b 129 = cX11_together ∧ x_tab 129 = x_t_X11_together := ⟨rfl, rfl, rfl⟩
theorem x_c_130 : x_chkT yX11_lasts cX11_lasts x_t_X11_lasts = true := xq_wkT 10 false xq_LKok_10 rfl (fun h => nomatch h) (by decide +kernel)
theorem x_e_130 : x_y 130 = yX11_lasts ∧ x_b 130 = cX11_lasts ∧ x_tab 130 = x_t_X11_lasts := ⟨rfl, rfl, rfl⟩
theorem x_c_131 : x_chkT yX11_far cX11_far x_t_X11_far = true := xq_wkT 10 false xq_LKok_10 rfl (fun h => nomatch h) (by decide +kernel)
theorem x_e_131 : x_y 131 = yX11_far ∧ x_b 131 = cX11_far ∧ x_tab 131 = x_t_X11_far := ⟨rfl, rfl, rfl⟩
theorem x_c_132 : x_chkT yX11_readings cX11_readings x_t_X11_readings = true := xq_wkT 10 false xq_LKok_10 rfl (fun h => nomatch h) (by decide +kernel)
theorem x_e_132 : x_y 132 = yX11_readings ∧ x_b 132 = cX11_readings ∧ x_tab 132 = x_t_X11_readings := ⟨rfl, rfl, rfl⟩
theorem x_mA_2 : ∀ k, 81 ≤ k → k < 133 → x_okM k := xq_mAs (n := 52) (by decide +kernel)
theorem x_cA_2 : ∀ k, 81 ≤ k → k < 133 → x_chkT (x_y k) (x_b k) (x_tab k) = true := by
  intro k h1 h2
  obtain rfl | rfl | rfl | rfl | rfl | rfl | rfl | rfl | rfl | rfl | rfl | rfl | rfl | rfl | rfl | rfl | rfl | rfl | rfl | rfl | rfl | rfl | rfl | rfl | rfl | rfl | rfl | rfl | rfl | rfl | rfl | rfl | rfl | rfl | rfl | rfl | rfl | rfl | rfl | rfl | rfl | rfl | rfl | rfl | rfl | rfl | rfl | rfl | rfl | rfl | rfl | rfl : k = 81 ∨ k = 82 ∨ k = 83 ∨ k = 84 ∨ k = 85 ∨ k = 86 ∨ k = 87 ∨ k = 88 ∨ k = 89 ∨ k = 90 ∨ k = 91 ∨ k = 92 ∨ k = 93 ∨ k = 94 ∨ k = 95 ∨ k = 96 ∨ k = 97 ∨ k = 98 ∨ k = 99 ∨ k = 100 ∨ k = 101 ∨ k = 102 ∨ k = 103 ∨ k = 104 ∨ k = 105 ∨ k = 106 ∨ k = 107 ∨ k = 108 ∨ k = 109 ∨ k = 110 ∨ k = 111 ∨ k = 112 ∨ k = 113 ∨ k = 114 ∨ k = 115 ∨ k = 116 ∨ k = 117 ∨ k = 118 ∨ k = 119 ∨ k = 120 ∨ k = 121 ∨ k = 122 ∨ k = 123 ∨ k = 124 ∨ k = 125 ∨ k = 126 ∨ k = 127 ∨ k = 128 ∨ k = 129 ∨ k = 130 ∨ k = 131 ∨ k = 132 := by omega
  · rw [x_e_81.1, x_e_81.2.1, x_e_81.2.2]; exact x_c_81
  · rw [x_e_82.1, x_e_82.2.1, x_e_82.2.2]; exact x_c_82
  · rw [x_e_83.1, x_e_83.2.1, x_e_83.2.2]; exact x_c_83
  · rw [x_e_84.1, x_e_84.2.1, x_e_84.2.2]; exact x_c_84
  · rw [x_e_85.1, x_e_85.2.1, x_e_85.2.2]; exact x_c_85
  · rw [x_e_86.1, x_e_86.2.1, x_e_86.2.2]; exact x_c_86
  · rw [x_e_87.1, x_e_87.2.1, x_e_87.2.2]; exact x_c_87
  · rw [x_e_88.1, x_e_88.2.1, x_e_88.2.2]; exact x_c_88
  · rw [x_e_89.1, x_e_89.2.1, x_e_89.2.2]; exact x_c_89
  · rw [x_e_90.1, x_e_90.2.1, x_e_90.2.2]; exact x_c_90
  · rw [x_e_91.1, x_e_91.2.1, x_e_91.2.2]; exact x_c_91
  · rw [x_e_92.1, x_e_92.2.1, x_e_92.2.2]; exact x_c_92
  · rw [x_e_93.1, x_e_93.2.1, x_e_93.2.2]; exact x_c_93
  · rw [x_e_94.1, x_e_94.2.1, x_e_94.2.2]; exact x_c_94
  · rw [x_e_95.1, x_e_95.2.1, x_e_95.2.2]; exact x_c_95
  · rw [x_e_96.1, x_e_96.2.1, x_e_96.2.2]; exact x_c_96
  · rw [x_e_97.1, x_e_97.2.1, x_e_97.2.2]; exact x_c_97
  · rw [x_e_98.1, x_e_98.2.1, x_e_98.2.2]; exact x_c_98
  · rw [x_e_99.1, x_e_99.2.1, x_e_99.2.2]; exact x_c_99
  · rw [x_e_100.1, x_e_100.2.1, x_e_100.2.2]; exact x_c_100
  · rw [x_e_101.1, x_e_101.2.1, x_e_101.2.2]; exact x_c_101
  · rw [x_e_102.1, x_e_102.2.1, x_e_102.2.2]; exact x_c_102
  · rw [x_e_103.1, x_e_103.2.1, x_e_103.2.2]; exact x_c_103
  · rw [x_e_104.1, x_e_104.2.1, x_e_104.2.2]; exact x_c_104
  · rw [x_e_105.1, x_e_105.2.1, x_e_105.2.2]; exact x_c_105
  · rw [x_e_106.1, x_e_106.2.1, x_e_106.2.2]; exact x_c_106
  · rw [x_e_107.1, x_e_107.2.1, x_e_107.2.2]; exact x_c_107
  · rw [x_e_108.1, x_e_108.2.1, x_e_108.2.2]; exact x_c_108
  · rw [x_e_109.1, x_e_109.2.1, x_e_109.2.2]; exact x_c_109
  · rw [x_e_110.1, x_e_110.2.1, x_e_110.2.2]; exact x_c_110
  · rw [x_e_111.1, x_e_111.2.1, x_e_111.2.2]; exact x_c_111
  · rw [x_e_112.1, x_e_112.2.1, x_e_112.2.2]; exact x_c_112
  · rw [x_e_113.1, x_e_113.2.1, x_e_113.2.2]; exact x_c_113
  · rw [x_e_114.1, x_e_114.2.1, x_e_114.2.2]; exact x_c_114
  · rw [x_e_115.1, x_e_115.2.1, x_e_115.2.2]; exact x_c_115
  · rw [x_e_116.1, x_e_116.2.1, x_e_116.2.2]; exact x_c_116
  · rw [x_e_117.1, x_e_117.2.1, x_e_117.2.2]; exact x_c_117
  · rw [x_e_118.1, x_e_118.2.1, x_e_118.2.2]; exact x_c_118
  · rw [x_e_119.1, x_e_119.2.1, x_e_119.2.2]; exact x_c_119
  · rw [x_e_120.1, x_e_120.2.1, x_e_120.2.2]; exact x_c_120
  · rw [x_e_121.1, x_e_121.2.1, x_e_121.2.2]; exact x_c_121
  · rw [x_e_122.1, x_e_122.2.1, x_e_122.2.2]; exact x_c_122
  · rw [x_e_123.1, x_e_123.2.1, x_e_123.2.2]; exact x_c_123
  · rw [x_e_124.1, x_e_124.2.1, x_e_124.2.2]; exact x_c_124
  · rw [x_e_125.1, x_e_125.2.1, x_e_125.2.2]; exact x_c_125
  · rw [x_e_126.1, x_e_126.2.1, x_e_126.2.2]; exact x_c_126
  · rw [x_e_127.1, x_e_127.2.1, x_e_127.2.2]; exact x_c_127
  · rw [x_e_128.1, x_e_128.2.1, x_e_128.2.2]; exact x_c_128
  · rw [x_e_129.1, x_e_129.2.1, x_e_129.2.2]; exact x_c_129
  · rw [x_e_130.1, x_e_130.2.1, x_e_130.2.2]; exact x_c_130
  · rw [x_e_131.1, x_e_131.2.1, x_e_131.2.2]; exact x_c_131
  · rw [x_e_132.1, x_e_132.2.1, x_e_132.2.2]; exact x_c_132
