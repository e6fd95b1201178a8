/-! ===== printed by gen.py: the tables are checked, 1 ===== -/
theorem x_c_40 : x_chkT yX2_beginNext cX2_beginNext x_t_X2_beginNext = true := xq_wkT 2 false xq_LKok_2 rfl (fun h => nomatch h) (by decide +kernel)
theorem x_e_40 : x_y 40 = yX2_beginNext ∧ x_b 40 = cX2_beginNext ∧ x_tab 40 = x_t_X2_beginNext := ⟨rfl, rfl, rfl⟩
theorem x_c_41 : x_chkT yX2_begin cX2_begin x_t_X2_begin = true := xq_wkT 2 false xq_LKok_2 rfl (fun h => nomatch h) (by decide +kernel)
theorem x_e_41 : x_y 41 = yX2_begin ∧ x_b 41 = cX2_begin ∧ x_tab 41 = x_t_X2_begin := ⟨rfl, rfl, rfl⟩
theorem x_c_42 : x_chkT yX2_left cX2_left x_t_X2_left = true := xq_wkT 2 false xq_LKok_2 rfl (fun h => nomatch h) (by decide +kernel)
theorem x_e_42 : x_y 42 = yX2_left ∧ x_b 42 = cX2_left ∧ x_tab 42 = x_t_X2_left := ⟨rfl, rfl, rfl⟩
theorem x_c_43 : x_chkT yX2_tellDay cX2_tellDay x_t_X2_tellDay = true := xq_wkT 2 false xq_LKok_2 rfl (fun h => nomatch h) (by decide +kernel)
theorem x_e_43 : x_y 43 = yX2_tellDay ∧ x_b 43 = cX2_tellDay ∧ x_tab 43 = x_t_X2_tellDay := ⟨rfl, rfl, rfl⟩
theorem x_c_44 : x_chkT yX4_init cX4_init x_t_X4_init = true := xq_wkT 3 true xq_LKok_3 rfl (fun _ => rfl) (by decide +kernel)
theorem x_e_44 : x_y 44 = yX4_init ∧ x_b 44 = cX4_init ∧ x_tab 44 = x_t_X4_init := ⟨rfl, rfl, rfl⟩
theorem x_c_45 : x_chkT yX4_clear cX4_clear x_t_X4_clear = true := xq_wkT 3 false xq_LKok_3 rfl (fun h => nomatch h) (by decide +kernel)
theorem x_e_45 : x_y 45 = yX4_clear ∧ x_b 45 = cX4_clear ∧ x_tab 45 = x_t_X4_clear := ⟨rfl, rfl, rfl⟩
theorem x_c_46 : x_chkT yX4_join cX4_join x_t_X4_join = true := xq_wkT 3 false xq_LKok_3 rfl (fun h => nomatch h) (by decide +kernel)
theorem x_e_46 : x_y 46 = yX4_join ∧ x_b 46 = cX4_join ∧ x_tab 46 = x_t_X4_join := ⟨rfl, rfl, rfl⟩
theorem x_c_47 : x_chkT yX4_put cX4_put x_t_X4_put = true := xq_wkT 3 false xq_LKok_3 rfl (fun h => nomatch h) (by decide +kernel)
theorem x_e_47 : x_y 47 = yX4_put ∧ x_b 47 = cX4_put ∧ x_tab 47 = x_t_X4_put := ⟨rfl, rfl, rfl⟩
theorem x_c_48 : x_chkT yX5_init cX5_init x_t_X5_init = true := xq_wkT 4 true xq_LKok_4 rfl (fun _ => rfl) (by decide +kernel)
theorem x_e_48 : x_y 48 = yX5_init ∧ x_b 48 = cX5_init ∧ x_tab 48 = x_t_X5_init := ⟨rfl, rfl, rfl⟩
theorem x_c_49 : x_chkT yX5_turnLength cX5_turnLength x_t_X5_turnLength = true := xq_wkT 4 false xq_LKok_4 rfl (fun h => nomatch h) (by decide +kernel)
theorem x_e_49 : x_y 49 = yX5_turnLength ∧ x_b 49 = cX5_turnLength ∧ x_tab 49 = x_t_X5_turnLength := ⟨rfl, rfl, rfl⟩
theorem x_c_50 : x_chkT yX5_soundOf cX5_soundOf x_t_X5_soundOf = true := xq_wkT 4 false xq_LKok_4 rfl (fun h => nomatch h) (by decide +kernel)
theorem x_e_50 : x_y 50 = yX5_soundOf ∧ x_b 50 = cX5_soundOf ∧ x_tab 50 = x_t_X5_soundOf := ⟨rfl, rfl, rfl⟩
theorem x_c_51 : x_chkT yX5_withEcho cX5_withEcho x_t_X5_withEcho = true := xq_wkT 4 false xq_LKok_4 rfl (fun h => nomatch h) (by decide +kernel)
theorem x_e_51 : x_y 51 = yX5_withEcho ∧ x_b 51 = cX5_withEcho ∧ x_tab 51 = x_t_X5_withEcho := ⟨rfl, rfl, rfl⟩
theorem x_c_52 : x_chkT yX5_heardOf cX5_heardOf x_t_X5_heardOf = true := xq_wkT 4 false xq_LKok_4 rfl (fun h => nomatch h) (by decide +kernel)
theorem x_e_52 : x_y 52 = yX5_heardOf ∧ x_b 52 = cX5_heardOf ∧ x_tab 52 = x_t_X5_heardOf := ⟨rfl, rfl, rfl⟩
theorem x_c_53 : x_chkT yX5_bothHeard cX5_bothHeard x_t_X5_bothHeard = true := xq_wkT 4 false xq_LKok_4 rfl (fun h => nomatch h) (by decide +kernel)
theorem x_e_53 : x_y 53 = yX5_bothHeard ∧ x_b 53 = cX5_bothHeard ∧ x_tab 53 = x_t_X5_bothHeard := ⟨rfl, rfl, rfl⟩
theorem x_c_54 : x_chkT yX5_leastBeats cX5_leastBeats x_t_X5_leastBeats = true := xq_wkT 4 false xq_LKok_4 rfl (fun h => nomatch h) (by decide +kernel)
theorem x_e_54 : x_y 54 = yX5_leastBeats ∧ x_b 54 = cX5_leastBeats ∧ x_tab 54 = x_t_X5_leastBeats := ⟨rfl, rfl, rfl⟩
theorem x_c_55 : x_chkT yX5_countReadings cX5_countReadings x_t_X5_countReadings = true := xq_wkT 4 false xq_LKok_4 rfl (fun h => nomatch h) (by decide +kernel)
theorem x_e_55 : x_y 55 = yX5_countReadings ∧ x_b 55 = cX5_countReadings ∧ x_tab 55 = x_t_X5_countReadings := ⟨rfl, rfl, rfl⟩
theorem x_c_56 : x_chkT yX5_countBeats cX5_countBeats x_t_X5_countBeats = true := xq_wkT 4 false xq_LKok_4 rfl (fun h => nomatch h) (by decide +kernel)
theorem x_e_56 : x_y 56 = yX5_countBeats ∧ x_b 56 = cX5_countBeats ∧ x_tab 56 = x_t_X5_countBeats := ⟨rfl, rfl, rfl⟩
theorem x_c_57 : x_chkT yX5_couplesAlike cX5_couplesAlike x_t_X5_couplesAlike = true := xq_wkT 4 false xq_LKok_4 rfl (fun h => nomatch h) (by decide +kernel)
theorem x_e_57 : x_y 57 = yX5_couplesAlike ∧ x_b 57 = cX5_couplesAlike ∧ x_tab 57 = x_t_X5_couplesAlike := ⟨rfl, rfl, rfl⟩
theorem x_c_58 : x_chkT yX6_init cX6_init x_t_X6_init = true := xq_wkT 5 true xq_LKok_5 rfl (fun _ => rfl) (by decide +kernel)
theorem x_e_58 : x_y 58 = yX6_init ∧ x_b 58 = cX6_init ∧ x_tab 58 = x_t_X6_init := ⟨rfl, rfl, rfl⟩
theorem x_c_59 : x_chkT yX6_readAll cX6_readAll x_t_X6_readAll = true := xq_wkT 5 false xq_LKok_5 rfl (fun h => nomatch h) (by decide +kernel)
theorem x_e_59 : x_y 59 = yX6_readAll ∧ x_b 59 = cX6_readAll ∧ x_tab 59 = x_t_X6_readAll := ⟨rfl, rfl, rfl⟩
theorem x_c_60 : x_chkT yX6_readPort cX6_readPort x_t_X6_readPort = true := xq_wkT 5 false xq_LKok_5 rfl (fun h => nomatch h) (by decide +kernel)
theorem x_e_60 : x_y 60 = yX6_readPort ∧ x_b 60 = cX6_readPort ∧ x_tab 60 = x_t_X6_readPort := ⟨rfl, rfl, rfl⟩
theorem x_c_61 : x_chkT yX6_readTurns cX6_readTurns x_t_X6_readTurns = true := xq_wkT 5 false xq_LKok_5 rfl (fun h => nomatch h) (by decide +kernel)
theorem x_e_61 : x_y 61 = yX6_readTurns ∧ x_b 61 = cX6_readTurns ∧ x_tab 61 = x_t_X6_readTurns := ⟨rfl, rfl, rfl⟩
theorem x_c_62 : x_chkT yX6_readFrost cX6_readFrost x_t_X6_readFrost = true := xq_wkT 5 false xq_LKok_5 rfl (fun h => nomatch h) (by decide +kernel)
theorem x_e_62 : x_y 62 = yX6_readFrost ∧ x_b 62 = cX6_readFrost ∧ x_tab 62 = x_t_X6_readFrost := ⟨rfl, rfl, rfl⟩
theorem x_c_63 : x_chkT yX6_readEcho cX6_readEcho x_t_X6_readEcho = true := xq_wkT 5 false xq_LKok_5 rfl (fun h => nomatch h) (by decide +kernel)
theorem x_e_63 : x_y 63 = yX6_readEcho ∧ x_b 63 = cX6_readEcho ∧ x_tab 63 = x_t_X6_readEcho := ⟨rfl, rfl, rfl⟩
theorem x_c_64 : x_chkT yX6_readShip cX6_readShip x_t_X6_readShip = true := xq_wkT 5 false xq_LKok_5 rfl (fun h => nomatch h) (by decide +kernel)
theorem x_e_64 : x_y 64 = yX6_readShip ∧ x_b 64 = cX6_readShip ∧ x_tab 64 = x_t_X6_readShip := ⟨rfl, rfl, rfl⟩
theorem x_c_65 : x_chkT yX6_readCart cX6_readCart x_t_X6_readCart = true := xq_wkT 5 false xq_LKok_5 rfl (fun h => nomatch h) (by decide +kernel)
theorem x_e_65 : x_y 65 = yX6_readCart ∧ x_b 65 = cX6_readCart ∧ x_tab 65 = x_t_X6_readCart := ⟨rfl, rfl, rfl⟩
theorem x_c_66 : x_chkT yX6_readComing cX6_readComing x_t_X6_readComing = true := xq_wkT 5 false xq_LKok_5 rfl (fun h => nomatch h) (by decide +kernel)
theorem x_e_66 : x_y 66 = yX6_readComing ∧ x_b 66 = cX6_readComing ∧ x_tab 66 = x_t_X6_readComing := ⟨rfl, rfl, rfl⟩
theorem x_c_67 : x_chkT yX6_takeNewName cX6_takeNewName x_t_X6_takeNewName = true := xq_wkT 5 false xq_LKok_5 rfl (fun h => nomatch h) (by decide +kernel)
theorem x_e_67 : x_y 67 = yX6_takeNewName ∧ x_b 67 = cX6_takeNewName ∧ x_tab 67 = x_t_X6_takeNewName := ⟨rfl, rfl, rfl⟩
theorem x_c_68 : x_chkT yX6_portNamed cX6_portNamed x_t_X6_portNamed = true := xq_wkT 5 false xq_LKok_5 rfl (fun h => nomatch h) (by decide +kernel)
theorem x_e_68 : x_y 68 = yX6_portNamed ∧ x_b 68 = cX6_portNamed ∧ x_tab 68 = x_t_X6_portNamed := ⟨rfl, rfl, rfl⟩
theorem x_c_69 : x_chkT yX7_init cX7_init x_t_X7_init = true := xq_wkT 6 true xq_LKok_6 rfl (fun _ => rfl) (by decide +kernel)
theorem x_e_69 : x_y 69 = yX7_init ∧ x_b 69 = cX7_init ∧ x_tab 69 = x_t_X7_init := ⟨rfl, rfl, rfl⟩
theorem x_c_70 : x_chkT yX7_addStep cX7_addStep x_t_X7_addStep = true := xq_wkT 6 false xq_LKok_6 rfl (fun h => nomatch h) (by decide +kernel)
theorem x_e_70 : x_y 70 = yX7_addStep ∧ x_b 70 = cX7_addStep ∧ x_tab 70 = x_t_X7_addStep := ⟨rfl, rfl, rfl⟩
theorem x_c_71 : x_chkT yX7_endRule cX7_endRule x_t_X7_endRule = true := xq_wkT 6 false xq_LKok_6 rfl (fun h => nomatch h) (by decide +kernel)
theorem x_e_71 : x_y 71 = yX7_endRule ∧ x_b 71 = cX7_endRule ∧ x_tab 71 = x_t_X7_endRule := ⟨rfl, rfl, rfl⟩
theorem x_c_72 : x_chkT yX7_actBy cX7_actBy x_t_X7_actBy = true := xq_wkT 6 false xq_LKok_6 rfl (fun h => nomatch h) (by decide +kernel)
theorem x_e_72 : x_y 72 = yX7_actBy ∧ x_b 72 = cX7_actBy ∧ x_tab 72 = x_t_X7_actBy := ⟨rfl, rfl, rfl⟩
theorem x_c_73 : x_chkT yX7_holds cX7_holds x_t_X7_holds = true := xq_wkT 6 false xq_LKok_6 rfl (fun h => nomatch h) (by decide +kernel)
theorem x_e_73 : x_y 73 = yX7_holds ∧ x_b 73 = cX7_holds ∧ x_tab 73 = x_t_X7_holds := ⟨rfl, rfl, rfl⟩
theorem x_c_74 : x_chkT yX7_compares cX7_compares x_t_X7_compares = true := xq_wkT 6 false xq_LKok_6 rfl (fun h => nomatch h) (by decide +kernel)
theorem x_e_74 : x_y 74 = yX7_compares ∧ x_b 74 = cX7_compares ∧ x_tab 74 = x_t_X7_compares := ⟨rfl, rfl, rfl⟩
theorem x_c_75 : x_chkT yX8_init cX8_init x_t_X8_init = true := xq_wkT 7 true xq_LKok_7 rfl (fun _ => rfl) (by decide +kernel)
theorem x_e_75 : x_y 75 = yX8_init ∧ x_b 75 = cX8_init ∧ x_tab 75 = x_t_X8_init := ⟨rfl, rfl, rfl⟩
theorem x_c_76 : x_chkT yX8_readAll cX8_readAll x_t_X8_readAll = true := xq_wkT 7 false xq_LKok_7 rfl (fun h => nomatch h) (by decide +kernel)
theorem x_e_76 : x_y 76 = yX8_readAll ∧ x_b 76 = cX8_readAll ∧ x_tab 76 = x_t_X8_readAll := ⟨rfl, rfl, rfl⟩
theorem x_c_77 : x_chkT yX8_readRule cX8_readRule x_t_X8_readRule = true := xq_wkT 7 false xq_LKok_7 rfl (fun h => nomatch h) (by decide +kernel)
theorem x_e_77 : x_y 77 = yX8_readRule ∧ x_b 77 = cX8_readRule ∧ x_tab 77 = x_t_X8_readRule := ⟨rfl, rfl, rfl⟩
theorem x_c_78 : x_chkT yX8_actTold cX8_actTold x_t_X8_actTold = true := xq_wkT 7 false xq_LKok_7 rfl (fun h => nomatch h) (by decide +kernel)
theorem x_e_78 : x_y 78 = yX8_actTold ∧ x_b 78 = cX8_actTold ∧ x_tab 78 = x_t_X8_actTold := ⟨rfl, rfl, rfl⟩
theorem x_c_79 : x_chkT yX8_readEither cX8_readEither x_t_X8_readEither = true := xq_wkT 7 false xq_LKok_7 rfl (fun h => nomatch h) (by decide +kernel)
theorem x_e_79 : x_y 79 = yX8_readEither ∧ x_b 79 = cX8_readEither ∧ x_tab 79 = x_t_X8_readEither := ⟨rfl, rfl, rfl⟩
theorem x_c_80 : x_chkT yX8_readBoth cX8_readBoth x_t_X8_readBoth = true := xq_wkT 7 false xq_LKok_7 rfl (fun h => nomatch h) (by decide +kernel)
theorem x_e_80 : x_y 80 = yX8_readBoth ∧ x_b 80 = cX8_readBoth ∧ x_tab 80 = x_t_X8_readBoth := ⟨rfl, rfl, rfl⟩
theorem x_mA_1 : ∀ k, 40 ≤ k → k < 81 → x_okM k := xq_mAs (n := 41) (by decide +kernel)
theorem x_cA_1 : ∀ k, 40 ≤ k → k < 81 → x_chkT (x_y k) (x_b k) (x_tab k) = true := by
  intro k h1 h2
  obtain rfl | rfl | rfl | rfl | rfl | rfl | rfl | rfl | rfl | rfl | rfl | rfl | rfl | rfl | rfl | rfl | rfl | rfl | rfl | rfl | rfl | rfl | rfl | rfl | rfl | rfl | rfl | rfl | rfl | rfl | rfl | rfl | rfl | rfl | rfl | rfl | rfl | rfl | rfl | rfl | rfl : k = 40 ∨ k = 41 ∨ k = 42 ∨ k = 43 ∨ k = 44 ∨ k = 45 ∨ k = 46 ∨ k = 47 ∨ k = 48 ∨ k = 49 ∨ k = 50 ∨ k = 51 ∨ k = 52 ∨ k = 53 ∨ k = 54 ∨ k = 55 ∨ k = 56 ∨ k = 57 ∨ k = 58 ∨ k = 59 ∨ k = 60 ∨ k = 61 ∨ k = 62 ∨ k = 63 ∨ k = 64 ∨ k = 65 ∨ k = 66 ∨ k = 67 ∨ k = 68 ∨ k = 69 ∨ k = 70 ∨ k = 71 ∨ k = 72 ∨ k = 73 ∨ k = 74 ∨ k = 75 ∨ k = 76 ∨ k = 77 ∨ k = 78 ∨ k = 79 ∨ k = 80 := by omega
  · rw [x_e_40.1, x_e_40.2.1, x_e_40.2.2]; exact x_c_40
  · rw [x_e_41.1, x_e_41.2.1, x_e_41.2.2]; exact x_c_41
  · rw [x_e_42.1, x_e_42.2.1, x_e_42.2.2]; exact x_c_42
  · rw [x_e_43.1, x_e_43.2.1, x_e_43.2.2]; exact x_c_43
  · rw [x_e_44.1, x_e_44.2.1, x_e_44.2.2]; exact x_c_44
  · rw [x_e_45.1, x_e_45.2.1, x_e_45.2.2]; exact x_c_45
  · rw [x_e_46.1, x_e_46.2.1, x_e_46.2.2]; exact x_c_46
  · rw [x_e_47.1, x_e_47.2.1, x_e_47.2.2]; exact x_c_47
  · rw [x_e_48.1, x_e_48.2.1, x_e_48.2.2]; exact x_c_48
  · rw [x_e_49.1, x_e_49.2.1, x_e_49.2.2]; exact x_c_49
  · rw [x_e_50.1, x_e_50.2.1, x_e_50.2.2]; exact x_c_50
  · rw [x_e_51.1, x_e_51.2.1, x_e_51.2.2]; exact x_c_51
  · rw [x_e_52.1, x_e_52.2.1, x_e_52.2.2]; exact x_c_52
  · rw [x_e_53.1, x_e_53.2.1, x_e_53.2.2]; exact x_c_53
  · rw [x_e_54.1, x_e_54.2.1, x_e_54.2.2]; exact x_c_54
  · rw [x_e_55.1, x_e_55.2.1, x_e_55.2.2]; exact x_c_55
  · rw [x_e_56.1, x_e_56.2.1, x_e_56.2.2]; exact x_c_56
  · rw [x_e_57.1, x_e_57.2.1, x_e_57.2.2]; exact x_c_57
  · rw [x_e_58.1, x_e_58.2.1, x_e_58.2.2]; exact x_c_58
  · rw [x_e_59.1, x_e_59.2.1, x_e_59.2.2]; exact x_c_59
  · rw [x_e_60.1, x_e_60.2.1, x_e_60.2.2]; exact x_c_60
  · rw [x_e_61.1, x_e_61.2.1, x_e_61.2.2]; exact x_c_61
  · rw [x_e_62.1, x_e_62.2.1, x_e_62.2.2]; exact x_c_62
  · rw [x_e_63.1, x_e_63.2.1, x_e_63.2.2]; exact x_c_63
  · rw [x_e_64.1, x_e_64.2.1, x_e_64.2.2]; exact x_c_64
  · rw [x_e_65.1, x_e_65.2.1, x_e_65.2.2]; exact x_c_65
  · rw [x_e_66.1, x_e_66.2.1, x_e_66.2.2]; exact x_c_66
  · rw [x_e_67.1, x_e_67.2.1, x_e_67.2.2]; exact x_c_67
  · rw [x_e_68.1, x_e_68.2.1, x_e_68.2.2]; exact x_c_68
  · rw [x_e_69.1, x_e_69.2.1, x_e_69.2.2]; exact x_c_69
  · rw [x_e_70.1, x_e_70.2.1, x_e_70.2.2]; exact x_c_70
  · rw [x_e_71.1, x_e_71.2.1, x_e_71.2.2]; exact x_c_71
  · rw [x_e_72.1, x_e_72.2.1, x_e_72.2.2]; exact x_c_72
  · rw [x_e_73.1, x_e_73.2.1, x_e_73.2.2]; exact x_c_73
  · rw [x_e_74.1, x_e_74.2.1, x_e_74.2.2]; exact x_c_74
  · rw [x_e_75.1, x_e_75.2.1, x_e_75.2.2]; exact x_c_75
  · rw [x_e_76.1, x_e_76.2.1, x_e_76.2.2]; exact x_c_76
  · rw [x_e_77.1, x_e_77.2.1, x_e_77.2.2]; exact x_c_77
  · rw [x_e_78.1, x_e_78.2.1, x_e_78.2.2]; exact x_c_78
  · rw [x_e_79.1, x_e_79.2.1, x_e_79.2.2]; exact x_c_79
  · rw [x_e_80.1, x_e_80.2.1, x_e_80.2.2]; exact x_c_80
