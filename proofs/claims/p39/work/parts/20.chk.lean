/-! ===== printed by gen.py: the tables are checked, 0 ===== -/
theorem x_c_0 : x_chkT yX0_init cX0_init x_t_X0_init = true := xq_wkT 0 true xq_LKok_0 rfl (fun _ => rfl) (by decide +kernel)
theorem x_e_0 : x_y 0 = yX0_init ∧ x_b 0 = cX0_init ∧ x_tab 0 = x_t_X0_init := ⟨rfl, rfl, rfl⟩
theorem x_c_1 : x_chkT yX0_lettersOf cX0_lettersOf x_t_X0_lettersOf = true := xq_wkT 0 false xq_LKok_0 rfl (fun h => nomatch h) (by decide +kernel)
theorem x_e_1 : x_y 1 = yX0_lettersOf ∧ x_b 1 = cX0_lettersOf ∧ x_tab 1 = x_t_X0_lettersOf := ⟨rfl, rfl, rfl⟩
theorem x_c_2 : x_chkT yX0_find cX0_find x_t_X0_find = true := xq_wkT 0 false xq_LKok_0 rfl (fun h => nomatch h) (by decide +kernel)
theorem x_e_2 : x_y 2 = yX0_find ∧ x_b 2 = cX0_find ∧ x_tab 2 = x_t_X0_find := ⟨rfl, rfl, rfl⟩
theorem x_c_3 : x_chkT yX0_extend cX0_extend x_t_X0_extend = true := xq_wkT 0 false xq_LKok_0 rfl (fun h => nomatch h) (by decide +kernel)
theorem x_e_3 : x_y 3 = yX0_extend ∧ x_b 3 = cX0_extend ∧ x_tab 3 = x_t_X0_extend := ⟨rfl, rfl, rfl⟩
theorem x_c_4 : x_chkT yX0_fitsLast cX0_fitsLast x_t_X0_fitsLast = true := xq_wkT 0 false xq_LKok_0 rfl (fun h => nomatch h) (by decide +kernel)
theorem x_e_4 : x_y 4 = yX0_fitsLast ∧ x_b 4 = cX0_fitsLast ∧ x_tab 4 = x_t_X0_fitsLast := ⟨rfl, rfl, rfl⟩
theorem x_c_5 : x_chkT yX0_heardInRow cX0_heardInRow x_t_X0_heardInRow = true := xq_wkT 0 false xq_LKok_0 rfl (fun h => nomatch h) (by decide +kernel)
theorem x_e_5 : x_y 5 = yX0_heardInRow ∧ x_b 5 = cX0_heardInRow ∧ x_tab 5 = x_t_X0_heardInRow := ⟨rfl, rfl, rfl⟩
theorem x_c_6 : x_chkT yX0_callTold cX0_callTold x_t_X0_callTold = true := xq_wkT 0 false xq_LKok_0 rfl (fun h => nomatch h) (by decide +kernel)
theorem x_e_6 : x_y 6 = yX0_callTold ∧ x_b 6 = cX0_callTold ∧ x_tab 6 = x_t_X0_callTold := ⟨rfl, rfl, rfl⟩
theorem x_c_7 : x_chkT yX0_blastsTold cX0_blastsTold x_t_X0_blastsTold = true := xq_wkT 0 false xq_LKok_0 rfl (fun h => nomatch h) (by decide +kernel)
theorem x_e_7 : x_y 7 = yX0_blastsTold ∧ x_b 7 = cX0_blastsTold ∧ x_tab 7 = x_t_X0_blastsTold := ⟨rfl, rfl, rfl⟩
theorem x_c_8 : x_chkT yX1_init cX1_init x_t_X1_init = true := xq_wkT 1 true xq_LKok_1 rfl (fun _ => rfl) (by decide +kernel)
theorem x_e_8 : x_y 8 = yX1_init ∧ x_b 8 = cX1_init ∧ x_tab 8 = x_t_X1_init := ⟨rfl, rfl, rfl⟩
theorem x_c_9 : x_chkT yX1_takeAll cX1_takeAll x_t_X1_takeAll = true := xq_wkT 1 false xq_LKok_1 rfl (fun h => nomatch h) (by decide +kernel)
theorem x_e_9 : x_y 9 = yX1_takeAll ∧ x_b 9 = cX1_takeAll ∧ x_tab 9 = x_t_X1_takeAll := ⟨rfl, rfl, rfl⟩
theorem x_c_10 : x_chkT yX1_takeShips cX1_takeShips x_t_X1_takeShips = true := xq_wkT 1 false xq_LKok_1 rfl (fun h => nomatch h) (by decide +kernel)
theorem x_e_10 : x_y 10 = yX1_takeShips ∧ x_b 10 = cX1_takeShips ∧ x_tab 10 = x_t_X1_takeShips := ⟨rfl, rfl, rfl⟩
theorem x_c_11 : x_chkT yX1_takeCarts cX1_takeCarts x_t_X1_takeCarts = true := xq_wkT 1 false xq_LKok_1 rfl (fun h => nomatch h) (by decide +kernel)
theorem x_e_11 : x_y 11 = yX1_takeCarts ∧ x_b 11 = cX1_takeCarts ∧ x_tab 11 = x_t_X1_takeCarts := ⟨rfl, rfl, rfl⟩
theorem x_c_12 : x_chkT yX1_turnEnd cX1_turnEnd x_t_X1_turnEnd = true := xq_wkT 1 false xq_LKok_1 rfl (fun h => nomatch h) (by decide +kernel)
theorem x_e_12 : x_y 12 = yX1_turnEnd ∧ x_b 12 = cX1_turnEnd ∧ x_tab 12 = x_t_X1_turnEnd := ⟨rfl, rfl, rfl⟩
theorem x_c_13 : x_chkT yX1_leastWaits cX1_leastWaits x_t_X1_leastWaits = true := xq_wkT 1 false xq_LKok_1 rfl (fun h => nomatch h) (by decide +kernel)
theorem x_e_13 : x_y 13 = yX1_leastWaits ∧ x_b 13 = cX1_leastWaits ∧ x_tab 13 = x_t_X1_leastWaits := ⟨rfl, rfl, rfl⟩
theorem x_c_14 : x_chkT yX1_canPassWithin cX1_canPassWithin x_t_X1_canPassWithin = true := xq_wkT 1 false xq_LKok_1 rfl (fun h => nomatch h) (by decide +kernel)
theorem x_e_14 : x_y 14 = yX1_canPassWithin ∧ x_b 14 = cX1_canPassWithin ∧ x_tab 14 = x_t_X1_canPassWithin := ⟨rfl, rfl, rfl⟩
theorem x_c_15 : x_chkT yX1_allCanPass cX1_allCanPass x_t_X1_allCanPass = true := xq_wkT 1 false xq_LKok_1 rfl (fun h => nomatch h) (by decide +kernel)
theorem x_e_15 : x_y 15 = yX1_allCanPass ∧ x_b 15 = cX1_allCanPass ∧ x_tab 15 = x_t_X1_allCanPass := ⟨rfl, rfl, rfl⟩
theorem x_c_16 : x_chkT yX1_canEndWithin cX1_canEndWithin x_t_X1_canEndWithin = true := xq_wkT 1 false xq_LKok_1 rfl (fun h => nomatch h) (by decide +kernel)
theorem x_e_16 : x_y 16 = yX1_canEndWithin ∧ x_b 16 = cX1_canEndWithin ∧ x_tab 16 = x_t_X1_canEndWithin := ⟨rfl, rfl, rfl⟩
theorem x_c_17 : x_chkT yX1_search cX1_search x_t_X1_search = true := xq_wkT 1 false xq_LKok_1 rfl (fun h => nomatch h) (by decide +kernel)
theorem x_e_17 : x_y 17 = yX1_search ∧ x_b 17 = cX1_search ∧ x_tab 17 = x_t_X1_search := ⟨rfl, rfl, rfl⟩
theorem x_c_18 : x_chkT yX1_canBegin cX1_canBegin x_t_X1_canBegin = true := xq_wkT 1 false xq_LKok_1 rfl (fun h => nomatch h) (by decide +kernel)
theorem x_e_18 : x_y 18 = yX1_canBegin ∧ x_b 18 = cX1_canBegin ∧ x_tab 18 = x_t_X1_canBegin := ⟨rfl, rfl, rfl⟩
theorem x_c_19 : x_chkT yX1_waitsOf cX1_waitsOf x_t_X1_waitsOf = true := xq_wkT 1 false xq_LKok_1 rfl (fun h => nomatch h) (by decide +kernel)
theorem x_e_19 : x_y 19 = yX1_waitsOf ∧ x_b 19 = cX1_waitsOf ∧ x_tab 19 = x_t_X1_waitsOf := ⟨rfl, rfl, rfl⟩
theorem x_c_20 : x_chkT yX1_layPlan cX1_layPlan x_t_X1_layPlan = true := xq_wkT 1 false xq_LKok_1 rfl (fun h => nomatch h) (by decide +kernel)
theorem x_e_20 : x_y 20 = yX1_layPlan ∧ x_b 20 = cX1_layPlan ∧ x_tab 20 = x_t_X1_layPlan := ⟨rfl, rfl, rfl⟩
theorem x_c_21 : x_chkT yX1_shipMayBegin cX1_shipMayBegin x_t_X1_shipMayBegin = true := xq_wkT 1 false xq_LKok_1 rfl (fun h => nomatch h) (by decide +kernel)
theorem x_e_21 : x_y 21 = yX1_shipMayBegin ∧ x_b 21 = cX1_shipMayBegin ∧ x_tab 21 = x_t_X1_shipMayBegin := ⟨rfl, rfl, rfl⟩
theorem x_c_22 : x_chkT yX1_cartMayBegin cX1_cartMayBegin x_t_X1_cartMayBegin = true := xq_wkT 1 false xq_LKok_1 rfl (fun h => nomatch h) (by decide +kernel)
theorem x_e_22 : x_y 22 = yX1_cartMayBegin ∧ x_b 22 = cX1_cartMayBegin ∧ x_tab 22 = x_t_X1_cartMayBegin := ⟨rfl, rfl, rfl⟩
theorem x_c_23 : x_chkT yX1_addAct cX1_addAct x_t_X1_addAct = true := xq_wkT 1 false xq_LKok_1 rfl (fun h => nomatch h) (by decide +kernel)
theorem x_e_23 : x_y 23 = yX1_addAct ∧ x_b 23 = cX1_addAct ∧ x_tab 23 = x_t_X1_addAct := ⟨rfl, rfl, rfl⟩
theorem x_c_24 : x_chkT yX1_tellPlan cX1_tellPlan x_t_X1_tellPlan = true := xq_wkT 1 false xq_LKok_1 rfl (fun h => nomatch h) (by decide +kernel)
theorem x_e_24 : x_y 24 = yX1_tellPlan ∧ x_b 24 = cX1_tellPlan ∧ x_tab 24 = x_t_X1_tellPlan := ⟨rfl, rfl, rfl⟩
theorem x_c_25 : x_chkT yX1_dearestByPlan cX1_dearestByPlan x_t_X1_dearestByPlan = true := xq_wkT 1 false xq_LKok_1 rfl (fun h => nomatch h) (by decide +kernel)
theorem x_e_25 : x_y 25 = yX1_dearestByPlan ∧ x_b 25 = cX1_dearestByPlan ∧ x_tab 25 = x_t_X1_dearestByPlan := ⟨rfl, rfl, rfl⟩
theorem x_c_26 : x_chkT yX1_waitsByNumber cX1_waitsByNumber x_t_X1_waitsByNumber = true := xq_wkT 1 false xq_LKok_1 rfl (fun h => nomatch h) (by decide +kernel)
theorem x_e_26 : x_y 26 = yX1_waitsByNumber ∧ x_b 26 = cX1_waitsByNumber ∧ x_tab 26 = x_t_X1_waitsByNumber := ⟨rfl, rfl, rfl⟩
theorem x_c_27 : x_chkT yX1_openedByPlan cX1_openedByPlan x_t_X1_openedByPlan = true := xq_wkT 1 false xq_LKok_1 rfl (fun h => nomatch h) (by decide +kernel)
theorem x_e_27 : x_y 27 = yX1_openedByPlan ∧ x_b 27 = cX1_openedByPlan ∧ x_tab 27 = x_t_X1_openedByPlan := ⟨rfl, rfl, rfl⟩
theorem x_c_28 : x_chkT yX1_busiestByPlan cX1_busiestByPlan x_t_X1_busiestByPlan = true := xq_wkT 1 false xq_LKok_1 rfl (fun h => nomatch h) (by decide +kernel)
theorem x_e_28 : x_y 28 = yX1_busiestByPlan ∧ x_b 28 = cX1_busiestByPlan ∧ x_tab 28 = x_t_X1_busiestByPlan := ⟨rfl, rfl, rfl⟩
theorem x_c_29 : x_chkT yX1_waitingIn cX1_waitingIn x_t_X1_waitingIn = true := xq_wkT 1 false xq_LKok_1 rfl (fun h => nomatch h) (by decide +kernel)
theorem x_e_29 : x_y 29 = yX1_waitingIn ∧ x_b 29 = cX1_waitingIn ∧ x_tab 29 = x_t_X1_waitingIn := ⟨rfl, rfl, rfl⟩
theorem x_c_30 : x_chkT yX2_init cX2_init x_t_X2_init = true := xq_wkT 2 true xq_LKok_2 rfl (fun _ => rfl) (by decide +kernel)
theorem x_e_30 : x_y 30 = yX2_init ∧ x_b 30 = cX2_init ∧ x_tab 30 = x_t_X2_init := ⟨rfl, rfl, rfl⟩
theorem x_c_31 : x_chkT yX2_spendDay cX2_spendDay x_t_X2_spendDay = true := xq_wkT 2 false xq_LKok_2 rfl (fun h => nomatch h) (by decide +kernel)
theorem x_e_31 : x_y 31 = yX2_spendDay ∧ x_b 31 = cX2_spendDay ∧ x_tab 31 = x_t_X2_spendDay := ⟨rfl, rfl, rfl⟩
theorem x_c_32 : x_chkT yX2_comeLater cX2_comeLater x_t_X2_comeLater = true := xq_wkT 2 false xq_LKok_2 rfl (fun h => nomatch h) (by decide +kernel)
theorem x_e_32 : x_y 32 = yX2_comeLater ∧ x_b 32 = cX2_comeLater ∧ x_tab 32 = x_t_X2_comeLater := ⟨rfl, rfl, rfl⟩
theorem x_c_33 : x_chkT yX2_delay cX2_delay x_t_X2_delay = true := xq_wkT 2 false xq_LKok_2 rfl (fun h => nomatch h) (by decide +kernel)
theorem x_e_33 : x_y 33 = yX2_delay ∧ x_b 33 = cX2_delay ∧ x_tab 33 = x_t_X2_delay := ⟨rfl, rfl, rfl⟩
theorem x_c_34 : x_chkT yX2_endWhatIsOver cX2_endWhatIsOver x_t_X2_endWhatIsOver = true := xq_wkT 2 false xq_LKok_2 rfl (fun h => nomatch h) (by decide +kernel)
theorem x_e_34 : x_y 34 = yX2_endWhatIsOver ∧ x_b 34 = cX2_endWhatIsOver ∧ x_tab 34 = x_t_X2_endWhatIsOver := ⟨rfl, rfl, rfl⟩
theorem x_c_35 : x_chkT yX2_strikeSails cX2_strikeSails x_t_X2_strikeSails = true := xq_wkT 2 false xq_LKok_2 rfl (fun h => nomatch h) (by decide +kernel)
theorem x_e_35 : x_y 35 = yX2_strikeSails ∧ x_b 35 = cX2_strikeSails ∧ x_tab 35 = x_t_X2_strikeSails := ⟨rfl, rfl, rfl⟩
theorem x_c_36 : x_chkT yX2_strikeIfDue cX2_strikeIfDue x_t_X2_strikeIfDue = true := xq_wkT 2 false xq_LKok_2 rfl (fun h => nomatch h) (by decide +kernel)
theorem x_e_36 : x_y 36 = yX2_strikeIfDue ∧ x_b 36 = cX2_strikeIfDue ∧ x_tab 36 = x_t_X2_strikeIfDue := ⟨rfl, rfl, rfl⟩
theorem x_c_37 : x_chkT yX2_firstShipLeft cX2_firstShipLeft x_t_X2_firstShipLeft = true := xq_wkT 2 false xq_LKok_2 rfl (fun h => nomatch h) (by decide +kernel)
theorem x_e_37 : x_y 37 = yX2_firstShipLeft ∧ x_b 37 = cX2_firstShipLeft ∧ x_tab 37 = x_t_X2_firstShipLeft := ⟨rfl, rfl, rfl⟩
theorem x_c_38 : x_chkT yX2_obey cX2_obey x_t_X2_obey = true := xq_wkT 2 false xq_LKok_2 rfl (fun h => nomatch h) (by decide +kernel)
theorem x_e_38 : x_y 38 = yX2_obey ∧ x_b 38 = cX2_obey ∧ x_tab 38 = x_t_X2_obey := ⟨rfl, rfl, rfl⟩
theorem x_c_39 : x_chkT yX2_gatherFacts cX2_gatherFacts x_t_X2_gatherFacts = true := xq_wkT 2 false xq_LKok_2 rfl (fun h => nomatch h) (by decide +kernel)
theorem x_e_39 : x_y 39 = yX2_gatherFacts ∧ x_b 39 = cX2_gatherFacts ∧ x_tab 39 = x_t_X2_gatherFacts := ⟨rfl, rfl, rfl⟩
theorem x_mA_0 : ∀ k, 0 ≤ k → k < 40 → x_okM k := xq_mAs (n := 40) (by decide +kernel)
theorem x_cA_0 : ∀ k, 0 ≤ k → k < 40 → x_chkT (x_y k) (x_b k) (x_tab k) = true := by
  intro k h1 h2
  obtain rfl | rfl | rfl | rfl | rfl | rfl | rfl | rfl | rfl | rfl | rfl | rfl | rfl | rfl | rfl | rfl | rfl | rfl | rfl | rfl | rfl | rfl | rfl | rfl | rfl | rfl | rfl | rfl | rfl | rfl | rfl | rfl | rfl | rfl | rfl | rfl | rfl | rfl | rfl | rfl : k = 0 ∨ k = 1 ∨ k = 2 ∨ k = 3 ∨ k = 4 ∨ k = 5 ∨ k = 6 ∨ k = 7 ∨ k = 8 ∨ k = 9 ∨ k = 10 ∨ k = 11 ∨ k = 12 ∨ k = 13 ∨ k = 14 ∨ k = 15 ∨ k = 16 ∨ k = 17 ∨ k = 18 ∨ k = 19 ∨ k = 20 ∨ k = 21 ∨ k = 22 ∨ k = 23 ∨ k = 24 ∨ k = 25 ∨ k = 26 ∨ k = 27 ∨ k = 28 ∨ k = 29 ∨ k = 30 ∨ k = 31 ∨ k = 32 ∨ k = 33 ∨ k = 34 ∨ k = 35 ∨ k = 36 ∨ k = 37 ∨ k = 38 ∨ k = 39 := by omega
  · rw [x_e_0.1, x_e_0.2.1, x_e_0.2.2]; exact x_c_0
  · rw [x_e_1.1, x_e_1.2.1, x_e_1.2.2]; exact x_c_1
  · rw [x_e_2.1, x_e_2.2.1, x_e_2.2.2]; exact x_c_2
  · rw [x_e_3.1, x_e_3.2.1, x_e_3.2.2]; exact x_c_3
  · rw [x_e_4.1, x_e_4.2.1, x_e_4.2.2]; exact x_c_4
  · rw [x_e_5.1, x_e_5.2.1, x_e_5.2.2]; exact x_c_5
  · rw [x_e_6.1, x_e_6.2.1, x_e_6.2.2]; exact x_c_6
  · rw [x_e_7.1, x_e_7.2.1, x_e_7.2.2]; exact x_c_7
  · rw [x_e_8.1, x_e_8.2.1, x_e_8.2.2]; exact x_c_8
  · rw [x_e_9.1, x_e_9.2.1, x_e_9.2.2]; exact x_c_9
  · rw [x_e_10.1, x_e_10.2.1, x_e_10.2.2]; exact x_c_10
  · rw [x_e_11.1, x_e_11.2.1, x_e_11.2.2]; exact x_c_11
  · rw [x_e_12.1, x_e_12.2.1, x_e_12.2.2]; exact x_c_12
  · rw [x_e_13.1, x_e_13.2.1, x_e_13.2.2]; exact x_c_13
  · rw [x_e_14.1, x_e_14.2.1, x_e_14.2.2]; exact x_c_14
  · rw [x_e_15.1, x_e_15.2.1, x_e_15.2.2]; exact x_c_15
  · rw [x_e_16.1, x_e_16.2.1, x_e_16.2.2]; exact x_c_16
  · rw [x_e_17.1, x_e_17.2.1, x_e_17.2.2]; exact x_c_17
  · rw [x_e_18.1, x_e_18.2.1, x_e_18.2.2]; exact x_c_18
  · rw [x_e_19.1, x_e_19.2.1, x_e_19.2.2]; exact x_c_19
  · rw [x_e_20.1, x_e_20.2.1, x_e_20.2.2]; exact x_c_20
  · rw [x_e_21.1, x_e_21.2.1, x_e_21.2.2]; exact x_c_21
  · rw [x_e_22.1, x_e_22.2.1, x_e_22.2.2]; exact x_c_22
  · rw [x_e_23.1, x_e_23.2.1, x_e_23.2.2]; exact x_c_23
  · rw [x_e_24.1, x_e_24.2.1, x_e_24.2.2]; exact x_c_24
  · rw [x_e_25.1, x_e_25.2.1, x_e_25.2.2]; exact x_c_25
  · rw [x_e_26.1, x_e_26.2.1, x_e_26.2.2]; exact x_c_26
  · rw [x_e_27.1, x_e_27.2.1, x_e_27.2.2]; exact x_c_27
  · rw [x_e_28.1, x_e_28.2.1, x_e_28.2.2]; exact x_c_28
  · rw [x_e_29.1, x_e_29.2.1, x_e_29.2.2]; exact x_c_29
  · rw [x_e_30.1, x_e_30.2.1, x_e_30.2.2]; exact x_c_30
  · rw [x_e_31.1, x_e_31.2.1, x_e_31.2.2]; exact x_c_31
  · rw [x_e_32.1, x_e_32.2.1, x_e_32.2.2]; exact x_c_32
  · rw [x_e_33.1, x_e_33.2.1, x_e_33.2.2]; exact x_c_33
  · rw [x_e_34.1, x_e_34.2.1, x_e_34.2.2]; exact x_c_34
  · rw [x_e_35.1, x_e_35.2.1, x_e_35.2.2]; exact x_c_35
  · rw [x_e_36.1, x_e_36.2.1, x_e_36.2.2]; exact x_c_36
  · rw [x_e_37.1, x_e_37.2.1, x_e_37.2.2]; exact x_c_37
  · rw [x_e_38.1, x_e_38.2.1, x_e_38.2.2]; exact x_c_38
  · rw [x_e_39.1, x_e_39.2.1, x_e_39.2.2]; exact x_c_39
