/-! ===== printed by gen65.py: calls walked in place ===== -/
section XC
variable {X : x_Ext} {sh : List (Nat ⊕ (Nat × Nat))} {gi : Nat → Nat → Int32} {gl : Nat → Nat → Int64} {gr : Nat → Nat → Value}
set_option maxRecDepth 20000 in
theorem pc_41 (hR : x_R W1 (sh, gi, gl, gr)) (hX : X.1 = 6) : x_Ev X 1000 n_L_law 1464 [(3, .int 0), (2, .ref 69), (1, .ref 0), (0, .retAddr 30)] [] (sh, gi, gl, gr) x_P1 := by
  have hW := W1_WF hR
  have hz := W1_hz hR
  refine ev_loc f_L_law (nx := 1465) rfl rfl rfl rfl ?_
  refine ev_inV1 f_L_law (nx := 1468) (lo2 := [(0, .ref 0)]) rfl rfl rfl rfl f_X11_opened (hW.s rfl) rfl rfl rfl rfl rfl ?_
  refine ev_loc f_X11_opened (nx := 1) rfl rfl rfl rfl ?_
  refine ev_getR f_X11_opened (nx := 4) rfl (hW.s rfl) rfl rfl (hW.r rfl) rfl rfl ?_
  refine ev_loc f_X11_opened (nx := 5) rfl rfl rfl rfl ?_
  refine ev_getR f_X11_opened (nx := 8) rfl (hW.s rfl) rfl rfl (wr_0_6 (gr := gr) hR) rfl rfl ?_
  refine ev_inV2 f_X11_opened (nx := 11) (lo2 := [(0, .ref 28), (1, .ref 3)]) rfl rfl rfl rfl f_X1_takeAll (hW.s rfl) rfl rfl rfl rfl rfl ?_
  refine ev_loc f_X1_takeAll (nx := 1) rfl rfl rfl rfl ?_
  refine ev_loc f_X1_takeAll (nx := 2) rfl rfl rfl rfl ?_
  refine ev_putR f_X1_takeAll (nx := 5) rfl (hW.s rfl) rfl rfl rfl rfl ?_
  replace hW := x_WF_up hW (k := 28) (j := 0) (v := .ref 3) rfl
  refine ev_loc f_X1_takeAll (nx := 6) rfl rfl rfl rfl ?_
  refine ev_loc f_X1_takeAll (nx := 7) rfl rfl rfl rfl ?_
  refine ev_gvI f_X1_takeAll (nx := 10) (w := 5) rfl (hW.s rfl) rfl rfl (wi_3_3 (gi := gi) hR) rfl ?_
  refine ev_putI f_X1_takeAll (nx := 13) rfl (hW.s rfl) rfl rfl rfl ?_
  refine ev_loc f_X1_takeAll (nx := 14) rfl rfl rfl rfl ?_
  refine ev_loc f_X1_takeAll (nx := 15) rfl rfl rfl rfl ?_
  refine ev_ic f_X1_takeAll (nx := 16) (v := 0) rfl (by decide) rfl ?_
  refine ev_ic f_X1_takeAll (nx := 17) (v := -1) rfl (by decide) rfl ?_
  refine ev_ic f_X1_takeAll (nx := 18) (v := 0) rfl (by decide) rfl ?_
  refine ev_inV5 f_X1_takeAll (nx := 21) (lo2 := [(0, .ref 28), (1, .ref 3), (2, .int 0), (3, .int (-1)), (4, .int 0)]) rfl rfl rfl rfl f_X1_takeShips (hW.s rfl) rfl rfl rfl rfl rfl ?_
  refine ev_loc f_X1_takeShips (nx := 1) rfl rfl rfl rfl ?_
  refine ev_getR f_X1_takeShips (nx := 4) rfl (hW.s rfl) rfl rfl (hW.r rfl) rfl rfl ?_
  refine ev_inV1 f_X1_takeShips (nx := 7) (lo2 := [(0, .ref 29)]) rfl rfl rfl rfl f_X4_clear (hW.s rfl) rfl rfl rfl rfl rfl ?_
  refine ev_loc f_X4_clear (nx := 1) rfl rfl rfl rfl ?_
  refine ev_ic f_X4_clear (nx := 2) (v := 0) rfl (by decide) rfl ?_
  refine ev_putI f_X4_clear (nx := 5) rfl (hW.s rfl) rfl rfl rfl ?_
  refine ev_retK0 f_X4_clear rfl rfl rfl ?_
  refine ev_ic f_X1_takeShips (nx := 8) (v := 0) rfl (by decide) rfl ?_
  refine ev_loc f_X1_takeShips (nx := 10) (lo' := [(5, .int 0), (0, .ref 28), (1, .ref 3), (2, .int 0), (3, .int (-1)), (4, .int 0)]) rfl rfl rfl rfl ?_
  refine ev_loc f_X1_takeShips (nx := 12) rfl rfl rfl rfl ?_
  refine ev_loc f_X1_takeShips (nx := 13) rfl rfl rfl rfl ?_
  refine ev_getR f_X1_takeShips (nx := 16) rfl (hW.s rfl) rfl rfl (hW.r rfl) rfl rfl ?_
  refine ev_gvI f_X1_takeShips (nx := 19) (w := 0) rfl (hW.s rfl) rfl rfl (wi_6_0 (gi := gi) hR) rfl ?_
  refine ev_t f_X1_takeShips (t1 := 77) (t2 := 22) rfl rfl rfl (by decide) ?_
  refine ev_retK0 f_X1_takeShips rfl rfl rfl ?_
  refine ev_loc f_X1_takeAll (nx := 22) rfl rfl rfl rfl ?_
  refine ev_loc f_X1_takeAll (nx := 23) rfl rfl rfl rfl ?_
  refine ev_ic f_X1_takeAll (nx := 24) (v := -1) rfl (by decide) rfl ?_
  refine ev_inV3 f_X1_takeAll (nx := 27) (lo2 := [(0, .ref 28), (1, .ref 3), (2, .int (-1))]) rfl rfl rfl rfl f_X1_takeCarts (hW.s rfl) rfl rfl rfl rfl rfl ?_
  refine ev_loc f_X1_takeCarts (nx := 1) rfl rfl rfl rfl ?_
  refine ev_getR f_X1_takeCarts (nx := 4) rfl (hW.s rfl) rfl rfl (hW.r rfl) rfl rfl ?_
  refine ev_inV1 f_X1_takeCarts (nx := 7) (lo2 := [(0, .ref 35)]) rfl rfl rfl rfl f_X4_clear (hW.s rfl) rfl rfl rfl rfl rfl ?_
  refine ev_loc f_X4_clear (nx := 1) rfl rfl rfl rfl ?_
  refine ev_ic f_X4_clear (nx := 2) (v := 0) rfl (by decide) rfl ?_
  refine ev_putI f_X4_clear (nx := 5) rfl (hW.s rfl) rfl rfl rfl ?_
  refine ev_retK0 f_X4_clear rfl rfl rfl ?_
  refine ev_ic f_X1_takeCarts (nx := 8) (v := 0) rfl (by decide) rfl ?_
  refine ev_loc f_X1_takeCarts (nx := 9) (lo' := [(3, .int 0), (0, .ref 28), (1, .ref 3), (2, .int (-1))]) rfl rfl rfl rfl ?_
  refine ev_loc f_X1_takeCarts (nx := 10) rfl rfl rfl rfl ?_
  refine ev_loc f_X1_takeCarts (nx := 11) rfl rfl rfl rfl ?_
  refine ev_getR f_X1_takeCarts (nx := 14) rfl (hW.s rfl) rfl rfl (hW.r rfl) rfl rfl ?_
  refine ev_gvI f_X1_takeCarts (nx := 17) (w := 0) rfl (hW.s rfl) rfl rfl (wi_13_0 (gi := gi) hR) rfl ?_
  refine ev_t f_X1_takeCarts (t1 := 52) (t2 := 20) rfl rfl rfl (by decide) ?_
  refine ev_retK0 f_X1_takeCarts rfl rfl rfl ?_
  refine ev_retK0 f_X1_takeAll rfl rfl rfl ?_
  refine ev_loc f_X11_opened (nx := 12) rfl rfl rfl rfl ?_
  refine ev_getR f_X11_opened (nx := 15) rfl (hW.s rfl) rfl rfl (hW.r rfl) rfl rfl ?_
  refine ev_inV1 f_X11_opened (nx := 18) (lo2 := [(0, .ref 28)]) rfl rfl rfl rfl f_X1_layPlan (hW.s rfl) rfl rfl rfl rfl rfl ?_
  refine ev_loc f_X1_layPlan (nx := 1) rfl rfl rfl rfl ?_
  refine ev_ic f_X1_layPlan (nx := 2) (v := 0) rfl (by decide) rfl ?_
  refine ev_putI f_X1_layPlan (nx := 5) rfl (hW.s rfl) rfl rfl rfl ?_
  refine ev_loc f_X1_layPlan (nx := 6) rfl rfl rfl rfl ?_
  refine ev_inV1 f_X1_layPlan (nx := 9) (lo2 := [(0, .ref 28)]) rfl rfl rfl rfl f_X1_leastWaits (hW.s rfl) rfl rfl rfl rfl rfl ?_
  refine ev_loc f_X1_leastWaits (nx := 1) rfl rfl rfl rfl ?_
  refine ev_ldI f_X1_leastWaits (nx := 3) (v := 1000000000) rfl (by decide) rfl ?_
  refine ev_putI f_X1_leastWaits (nx := 6) rfl (hW.s rfl) rfl rfl rfl ?_
  refine ev_loc f_X1_leastWaits (nx := 7) rfl rfl rfl rfl ?_
  refine ev_ic f_X1_leastWaits (nx := 8) (v := 0) rfl (by decide) rfl ?_
  refine ev_putI f_X1_leastWaits (nx := 11) rfl (hW.s rfl) rfl rfl rfl ?_
  refine ev_loc f_X1_leastWaits (nx := 12) rfl rfl rfl rfl ?_
  refine ev_ic f_X1_leastWaits (nx := 13) (v := 0) rfl (by decide) rfl ?_
  refine ev_ic f_X1_leastWaits (nx := 14) (v := 0) rfl (by decide) rfl ?_
  refine ev_ic f_X1_leastWaits (nx := 15) (v := 0) rfl (by decide) rfl ?_
  refine ev_ic f_X1_leastWaits (nx := 16) (v := 0) rfl (by decide) rfl ?_
  refine ev_ic f_X1_leastWaits (nx := 17) (v := 0) rfl (by decide) rfl ?_
  refine ev_inV6 f_X1_leastWaits (nx := 20) (lo2 := [(0, .ref 28), (1, .int 0), (2, .int 0), (3, .int 0), (4, .int 0), (5, .int 0)]) rfl rfl rfl rfl f_X1_search (hW.s rfl) rfl rfl rfl rfl rfl ?_
  refine ev_loc f_X1_search (nx := 2) rfl rfl rfl rfl ?_
  refine ev_loc f_X1_search (nx := 3) rfl rfl rfl rfl ?_
  refine ev_gvI f_X1_search (nx := 6) (w := 1000000000) rfl (hW.s rfl) rfl rfl rfl rfl ?_
  refine ev_f f_X1_search (t1 := 20) (t2 := 9) rfl rfl rfl (by decide) ?_
  refine ev_loc f_X1_search (nx := 10) rfl rfl rfl rfl ?_
  refine ev_gvI f_X1_search (nx := 13) (w := 1000000000) rfl (hW.s rfl) rfl rfl rfl rfl ?_
  refine ev_loc f_X1_search (nx := 14) rfl rfl rfl rfl ?_
  refine ev_gvI f_X1_search (nx := 17) (w := 0) rfl (hW.s rfl) rfl rfl rfl rfl ?_
  refine ev_t f_X1_search (t1 := 21) (t2 := 20) rfl rfl rfl (by decide) ?_
  refine ev_loc f_X1_search (nx := 22) rfl rfl rfl rfl ?_
  refine ev_loc f_X1_search (nx := 23) rfl rfl rfl rfl ?_
  refine ev_getR f_X1_search (nx := 26) rfl (hW.s rfl) rfl rfl (hW.r rfl) rfl rfl ?_
  refine ev_gvI f_X1_search (nx := 29) (w := 0) rfl (hW.s rfl) rfl rfl rfl rfl ?_
  refine ev_f f_X1_search (t1 := 51) (t2 := 32) rfl rfl rfl (by decide) ?_
  refine ev_loc f_X1_search (nx := 34) rfl rfl rfl rfl ?_
  refine ev_loc f_X1_search (nx := 35) rfl rfl rfl rfl ?_
  refine ev_getR f_X1_search (nx := 38) rfl (hW.s rfl) rfl rfl (hW.r rfl) rfl rfl ?_
  refine ev_gvI f_X1_search (nx := 41) (w := 0) rfl (hW.s rfl) rfl rfl rfl rfl ?_
  refine ev_f f_X1_search (t1 := 51) (t2 := 44) rfl rfl rfl (by decide) ?_
  refine ev_loc f_X1_search (nx := 45) rfl rfl rfl rfl ?_
  refine ev_loc f_X1_search (nx := 47) rfl rfl rfl rfl ?_
  refine ev_putI f_X1_search (nx := 50) rfl (hW.s rfl) rfl rfl rfl ?_
  refine ev_retK0 f_X1_search rfl rfl rfl ?_
  refine ev_loc f_X1_leastWaits (nx := 21) rfl rfl rfl rfl ?_
  refine ev_gvI f_X1_leastWaits (nx := 24) (w := 0) rfl (hW.s rfl) rfl rfl rfl rfl ?_
  refine ev_retK1 f_X1_leastWaits rfl rfl rfl ?_
  refine ev_loc f_X1_layPlan (nx := 10) (lo' := [(1, .int 0), (0, .ref 28)]) rfl rfl rfl rfl ?_
  refine ev_loc f_X1_layPlan (nx := 11) rfl rfl rfl rfl ?_
  refine ev_ldI f_X1_layPlan (nx := 13) (v := 1000000000) rfl (by decide) rfl ?_
  refine ev_t f_X1_layPlan (t1 := 18) (t2 := 16) rfl rfl rfl (by decide) ?_
  refine ev_ic f_X1_layPlan (nx := 19) (v := 0) rfl (by decide) rfl ?_
  refine ev_loc f_X1_layPlan (nx := 20) (lo' := [(2, .int 0), (1, .int 0), (0, .ref 28)]) rfl rfl rfl rfl ?_
  refine ev_ic f_X1_layPlan (nx := 21) (v := 0) rfl (by decide) rfl ?_
  refine ev_loc f_X1_layPlan (nx := 22) (lo' := [(3, .int 0), (2, .int 0), (1, .int 0), (0, .ref 28)]) rfl rfl rfl rfl ?_
  refine ev_ic f_X1_layPlan (nx := 23) (v := 0) rfl (by decide) rfl ?_
  refine ev_loc f_X1_layPlan (nx := 25) (lo' := [(4, .int 0), (3, .int 0), (2, .int 0), (1, .int 0), (0, .ref 28)]) rfl rfl rfl rfl ?_
  refine ev_ic f_X1_layPlan (nx := 26) (v := 0) rfl (by decide) rfl ?_
  refine ev_loc f_X1_layPlan (nx := 28) (lo' := [(5, .int 0), (4, .int 0), (3, .int 0), (2, .int 0), (1, .int 0), (0, .ref 28)]) rfl rfl rfl rfl ?_
  refine ev_ic f_X1_layPlan (nx := 29) (v := 0) rfl (by decide) rfl ?_
  refine ev_loc f_X1_layPlan (nx := 31) (lo' := [(6, .int 0), (5, .int 0), (4, .int 0), (3, .int 0), (2, .int 0), (1, .int 0), (0, .ref 28)]) rfl rfl rfl rfl ?_
  refine ev_loc f_X1_layPlan (nx := 33) rfl rfl rfl rfl ?_
  refine ev_sp f_X1_layPlan (nx := 36) (v := 240) rfl (by decide) rfl ?_
  refine ev_f f_X1_layPlan (t1 := 259) (t2 := 39) rfl rfl rfl (by decide) ?_
  refine ev_loc f_X1_layPlan (nx := 41) rfl rfl rfl rfl ?_
  refine ev_loc f_X1_layPlan (nx := 43) rfl rfl rfl rfl ?_
  refine ev_aluvI f_X1_layPlan (nx := 44) (w := 0) rfl rfl rfl (by decide) rfl ?_
  refine ev_loc f_X1_layPlan (nx := 45) rfl rfl rfl rfl ?_
  refine ev_getR f_X1_layPlan (nx := 48) rfl (hW.s rfl) rfl rfl (hW.r rfl) rfl rfl ?_
  refine ev_gvI f_X1_layPlan (nx := 51) (w := 0) rfl (hW.s rfl) rfl rfl rfl rfl ?_
  refine ev_loc f_X1_layPlan (nx := 52) rfl rfl rfl rfl ?_
  refine ev_getR f_X1_layPlan (nx := 55) rfl (hW.s rfl) rfl rfl (hW.r rfl) rfl rfl ?_
  refine ev_gvI f_X1_layPlan (nx := 58) (w := 0) rfl (hW.s rfl) rfl rfl rfl rfl ?_
  refine ev_aluvI f_X1_layPlan (nx := 59) (w := 0) rfl rfl rfl (by decide) rfl ?_
  refine ev_t f_X1_layPlan (t1 := 259) (t2 := 62) rfl rfl rfl (by decide) ?_
  refine ev_ic f_X1_layPlan (nx := 260) (v := 1) rfl (by decide) rfl ?_
  refine ev_retK1 f_X1_layPlan rfl rfl rfl ?_
  refine ev_f f_X11_opened (t1 := 35) (t2 := 21) rfl rfl rfl (by decide) ?_
  refine ev_loc f_X11_opened (nx := 22) rfl rfl rfl rfl ?_
  refine ev_loc f_X11_opened (nx := 23) rfl rfl rfl rfl ?_
  refine ev_getR f_X11_opened (nx := 26) rfl (hW.s rfl) rfl rfl (hW.r rfl) rfl rfl ?_
  refine ev_inV1 f_X11_opened (nx := 29) (lo2 := [(0, .ref 28)]) rfl rfl rfl rfl f_X1_openedByPlan (hW.s rfl) rfl rfl rfl rfl rfl ?_
  refine ev_ic f_X1_openedByPlan (nx := 1) (v := 0) rfl (by decide) rfl ?_
  refine ev_loc f_X1_openedByPlan (nx := 2) (lo' := [(1, .int 0), (0, .ref 28)]) rfl rfl rfl rfl ?_
  refine ev_ic f_X1_openedByPlan (nx := 3) (v := 0) rfl (by decide) rfl ?_
  refine ev_loc f_X1_openedByPlan (nx := 4) (lo' := [(2, .int 0), (1, .int 0), (0, .ref 28)]) rfl rfl rfl rfl ?_
  refine ev_ic f_X1_openedByPlan (nx := 5) (v := 0) rfl (by decide) rfl ?_
  refine ev_loc f_X1_openedByPlan (nx := 6) (lo' := [(3, .int 0), (2, .int 0), (1, .int 0), (0, .ref 28)]) rfl rfl rfl rfl ?_
  refine ev_ic f_X1_openedByPlan (nx := 7) (v := 0) rfl (by decide) rfl ?_
  refine ev_loc f_X1_openedByPlan (nx := 9) (lo' := [(4, .int 0), (3, .int 0), (2, .int 0), (1, .int 0), (0, .ref 28)]) rfl rfl rfl rfl ?_
  refine ev_loc f_X1_openedByPlan (nx := 11) rfl rfl rfl rfl ?_
  refine ev_loc f_X1_openedByPlan (nx := 12) rfl rfl rfl rfl ?_
  refine ev_gvI f_X1_openedByPlan (nx := 15) (w := 0) rfl (hW.s rfl) rfl rfl rfl rfl ?_
  refine ev_t f_X1_openedByPlan (t1 := 82) (t2 := 18) rfl rfl rfl (by decide) ?_
  refine ev_loc f_X1_openedByPlan (nx := 83) rfl rfl rfl rfl ?_
  refine ev_getR f_X1_openedByPlan (nx := 86) rfl (hW.s rfl) rfl rfl (hW.r rfl) rfl rfl ?_
  refine ev_gvI f_X1_openedByPlan (nx := 89) (w := 0) rfl (hW.s rfl) rfl rfl rfl rfl ?_
  refine ev_ic f_X1_openedByPlan (nx := 90) (v := 1) rfl (by decide) rfl ?_
  refine ev_aluvI f_X1_openedByPlan (nx := 91) (w := -1) rfl rfl rfl (by decide) rfl ?_
  refine ev_loc f_X1_openedByPlan (nx := 93) (lo' := [(4, .int (-1)), (3, .int 0), (2, .int 0), (1, .int 0), (0, .ref 28)]) rfl rfl rfl rfl ?_
  refine ev_loc f_X1_openedByPlan (nx := 94) rfl rfl rfl rfl ?_
  refine ev_t f_X1_openedByPlan (t1 := 102) (t2 := 97) rfl rfl rfl (by decide) ?_
  refine ev_loc f_X1_openedByPlan (nx := 103) rfl rfl rfl rfl ?_
  refine ev_retK1 f_X1_openedByPlan rfl rfl rfl ?_
  refine ev_inV2 f_X11_opened (nx := 32) (lo2 := [(0, .ref 0), (1, .int 0)]) rfl rfl rfl rfl f_X11_answer (hW.s rfl) rfl rfl rfl rfl rfl ?_
  refine ev_loc f_X11_answer (nx := 1) rfl rfl rfl rfl ?_
  refine ev_ic f_X11_answer (nx := 2) (v := 0) rfl (by decide) rfl ?_
  refine ev_putI f_X11_answer (nx := 5) rfl (hW.s rfl) rfl rfl rfl ?_
  refine ev_loc f_X11_answer (nx := 6) rfl rfl rfl rfl ?_
  refine ev_retK1 f_X11_answer rfl rfl rfl ?_
  refine ev_jmp f_X11_opened (nx := 41) rfl rfl rfl ?_
  refine ev_retK1 f_X11_opened rfl rfl rfl ?_
  refine ev_loc f_L_law (nx := 1469) rfl rfl rfl rfl ?_
  refine ev_inV1 f_L_law (nx := 1472) (lo2 := [(0, .ref 69)]) rfl rfl rfl rfl f_X12_opened (hW.s rfl) rfl rfl rfl rfl rfl ?_
  refine ev_loc f_X12_opened (nx := 1) rfl rfl rfl rfl ?_
  refine ev_inV1 f_X12_opened (nx := 4) (lo2 := [(0, .ref 69)]) rfl rfl rfl rfl f_X12_plans (hW.s rfl) rfl rfl rfl rfl rfl ?_
  refine ev_loc f_X12_plans (nx := 1) rfl rfl rfl rfl ?_
  refine ev_ic f_X12_plans (nx := 2) (v := 0) rfl (by decide) rfl ?_
  refine ev_loc f_X12_plans (nx := 3) rfl rfl rfl rfl ?_
  refine ev_getR f_X12_plans (nx := 6) rfl (hW.s rfl) rfl rfl (hW.r rfl) rfl rfl ?_
  refine ev_ic f_X12_plans (nx := 7) (v := 4) rfl (by decide) rfl ?_
  refine ev_ialdv f_X12_plans (nx := 8) (j := 4) (w := 5) rfl (hW.s rfl) (by decide) (by decide) (by decide) (wi_70_4 (gi := gi) hR) rfl ?_
  refine ev_inV3 f_X12_plans (nx := 11) (lo2 := [(0, .ref 69), (1, .int 0), (2, .int 5)]) rfl rfl rfl rfl f_X12_leastBy (hW.s rfl) rfl rfl rfl rfl rfl ?_
  refine ev_loc f_X12_leastBy (nx := 1) rfl rfl rfl rfl ?_
  refine ev_inV1 f_X12_leastBy (nx := 4) (lo2 := [(0, .ref 69)]) rfl rfl rfl rfl f_X12_tellsMinutes (hW.s rfl) rfl rfl rfl rfl rfl ?_
  refine ev_ic f_X12_tellsMinutes (nx := 1) (v := 0) rfl (by decide) rfl ?_
  refine ev_loc f_X12_tellsMinutes (nx := 2) (lo' := [(1, .int 0), (0, .ref 69)]) rfl rfl rfl rfl ?_
  refine ev_loc f_X12_tellsMinutes (nx := 3) rfl rfl rfl rfl ?_
  refine ev_bp f_X12_tellsMinutes (nx := 5) (v := 6) rfl (by decide) rfl ?_
  refine ev_f f_X12_tellsMinutes (t1 := 33) (t2 := 8) rfl rfl rfl (by decide) ?_
  refine ev_loc f_X12_tellsMinutes (nx := 9) rfl rfl rfl rfl ?_
  refine ev_getR f_X12_tellsMinutes (nx := 12) rfl (hW.s rfl) rfl rfl (hW.r rfl) rfl rfl ?_
  refine ev_loc f_X12_tellsMinutes (nx := 13) rfl rfl rfl rfl ?_
  refine ev_loc f_X12_tellsMinutes (nx := 14) rfl rfl rfl rfl ?_
  refine ev_getR f_X12_tellsMinutes (nx := 17) rfl (hW.s rfl) rfl rfl (hW.r rfl) rfl rfl ?_
  refine ev_bp f_X12_tellsMinutes (nx := 19) (v := 52) rfl (by decide) rfl ?_
  refine ev_ic f_X12_tellsMinutes (nx := 20) (v := 5) rfl (by decide) rfl ?_
  refine ev_loc f_X12_tellsMinutes (nx := 21) rfl rfl rfl rfl ?_
  refine ev_aluvI f_X12_tellsMinutes (nx := 22) (w := 0) rfl rfl rfl (by decide) rfl ?_
  refine ev_aluvI f_X12_tellsMinutes (nx := 23) (w := 52) rfl rfl rfl (by decide) rfl ?_
  refine ev_ic f_X12_tellsMinutes (nx := 24) (v := 1) rfl (by decide) rfl ?_
  refine ev_aluvI f_X12_tellsMinutes (nx := 25) (w := 53) rfl rfl rfl (by decide) rfl ?_
  refine ev_ialdv f_X12_tellsMinutes (nx := 26) (j := 53) (w := 0) rfl (hW.s rfl) (by decide) (by decide) (by decide) (wi_70_53 (gi := gi) hR) rfl ?_
  refine ev_iastv f_X12_tellsMinutes (nx := 27) (j := 0) rfl (hW.s rfl) (by decide) (by decide) (by decide) rfl ?_
  refine ev_incv f_X12_tellsMinutes (nx := 30) (c := 1) (w := 1) (lo' := [(1, .int 1), (0, .ref 69)]) rfl rfl (by decide) (by decide) rfl rfl rfl ?_
  refine ev_jmp f_X12_tellsMinutes (nx := 2) rfl rfl rfl ?_
  refine ev_loc f_X12_tellsMinutes (nx := 3) rfl rfl rfl rfl ?_
  refine ev_bp f_X12_tellsMinutes (nx := 5) (v := 6) rfl (by decide) rfl ?_
  refine ev_f f_X12_tellsMinutes (t1 := 33) (t2 := 8) rfl rfl rfl (by decide) ?_
  refine ev_loc f_X12_tellsMinutes (nx := 9) rfl rfl rfl rfl ?_
  refine ev_getR f_X12_tellsMinutes (nx := 12) rfl (hW.s rfl) rfl rfl (hW.r rfl) rfl rfl ?_
  refine ev_loc f_X12_tellsMinutes (nx := 13) rfl rfl rfl rfl ?_
  refine ev_loc f_X12_tellsMinutes (nx := 14) rfl rfl rfl rfl ?_
  refine ev_getR f_X12_tellsMinutes (nx := 17) rfl (hW.s rfl) rfl rfl (hW.r rfl) rfl rfl ?_
  refine ev_bp f_X12_tellsMinutes (nx := 19) (v := 52) rfl (by decide) rfl ?_
  refine ev_ic f_X12_tellsMinutes (nx := 20) (v := 5) rfl (by decide) rfl ?_
  refine ev_loc f_X12_tellsMinutes (nx := 21) rfl rfl rfl rfl ?_
  refine ev_aluvI f_X12_tellsMinutes (nx := 22) (w := 5) rfl rfl rfl (by decide) rfl ?_
  refine ev_aluvI f_X12_tellsMinutes (nx := 23) (w := 57) rfl rfl rfl (by decide) rfl ?_
  refine ev_ic f_X12_tellsMinutes (nx := 24) (v := 1) rfl (by decide) rfl ?_
  refine ev_aluvI f_X12_tellsMinutes (nx := 25) (w := 58) rfl rfl rfl (by decide) rfl ?_
  refine ev_ialdv f_X12_tellsMinutes (nx := 26) (j := 58) (w := 0) rfl (hW.s rfl) (by decide) (by decide) (by decide) (wi_70_58 (gi := gi) hR) rfl ?_
  refine ev_iastv f_X12_tellsMinutes (nx := 27) (j := 1) rfl (hW.s rfl) (by decide) (by decide) (by decide) rfl ?_
  refine ev_incv f_X12_tellsMinutes (nx := 30) (c := 1) (w := 2) (lo' := [(1, .int 2), (0, .ref 69)]) rfl rfl (by decide) (by decide) rfl rfl rfl ?_
  refine ev_jmp f_X12_tellsMinutes (nx := 2) rfl rfl rfl ?_
  refine ev_loc f_X12_tellsMinutes (nx := 3) rfl rfl rfl rfl ?_
  refine ev_bp f_X12_tellsMinutes (nx := 5) (v := 6) rfl (by decide) rfl ?_
  refine ev_f f_X12_tellsMinutes (t1 := 33) (t2 := 8) rfl rfl rfl (by decide) ?_
  refine ev_loc f_X12_tellsMinutes (nx := 9) rfl rfl rfl rfl ?_
  refine ev_getR f_X12_tellsMinutes (nx := 12) rfl (hW.s rfl) rfl rfl (hW.r rfl) rfl rfl ?_
  refine ev_loc f_X12_tellsMinutes (nx := 13) rfl rfl rfl rfl ?_
  refine ev_loc f_X12_tellsMinutes (nx := 14) rfl rfl rfl rfl ?_
  refine ev_getR f_X12_tellsMinutes (nx := 17) rfl (hW.s rfl) rfl rfl (hW.r rfl) rfl rfl ?_
  refine ev_bp f_X12_tellsMinutes (nx := 19) (v := 52) rfl (by decide) rfl ?_
  refine ev_ic f_X12_tellsMinutes (nx := 20) (v := 5) rfl (by decide) rfl ?_
  refine ev_loc f_X12_tellsMinutes (nx := 21) rfl rfl rfl rfl ?_
  refine ev_aluvI f_X12_tellsMinutes (nx := 22) (w := 10) rfl rfl rfl (by decide) rfl ?_
  refine ev_aluvI f_X12_tellsMinutes (nx := 23) (w := 62) rfl rfl rfl (by decide) rfl ?_
  refine ev_ic f_X12_tellsMinutes (nx := 24) (v := 1) rfl (by decide) rfl ?_
  refine ev_aluvI f_X12_tellsMinutes (nx := 25) (w := 63) rfl rfl rfl (by decide) rfl ?_
  refine ev_ialdv f_X12_tellsMinutes (nx := 26) (j := 63) (w := 0) rfl (hW.s rfl) (by decide) (by decide) (by decide) (wi_70_63 (gi := gi) hR) rfl ?_
  refine ev_iastv f_X12_tellsMinutes (nx := 27) (j := 2) rfl (hW.s rfl) (by decide) (by decide) (by decide) rfl ?_
  refine ev_incv f_X12_tellsMinutes (nx := 30) (c := 1) (w := 3) (lo' := [(1, .int 3), (0, .ref 69)]) rfl rfl (by decide) (by decide) rfl rfl rfl ?_
  refine ev_jmp f_X12_tellsMinutes (nx := 2) rfl rfl rfl ?_
  refine ev_loc f_X12_tellsMinutes (nx := 3) rfl rfl rfl rfl ?_
  refine ev_bp f_X12_tellsMinutes (nx := 5) (v := 6) rfl (by decide) rfl ?_
  refine ev_f f_X12_tellsMinutes (t1 := 33) (t2 := 8) rfl rfl rfl (by decide) ?_
  refine ev_loc f_X12_tellsMinutes (nx := 9) rfl rfl rfl rfl ?_
  refine ev_getR f_X12_tellsMinutes (nx := 12) rfl (hW.s rfl) rfl rfl (hW.r rfl) rfl rfl ?_
  refine ev_loc f_X12_tellsMinutes (nx := 13) rfl rfl rfl rfl ?_
  refine ev_loc f_X12_tellsMinutes (nx := 14) rfl rfl rfl rfl ?_
  refine ev_getR f_X12_tellsMinutes (nx := 17) rfl (hW.s rfl) rfl rfl (hW.r rfl) rfl rfl ?_
  refine ev_bp f_X12_tellsMinutes (nx := 19) (v := 52) rfl (by decide) rfl ?_
  refine ev_ic f_X12_tellsMinutes (nx := 20) (v := 5) rfl (by decide) rfl ?_
  refine ev_loc f_X12_tellsMinutes (nx := 21) rfl rfl rfl rfl ?_
  refine ev_aluvI f_X12_tellsMinutes (nx := 22) (w := 15) rfl rfl rfl (by decide) rfl ?_
  refine ev_aluvI f_X12_tellsMinutes (nx := 23) (w := 67) rfl rfl rfl (by decide) rfl ?_
  refine ev_ic f_X12_tellsMinutes (nx := 24) (v := 1) rfl (by decide) rfl ?_
  refine ev_aluvI f_X12_tellsMinutes (nx := 25) (w := 68) rfl rfl rfl (by decide) rfl ?_
  refine ev_ialdv f_X12_tellsMinutes (nx := 26) (j := 68) (w := 0) rfl (hW.s rfl) (by decide) (by decide) (by decide) (wi_70_68 (gi := gi) hR) rfl ?_
  refine ev_iastv f_X12_tellsMinutes (nx := 27) (j := 3) rfl (hW.s rfl) (by decide) (by decide) (by decide) rfl ?_
  refine ev_incv f_X12_tellsMinutes (nx := 30) (c := 1) (w := 4) (lo' := [(1, .int 4), (0, .ref 69)]) rfl rfl (by decide) (by decide) rfl rfl rfl ?_
  refine ev_jmp f_X12_tellsMinutes (nx := 2) rfl rfl rfl ?_
  refine ev_loc f_X12_tellsMinutes (nx := 3) rfl rfl rfl rfl ?_
  refine ev_bp f_X12_tellsMinutes (nx := 5) (v := 6) rfl (by decide) rfl ?_
  refine ev_f f_X12_tellsMinutes (t1 := 33) (t2 := 8) rfl rfl rfl (by decide) ?_
  refine ev_loc f_X12_tellsMinutes (nx := 9) rfl rfl rfl rfl ?_
  refine ev_getR f_X12_tellsMinutes (nx := 12) rfl (hW.s rfl) rfl rfl (hW.r rfl) rfl rfl ?_
  refine ev_loc f_X12_tellsMinutes (nx := 13) rfl rfl rfl rfl ?_
  refine ev_loc f_X12_tellsMinutes (nx := 14) rfl rfl rfl rfl ?_
  refine ev_getR f_X12_tellsMinutes (nx := 17) rfl (hW.s rfl) rfl rfl (hW.r rfl) rfl rfl ?_
  refine ev_bp f_X12_tellsMinutes (nx := 19) (v := 52) rfl (by decide) rfl ?_
  refine ev_ic f_X12_tellsMinutes (nx := 20) (v := 5) rfl (by decide) rfl ?_
  refine ev_loc f_X12_tellsMinutes (nx := 21) rfl rfl rfl rfl ?_
  refine ev_aluvI f_X12_tellsMinutes (nx := 22) (w := 20) rfl rfl rfl (by decide) rfl ?_
  refine ev_aluvI f_X12_tellsMinutes (nx := 23) (w := 72) rfl rfl rfl (by decide) rfl ?_
  refine ev_ic f_X12_tellsMinutes (nx := 24) (v := 1) rfl (by decide) rfl ?_
  refine ev_aluvI f_X12_tellsMinutes (nx := 25) (w := 73) rfl rfl rfl (by decide) rfl ?_
  refine ev_ialdv f_X12_tellsMinutes (nx := 26) (j := 73) (w := 0) rfl (hW.s rfl) (by decide) (by decide) (by decide) (wi_70_73 (gi := gi) hR) rfl ?_
  refine ev_iastv f_X12_tellsMinutes (nx := 27) (j := 4) rfl (hW.s rfl) (by decide) (by decide) (by decide) rfl ?_
  refine ev_incv f_X12_tellsMinutes (nx := 30) (c := 1) (w := 5) (lo' := [(1, .int 5), (0, .ref 69)]) rfl rfl (by decide) (by decide) rfl rfl rfl ?_
  refine ev_jmp f_X12_tellsMinutes (nx := 2) rfl rfl rfl ?_
  refine ev_loc f_X12_tellsMinutes (nx := 3) rfl rfl rfl rfl ?_
  refine ev_bp f_X12_tellsMinutes (nx := 5) (v := 6) rfl (by decide) rfl ?_
  refine ev_f f_X12_tellsMinutes (t1 := 33) (t2 := 8) rfl rfl rfl (by decide) ?_
  refine ev_loc f_X12_tellsMinutes (nx := 9) rfl rfl rfl rfl ?_
  refine ev_getR f_X12_tellsMinutes (nx := 12) rfl (hW.s rfl) rfl rfl (hW.r rfl) rfl rfl ?_
  refine ev_loc f_X12_tellsMinutes (nx := 13) rfl rfl rfl rfl ?_
  refine ev_loc f_X12_tellsMinutes (nx := 14) rfl rfl rfl rfl ?_
  refine ev_getR f_X12_tellsMinutes (nx := 17) rfl (hW.s rfl) rfl rfl (hW.r rfl) rfl rfl ?_
  refine ev_bp f_X12_tellsMinutes (nx := 19) (v := 52) rfl (by decide) rfl ?_
  refine ev_ic f_X12_tellsMinutes (nx := 20) (v := 5) rfl (by decide) rfl ?_
  refine ev_loc f_X12_tellsMinutes (nx := 21) rfl rfl rfl rfl ?_
  refine ev_aluvI f_X12_tellsMinutes (nx := 22) (w := 25) rfl rfl rfl (by decide) rfl ?_
  refine ev_aluvI f_X12_tellsMinutes (nx := 23) (w := 77) rfl rfl rfl (by decide) rfl ?_
  refine ev_ic f_X12_tellsMinutes (nx := 24) (v := 1) rfl (by decide) rfl ?_
  refine ev_aluvI f_X12_tellsMinutes (nx := 25) (w := 78) rfl rfl rfl (by decide) rfl ?_
  refine ev_ialdv f_X12_tellsMinutes (nx := 26) (j := 78) (w := 0) rfl (hW.s rfl) (by decide) (by decide) (by decide) (wi_70_78 (gi := gi) hR) rfl ?_
  refine ev_iastv f_X12_tellsMinutes (nx := 27) (j := 5) rfl (hW.s rfl) (by decide) (by decide) (by decide) rfl ?_
  refine ev_incv f_X12_tellsMinutes (nx := 30) (c := 1) (w := 6) (lo' := [(1, .int 6), (0, .ref 69)]) rfl rfl (by decide) (by decide) rfl rfl rfl ?_
  refine ev_jmp f_X12_tellsMinutes (nx := 2) rfl rfl rfl ?_
  refine ev_loc f_X12_tellsMinutes (nx := 3) rfl rfl rfl rfl ?_
  refine ev_bp f_X12_tellsMinutes (nx := 5) (v := 6) rfl (by decide) rfl ?_
  refine ev_t f_X12_tellsMinutes (t1 := 33) (t2 := 8) rfl rfl rfl (by decide) ?_
  refine ev_ic f_X12_tellsMinutes (nx := 34) (v := 0) rfl (by decide) rfl ?_
  refine ev_loc f_X12_tellsMinutes (nx := 35) (lo' := [(1, .int 0), (0, .ref 69)]) rfl rfl rfl rfl ?_
  refine ev_loc f_X12_tellsMinutes (nx := 36) rfl rfl rfl rfl ?_
  refine ev_bp f_X12_tellsMinutes (nx := 38) (v := 6) rfl (by decide) rfl ?_
  refine ev_f f_X12_tellsMinutes (t1 := 67) (t2 := 41) rfl rfl rfl (by decide) ?_
  refine ev_loc f_X12_tellsMinutes (nx := 42) rfl rfl rfl rfl ?_
  refine ev_getR f_X12_tellsMinutes (nx := 45) rfl (hW.s rfl) rfl rfl (hW.r rfl) rfl rfl ?_
  refine ev_bp f_X12_tellsMinutes (nx := 47) (v := 6) rfl (by decide) rfl ?_
  refine ev_loc f_X12_tellsMinutes (nx := 48) rfl rfl rfl rfl ?_
  refine ev_aluvI f_X12_tellsMinutes (nx := 49) (w := 6) rfl rfl rfl (by decide) rfl ?_
  refine ev_loc f_X12_tellsMinutes (nx := 50) rfl rfl rfl rfl ?_
  refine ev_getR f_X12_tellsMinutes (nx := 53) rfl (hW.s rfl) rfl rfl (hW.r rfl) rfl rfl ?_
  refine ev_bp f_X12_tellsMinutes (nx := 55) (v := 82) rfl (by decide) rfl ?_
  refine ev_ic f_X12_tellsMinutes (nx := 56) (v := 3) rfl (by decide) rfl ?_
  refine ev_loc f_X12_tellsMinutes (nx := 57) rfl rfl rfl rfl ?_
  refine ev_aluvI f_X12_tellsMinutes (nx := 58) (w := 0) rfl rfl rfl (by decide) rfl ?_
  refine ev_aluvI f_X12_tellsMinutes (nx := 59) (w := 82) rfl rfl rfl (by decide) rfl ?_
  refine ev_ialdv f_X12_tellsMinutes (nx := 60) (j := 82) (w := 0) rfl (hW.s rfl) (by decide) (by decide) (by decide) (wi_70_82 (gi := gi) hR) rfl ?_
  refine ev_iastv f_X12_tellsMinutes (nx := 61) (j := 6) rfl (hW.s rfl) (by decide) (by decide) (by decide) rfl ?_
  refine ev_incv f_X12_tellsMinutes (nx := 64) (c := 1) (w := 1) (lo' := [(1, .int 1), (0, .ref 69)]) rfl rfl (by decide) (by decide) rfl rfl rfl ?_
  refine ev_jmp f_X12_tellsMinutes (nx := 35) rfl rfl rfl ?_
  refine ev_loc f_X12_tellsMinutes (nx := 36) rfl rfl rfl rfl ?_
  refine ev_bp f_X12_tellsMinutes (nx := 38) (v := 6) rfl (by decide) rfl ?_
  refine ev_f f_X12_tellsMinutes (t1 := 67) (t2 := 41) rfl rfl rfl (by decide) ?_
  refine ev_loc f_X12_tellsMinutes (nx := 42) rfl rfl rfl rfl ?_
  refine ev_getR f_X12_tellsMinutes (nx := 45) rfl (hW.s rfl) rfl rfl (hW.r rfl) rfl rfl ?_
  refine ev_bp f_X12_tellsMinutes (nx := 47) (v := 6) rfl (by decide) rfl ?_
  refine ev_loc f_X12_tellsMinutes (nx := 48) rfl rfl rfl rfl ?_
  refine ev_aluvI f_X12_tellsMinutes (nx := 49) (w := 7) rfl rfl rfl (by decide) rfl ?_
  refine ev_loc f_X12_tellsMinutes (nx := 50) rfl rfl rfl rfl ?_
  refine ev_getR f_X12_tellsMinutes (nx := 53) rfl (hW.s rfl) rfl rfl (hW.r rfl) rfl rfl ?_
  refine ev_bp f_X12_tellsMinutes (nx := 55) (v := 82) rfl (by decide) rfl ?_
  refine ev_ic f_X12_tellsMinutes (nx := 56) (v := 3) rfl (by decide) rfl ?_
  refine ev_loc f_X12_tellsMinutes (nx := 57) rfl rfl rfl rfl ?_
  refine ev_aluvI f_X12_tellsMinutes (nx := 58) (w := 3) rfl rfl rfl (by decide) rfl ?_
  refine ev_aluvI f_X12_tellsMinutes (nx := 59) (w := 85) rfl rfl rfl (by decide) rfl ?_
  refine ev_ialdv f_X12_tellsMinutes (nx := 60) (j := 85) (w := 0) rfl (hW.s rfl) (by decide) (by decide) (by decide) (wi_70_85 (gi := gi) hR) rfl ?_
  refine ev_iastv f_X12_tellsMinutes (nx := 61) (j := 7) rfl (hW.s rfl) (by decide) (by decide) (by decide) rfl ?_
  refine ev_incv f_X12_tellsMinutes (nx := 64) (c := 1) (w := 2) (lo' := [(1, .int 2), (0, .ref 69)]) rfl rfl (by decide) (by decide) rfl rfl rfl ?_
  refine ev_jmp f_X12_tellsMinutes (nx := 35) rfl rfl rfl ?_
  refine ev_loc f_X12_tellsMinutes (nx := 36) rfl rfl rfl rfl ?_
  refine ev_bp f_X12_tellsMinutes (nx := 38) (v := 6) rfl (by decide) rfl ?_
  refine ev_f f_X12_tellsMinutes (t1 := 67) (t2 := 41) rfl rfl rfl (by decide) ?_
  refine ev_loc f_X12_tellsMinutes (nx := 42) rfl rfl rfl rfl ?_
  refine ev_getR f_X12_tellsMinutes (nx := 45) rfl (hW.s rfl) rfl rfl (hW.r rfl) rfl rfl ?_
  refine ev_bp f_X12_tellsMinutes (nx := 47) (v := 6) rfl (by decide) rfl ?_
  refine ev_loc f_X12_tellsMinutes (nx := 48) rfl rfl rfl rfl ?_
  refine ev_aluvI f_X12_tellsMinutes (nx := 49) (w := 8) rfl rfl rfl (by decide) rfl ?_
  refine ev_loc f_X12_tellsMinutes (nx := 50) rfl rfl rfl rfl ?_
  refine ev_getR f_X12_tellsMinutes (nx := 53) rfl (hW.s rfl) rfl rfl (hW.r rfl) rfl rfl ?_
  refine ev_bp f_X12_tellsMinutes (nx := 55) (v := 82) rfl (by decide) rfl ?_
  refine ev_ic f_X12_tellsMinutes (nx := 56) (v := 3) rfl (by decide) rfl ?_
  refine ev_loc f_X12_tellsMinutes (nx := 57) rfl rfl rfl rfl ?_
  refine ev_aluvI f_X12_tellsMinutes (nx := 58) (w := 6) rfl rfl rfl (by decide) rfl ?_
  refine ev_aluvI f_X12_tellsMinutes (nx := 59) (w := 88) rfl rfl rfl (by decide) rfl ?_
  refine ev_ialdv f_X12_tellsMinutes (nx := 60) (j := 88) (w := 0) rfl (hW.s rfl) (by decide) (by decide) (by decide) (wi_70_88 (gi := gi) hR) rfl ?_
  refine ev_iastv f_X12_tellsMinutes (nx := 61) (j := 8) rfl (hW.s rfl) (by decide) (by decide) (by decide) rfl ?_
  refine ev_incv f_X12_tellsMinutes (nx := 64) (c := 1) (w := 3) (lo' := [(1, .int 3), (0, .ref 69)]) rfl rfl (by decide) (by decide) rfl rfl rfl ?_
  refine ev_jmp f_X12_tellsMinutes (nx := 35) rfl rfl rfl ?_
  refine ev_loc f_X12_tellsMinutes (nx := 36) rfl rfl rfl rfl ?_
  refine ev_bp f_X12_tellsMinutes (nx := 38) (v := 6) rfl (by decide) rfl ?_
  refine ev_f f_X12_tellsMinutes (t1 := 67) (t2 := 41) rfl rfl rfl (by decide) ?_
  refine ev_loc f_X12_tellsMinutes (nx := 42) rfl rfl rfl rfl ?_
  refine ev_getR f_X12_tellsMinutes (nx := 45) rfl (hW.s rfl) rfl rfl (hW.r rfl) rfl rfl ?_
  refine ev_bp f_X12_tellsMinutes (nx := 47) (v := 6) rfl (by decide) rfl ?_
  refine ev_loc f_X12_tellsMinutes (nx := 48) rfl rfl rfl rfl ?_
  refine ev_aluvI f_X12_tellsMinutes (nx := 49) (w := 9) rfl rfl rfl (by decide) rfl ?_
  refine ev_loc f_X12_tellsMinutes (nx := 50) rfl rfl rfl rfl ?_
  refine ev_getR f_X12_tellsMinutes (nx := 53) rfl (hW.s rfl) rfl rfl (hW.r rfl) rfl rfl ?_
  refine ev_bp f_X12_tellsMinutes (nx := 55) (v := 82) rfl (by decide) rfl ?_
  refine ev_ic f_X12_tellsMinutes (nx := 56) (v := 3) rfl (by decide) rfl ?_
  refine ev_loc f_X12_tellsMinutes (nx := 57) rfl rfl rfl rfl ?_
  refine ev_aluvI f_X12_tellsMinutes (nx := 58) (w := 9) rfl rfl rfl (by decide) rfl ?_
  refine ev_aluvI f_X12_tellsMinutes (nx := 59) (w := 91) rfl rfl rfl (by decide) rfl ?_
  refine ev_ialdv f_X12_tellsMinutes (nx := 60) (j := 91) (w := 0) rfl (hW.s rfl) (by decide) (by decide) (by decide) (wi_70_91 (gi := gi) hR) rfl ?_
  refine ev_iastv f_X12_tellsMinutes (nx := 61) (j := 9) rfl (hW.s rfl) (by decide) (by decide) (by decide) rfl ?_
  refine ev_incv f_X12_tellsMinutes (nx := 64) (c := 1) (w := 4) (lo' := [(1, .int 4), (0, .ref 69)]) rfl rfl (by decide) (by decide) rfl rfl rfl ?_
  refine ev_jmp f_X12_tellsMinutes (nx := 35) rfl rfl rfl ?_
  refine ev_loc f_X12_tellsMinutes (nx := 36) rfl rfl rfl rfl ?_
  refine ev_bp f_X12_tellsMinutes (nx := 38) (v := 6) rfl (by decide) rfl ?_
  refine ev_f f_X12_tellsMinutes (t1 := 67) (t2 := 41) rfl rfl rfl (by decide) ?_
  refine ev_loc f_X12_tellsMinutes (nx := 42) rfl rfl rfl rfl ?_
  refine ev_getR f_X12_tellsMinutes (nx := 45) rfl (hW.s rfl) rfl rfl (hW.r rfl) rfl rfl ?_
  refine ev_bp f_X12_tellsMinutes (nx := 47) (v := 6) rfl (by decide) rfl ?_
  refine ev_loc f_X12_tellsMinutes (nx := 48) rfl rfl rfl rfl ?_
  refine ev_aluvI f_X12_tellsMinutes (nx := 49) (w := 10) rfl rfl rfl (by decide) rfl ?_
  refine ev_loc f_X12_tellsMinutes (nx := 50) rfl rfl rfl rfl ?_
  refine ev_getR f_X12_tellsMinutes (nx := 53) rfl (hW.s rfl) rfl rfl (hW.r rfl) rfl rfl ?_
  refine ev_bp f_X12_tellsMinutes (nx := 55) (v := 82) rfl (by decide) rfl ?_
  refine ev_ic f_X12_tellsMinutes (nx := 56) (v := 3) rfl (by decide) rfl ?_
  refine ev_loc f_X12_tellsMinutes (nx := 57) rfl rfl rfl rfl ?_
  refine ev_aluvI f_X12_tellsMinutes (nx := 58) (w := 12) rfl rfl rfl (by decide) rfl ?_
  refine ev_aluvI f_X12_tellsMinutes (nx := 59) (w := 94) rfl rfl rfl (by decide) rfl ?_
  refine ev_ialdv f_X12_tellsMinutes (nx := 60) (j := 94) (w := 0) rfl (hW.s rfl) (by decide) (by decide) (by decide) (wi_70_94 (gi := gi) hR) rfl ?_
  refine ev_iastv f_X12_tellsMinutes (nx := 61) (j := 10) rfl (hW.s rfl) (by decide) (by decide) (by decide) rfl ?_
  refine ev_incv f_X12_tellsMinutes (nx := 64) (c := 1) (w := 5) (lo' := [(1, .int 5), (0, .ref 69)]) rfl rfl (by decide) (by decide) rfl rfl rfl ?_
  refine ev_jmp f_X12_tellsMinutes (nx := 35) rfl rfl rfl ?_
  refine ev_loc f_X12_tellsMinutes (nx := 36) rfl rfl rfl rfl ?_
  refine ev_bp f_X12_tellsMinutes (nx := 38) (v := 6) rfl (by decide) rfl ?_
  refine ev_f f_X12_tellsMinutes (t1 := 67) (t2 := 41) rfl rfl rfl (by decide) ?_
  refine ev_loc f_X12_tellsMinutes (nx := 42) rfl rfl rfl rfl ?_
  refine ev_getR f_X12_tellsMinutes (nx := 45) rfl (hW.s rfl) rfl rfl (hW.r rfl) rfl rfl ?_
  refine ev_bp f_X12_tellsMinutes (nx := 47) (v := 6) rfl (by decide) rfl ?_
  refine ev_loc f_X12_tellsMinutes (nx := 48) rfl rfl rfl rfl ?_
  refine ev_aluvI f_X12_tellsMinutes (nx := 49) (w := 11) rfl rfl rfl (by decide) rfl ?_
  refine ev_loc f_X12_tellsMinutes (nx := 50) rfl rfl rfl rfl ?_
  refine ev_getR f_X12_tellsMinutes (nx := 53) rfl (hW.s rfl) rfl rfl (hW.r rfl) rfl rfl ?_
  refine ev_bp f_X12_tellsMinutes (nx := 55) (v := 82) rfl (by decide) rfl ?_
  refine ev_ic f_X12_tellsMinutes (nx := 56) (v := 3) rfl (by decide) rfl ?_
  refine ev_loc f_X12_tellsMinutes (nx := 57) rfl rfl rfl rfl ?_
  refine ev_aluvI f_X12_tellsMinutes (nx := 58) (w := 15) rfl rfl rfl (by decide) rfl ?_
  refine ev_aluvI f_X12_tellsMinutes (nx := 59) (w := 97) rfl rfl rfl (by decide) rfl ?_
  refine ev_ialdv f_X12_tellsMinutes (nx := 60) (j := 97) (w := 0) rfl (hW.s rfl) (by decide) (by decide) (by decide) (wi_70_97 (gi := gi) hR) rfl ?_
  refine ev_iastv f_X12_tellsMinutes (nx := 61) (j := 11) rfl (hW.s rfl) (by decide) (by decide) (by decide) rfl ?_
  refine ev_incv f_X12_tellsMinutes (nx := 64) (c := 1) (w := 6) (lo' := [(1, .int 6), (0, .ref 69)]) rfl rfl (by decide) (by decide) rfl rfl rfl ?_
  refine ev_jmp f_X12_tellsMinutes (nx := 35) rfl rfl rfl ?_
  refine ev_loc f_X12_tellsMinutes (nx := 36) rfl rfl rfl rfl ?_
  refine ev_bp f_X12_tellsMinutes (nx := 38) (v := 6) rfl (by decide) rfl ?_
  refine ev_t f_X12_tellsMinutes (t1 := 67) (t2 := 41) rfl rfl rfl (by decide) ?_
  refine ev_retK0 f_X12_tellsMinutes rfl rfl rfl ?_
  refine ev_loc f_X12_leastBy (nx := 5) rfl rfl rfl rfl ?_
  refine ev_loc f_X12_leastBy (nx := 6) rfl rfl rfl rfl ?_
  refine ev_inV2 f_X12_leastBy (nx := 9) (lo2 := [(0, .ref 69), (1, .int 0)]) rfl rfl rfl rfl f_X12_orders (hW.s rfl) rfl rfl rfl rfl rfl ?_
  refine ev_loc f_X12_orders (nx := 1) rfl rfl rfl rfl ?_
  refine ev_ic f_X12_orders (nx := 2) (v := 0) rfl (by decide) rfl ?_
  refine ev_putI f_X12_orders (nx := 5) rfl (hW.s rfl) rfl rfl rfl ?_
  refine ev_loc f_X12_orders (nx := 6) rfl rfl rfl rfl ?_
  refine ev_ic f_X12_orders (nx := 7) (v := 0) rfl (by decide) rfl ?_
  refine ev_putI f_X12_orders (nx := 10) rfl (hW.s rfl) rfl rfl rfl ?_
  refine ev_ic f_X12_orders (nx := 11) (v := 0) rfl (by decide) rfl ?_
  refine ev_loc f_X12_orders (nx := 12) (lo' := [(2, .int 0), (0, .ref 69), (1, .int 0)]) rfl rfl rfl rfl ?_
  refine ev_loc f_X12_orders (nx := 13) rfl rfl rfl rfl ?_
  refine ev_loc f_X12_orders (nx := 14) rfl rfl rfl rfl ?_
  refine ev_getR f_X12_orders (nx := 17) rfl (hW.s rfl) rfl rfl (hW.r rfl) rfl rfl ?_
  refine ev_ic f_X12_orders (nx := 18) (v := 1) rfl (by decide) rfl ?_
  refine ev_ialdv f_X12_orders (nx := 19) (j := 1) (w := 0) rfl (hW.s rfl) (by decide) (by decide) (by decide) (wi_70_1 (gi := gi) hR) rfl ?_
  refine ev_t f_X12_orders (t1 := 108) (t2 := 22) rfl rfl rfl (by decide) ?_
  refine ev_ic f_X12_orders (nx := 109) (v := 0) rfl (by decide) rfl ?_
  refine ev_loc f_X12_orders (nx := 110) (lo' := [(2, .int 0), (0, .ref 69), (1, .int 0)]) rfl rfl rfl rfl ?_
  refine ev_loc f_X12_orders (nx := 111) rfl rfl rfl rfl ?_
  refine ev_loc f_X12_orders (nx := 112) rfl rfl rfl rfl ?_
  refine ev_getR f_X12_orders (nx := 115) rfl (hW.s rfl) rfl rfl (hW.r rfl) rfl rfl ?_
  refine ev_ic f_X12_orders (nx := 116) (v := 2) rfl (by decide) rfl ?_
  refine ev_ialdv f_X12_orders (nx := 117) (j := 2) (w := 0) rfl (hW.s rfl) (by decide) (by decide) (by decide) (wi_70_2 (gi := gi) hR) rfl ?_
  refine ev_t f_X12_orders (t1 := 211) (t2 := 120) rfl rfl rfl (by decide) ?_
  refine ev_retK0 f_X12_orders rfl rfl rfl ?_
  refine ev_loc f_X12_leastBy (nx := 10) rfl rfl rfl rfl ?_
  refine ev_loc f_X12_leastBy (nx := 11) rfl rfl rfl rfl ?_
  refine ev_putI f_X12_leastBy (nx := 14) rfl (hW.s rfl) rfl rfl rfl ?_
  refine ev_loc f_X12_leastBy (nx := 15) rfl rfl rfl rfl ?_
  refine ev_cM f_X12_leastBy (nx := 18) (st2 := [.int 0]) rfl rfl rfl rfl rfl rfl (l_rk hW rfl rfl (wi_70_5 (gi := gi) hR) (wz_92 (gi := gi) hR)) rfl rfl ?_
  refine ev_retK1 f_X12_leastBy rfl rfl rfl ?_
  refine ev_ic f_X12_plans (nx := 12) (v := -1) rfl (by decide) rfl ?_
  refine ev_f f_X12_plans (t1 := 15) (t2 := 17) rfl rfl rfl (by decide) ?_
  refine ev_loc f_X12_plans (nx := 18) rfl rfl rfl rfl ?_
  refine ev_ic f_X12_plans (nx := 19) (v := 0) rfl (by decide) rfl ?_
  refine ev_putI f_X12_plans (nx := 22) rfl (hW.s rfl) rfl rfl rfl ?_
  refine ev_loc f_X12_plans (nx := 23) rfl rfl rfl rfl ?_
  refine ev_ic f_X12_plans (nx := 24) (v := 0) rfl (by decide) rfl ?_
  refine ev_putI f_X12_plans (nx := 27) rfl (hW.s rfl) rfl rfl rfl ?_
  refine ev_ic f_X12_plans (nx := 28) (v := 0) rfl (by decide) rfl ?_
  refine ev_loc f_X12_plans (nx := 29) (lo' := [(1, .int 0), (0, .ref 69)]) rfl rfl rfl rfl ?_
  refine ev_ic f_X12_plans (nx := 30) (v := 0) rfl (by decide) rfl ?_
  refine ev_loc f_X12_plans (nx := 31) (lo' := [(2, .int 0), (1, .int 0), (0, .ref 69)]) rfl rfl rfl rfl ?_
  refine ev_ic f_X12_plans (nx := 32) (v := 0) rfl (by decide) rfl ?_
  refine ev_loc f_X12_plans (nx := 33) (lo' := [(3, .int 0), (2, .int 0), (1, .int 0), (0, .ref 69)]) rfl rfl rfl rfl ?_
  refine ev_ic f_X12_plans (nx := 34) (v := 0) rfl (by decide) rfl ?_
  refine ev_loc f_X12_plans (nx := 36) (lo' := [(4, .int 0), (3, .int 0), (2, .int 0), (1, .int 0), (0, .ref 69)]) rfl rfl rfl rfl ?_
  refine ev_loc f_X12_plans (nx := 37) rfl rfl rfl rfl ?_
  refine ev_loc f_X12_plans (nx := 38) rfl rfl rfl rfl ?_
  refine ev_gvI f_X12_plans (nx := 41) (w := 0) rfl (hW.s rfl) rfl rfl rfl rfl ?_
  refine ev_f f_X12_plans (t1 := 53) (t2 := 44) rfl rfl rfl (by decide) ?_
  refine ev_loc f_X12_plans (nx := 46) rfl rfl rfl rfl ?_
  refine ev_loc f_X12_plans (nx := 47) rfl rfl rfl rfl ?_
  refine ev_gvI f_X12_plans (nx := 50) (w := 0) rfl (hW.s rfl) rfl rfl rfl rfl ?_
  refine ev_t f_X12_plans (t1 := 225) (t2 := 53) rfl rfl rfl (by decide) ?_
  refine ev_loc f_X12_plans (nx := 226) rfl rfl rfl rfl ?_
  refine ev_loc f_X12_plans (nx := 227) rfl rfl rfl rfl ?_
  refine ev_putI f_X12_plans (nx := 230) rfl (hW.s rfl) rfl rfl rfl ?_
  refine ev_ic f_X12_plans (nx := 231) (v := 1) rfl (by decide) rfl ?_
  refine ev_retK1 f_X12_plans rfl rfl rfl ?_
  refine ev_f f_X12_opened (t1 := 7) (t2 := 14) rfl rfl rfl (by decide) ?_
  refine ev_ic f_X12_opened (nx := 15) (v := 0) rfl (by decide) rfl ?_
  refine ev_loc f_X12_opened (nx := 16) (lo' := [(1, .int 0), (0, .ref 69)]) rfl rfl rfl rfl ?_
  refine ev_ic f_X12_opened (nx := 17) (v := -1) rfl (by decide) rfl ?_
  refine ev_loc f_X12_opened (nx := 18) (lo' := [(2, .int (-1)), (1, .int 0), (0, .ref 69)]) rfl rfl rfl rfl ?_
  refine ev_ic f_X12_opened (nx := 19) (v := 0) rfl (by decide) rfl ?_
  refine ev_loc f_X12_opened (nx := 20) (lo' := [(3, .int 0), (2, .int (-1)), (1, .int 0), (0, .ref 69)]) rfl rfl rfl rfl ?_
  refine ev_loc f_X12_opened (nx := 21) rfl rfl rfl rfl ?_
  refine ev_loc f_X12_opened (nx := 22) rfl rfl rfl rfl ?_
  refine ev_gvI f_X12_opened (nx := 25) (w := 0) rfl (hW.s rfl) rfl rfl rfl rfl ?_
  refine ev_t f_X12_opened (t1 := 92) (t2 := 28) rfl rfl rfl (by decide) ?_
  refine ev_loc f_X12_opened (nx := 93) rfl rfl rfl rfl ?_
  refine ev_loc f_X12_opened (nx := 94) rfl rfl rfl rfl ?_
  refine ev_ic f_X12_opened (nx := 95) (v := -1) rfl (by decide) rfl ?_
  refine ev_t f_X12_opened (t1 := 98) (t2 := 102) rfl rfl rfl (by decide) ?_
  refine ev_loc f_X12_opened (nx := 99) rfl rfl rfl rfl ?_
  refine ev_jmp f_X12_opened (nx := 110) rfl rfl rfl ?_
  refine ev_inV2 f_X12_opened (nx := 113) (lo2 := [(0, .ref 69), (1, .int 0)]) rfl rfl rfl rfl f_X12_gives (hW.s rfl) rfl rfl rfl rfl rfl ?_
  refine ev_loc f_X12_gives (nx := 1) rfl rfl rfl rfl ?_
  refine ev_ic f_X12_gives (nx := 2) (v := 0) rfl (by decide) rfl ?_
  refine ev_putI f_X12_gives (nx := 5) rfl (hW.s rfl) rfl rfl rfl ?_
  refine ev_loc f_X12_gives (nx := 6) rfl rfl rfl rfl ?_
  refine ev_retK1 f_X12_gives rfl rfl rfl ?_
  refine ev_retK1 f_X12_opened rfl rfl rfl ?_
  refine ev_t f_L_law (t1 := 1628) (t2 := 1475) rfl rfl rfl (by decide) ?_
  refine ev_incv f_L_law (nx := 1631) (c := 6) (w := 6) (lo' := [(3, .int 6), (2, .ref 69), (1, .ref 0), (0, .retAddr 30)]) rfl rfl (by decide) (by decide) rfl rfl rfl ?_
  refine ev_jmp f_L_law (nx := 18) rfl rfl rfl ?_
  refine ev_loc f_L_law (nx := 19) rfl rfl rfl rfl ?_
  refine ev_loc f_L_law (nx := 20) rfl rfl rfl rfl ?_
  refine ev_alenX f_L_law (nx := 21) rfl hX rfl ?_
  refine ev_bp f_L_law (nx := 23) (v := 6) rfl (by decide) rfl ?_
  refine ev_aluvI f_L_law (nx := 24) (w := 0) rfl rfl rfl (by decide) rfl ?_
  refine ev_t f_L_law (t1 := 1634) (t2 := 27) rfl rfl rfl (by decide) ?_
  refine ev_ic f_L_law (nx := 1635) (v := 1) rfl (by decide) rfl ?_
  refine ev_ret f_L_law rfl rfl rfl ?_
  exact ⟨rfl, hz⟩
set_option maxRecDepth 20000 in
theorem pc_32 (hR : x_R W1 (sh, gi, gl, gr)) (hX : X.1 = 6) : x_Ev X 1000 n_L_law 1267 [(3, .int 0), (2, .ref 69), (1, .ref 0), (0, .retAddr 30)] [] (sh, gi, gl, gr) x_P1 := by
  have hW := W1_WF hR
  have hz := W1_hz hR
  refine ev_loc f_L_law (nx := 1268) rfl rfl rfl rfl ?_
  refine ev_inV1 f_L_law (nx := 1271) (lo2 := [(0, .ref 0)]) rfl rfl rfl rfl f_X11_plan (hW.s rfl) rfl rfl rfl rfl rfl ?_
  refine ev_loc f_X11_plan (nx := 1) rfl rfl rfl rfl ?_
  refine ev_getR f_X11_plan (nx := 4) rfl (hW.s rfl) rfl rfl (hW.r rfl) rfl rfl ?_
  refine ev_loc f_X11_plan (nx := 5) rfl rfl rfl rfl ?_
  refine ev_getR f_X11_plan (nx := 8) rfl (hW.s rfl) rfl rfl (wr_0_6 (gr := gr) hR) rfl rfl ?_
  refine ev_inV2 f_X11_plan (nx := 11) (lo2 := [(0, .ref 28), (1, .ref 3)]) rfl rfl rfl rfl f_X1_takeAll (hW.s rfl) rfl rfl rfl rfl rfl ?_
  refine ev_loc f_X1_takeAll (nx := 1) rfl rfl rfl rfl ?_
  refine ev_loc f_X1_takeAll (nx := 2) rfl rfl rfl rfl ?_
  refine ev_putR f_X1_takeAll (nx := 5) rfl (hW.s rfl) rfl rfl rfl rfl ?_
  replace hW := x_WF_up hW (k := 28) (j := 0) (v := .ref 3) rfl
  refine ev_loc f_X1_takeAll (nx := 6) rfl rfl rfl rfl ?_
  refine ev_loc f_X1_takeAll (nx := 7) rfl rfl rfl rfl ?_
  refine ev_gvI f_X1_takeAll (nx := 10) (w := 5) rfl (hW.s rfl) rfl rfl (wi_3_3 (gi := gi) hR) rfl ?_
  refine ev_putI f_X1_takeAll (nx := 13) rfl (hW.s rfl) rfl rfl rfl ?_
  refine ev_loc f_X1_takeAll (nx := 14) rfl rfl rfl rfl ?_
  refine ev_loc f_X1_takeAll (nx := 15) rfl rfl rfl rfl ?_
  refine ev_ic f_X1_takeAll (nx := 16) (v := 0) rfl (by decide) rfl ?_
  refine ev_ic f_X1_takeAll (nx := 17) (v := -1) rfl (by decide) rfl ?_
  refine ev_ic f_X1_takeAll (nx := 18) (v := 0) rfl (by decide) rfl ?_
  refine ev_inV5 f_X1_takeAll (nx := 21) (lo2 := [(0, .ref 28), (1, .ref 3), (2, .int 0), (3, .int (-1)), (4, .int 0)]) rfl rfl rfl rfl f_X1_takeShips (hW.s rfl) rfl rfl rfl rfl rfl ?_
  refine ev_loc f_X1_takeShips (nx := 1) rfl rfl rfl rfl ?_
  refine ev_getR f_X1_takeShips (nx := 4) rfl (hW.s rfl) rfl rfl (hW.r rfl) rfl rfl ?_
  refine ev_inV1 f_X1_takeShips (nx := 7) (lo2 := [(0, .ref 29)]) rfl rfl rfl rfl f_X4_clear (hW.s rfl) rfl rfl rfl rfl rfl ?_
  refine ev_loc f_X4_clear (nx := 1) rfl rfl rfl rfl ?_
  refine ev_ic f_X4_clear (nx := 2) (v := 0) rfl (by decide) rfl ?_
  refine ev_putI f_X4_clear (nx := 5) rfl (hW.s rfl) rfl rfl rfl ?_
  refine ev_retK0 f_X4_clear rfl rfl rfl ?_
  refine ev_ic f_X1_takeShips (nx := 8) (v := 0) rfl (by decide) rfl ?_
  refine ev_loc f_X1_takeShips (nx := 10) (lo' := [(5, .int 0), (0, .ref 28), (1, .ref 3), (2, .int 0), (3, .int (-1)), (4, .int 0)]) rfl rfl rfl rfl ?_
  refine ev_loc f_X1_takeShips (nx := 12) rfl rfl rfl rfl ?_
  refine ev_loc f_X1_takeShips (nx := 13) rfl rfl rfl rfl ?_
  refine ev_getR f_X1_takeShips (nx := 16) rfl (hW.s rfl) rfl rfl (hW.r rfl) rfl rfl ?_
  refine ev_gvI f_X1_takeShips (nx := 19) (w := 0) rfl (hW.s rfl) rfl rfl (wi_6_0 (gi := gi) hR) rfl ?_
  refine ev_t f_X1_takeShips (t1 := 77) (t2 := 22) rfl rfl rfl (by decide) ?_
  refine ev_retK0 f_X1_takeShips rfl rfl rfl ?_
  refine ev_loc f_X1_takeAll (nx := 22) rfl rfl rfl rfl ?_
  refine ev_loc f_X1_takeAll (nx := 23) rfl rfl rfl rfl ?_
  refine ev_ic f_X1_takeAll (nx := 24) (v := -1) rfl (by decide) rfl ?_
  refine ev_inV3 f_X1_takeAll (nx := 27) (lo2 := [(0, .ref 28), (1, .ref 3), (2, .int (-1))]) rfl rfl rfl rfl f_X1_takeCarts (hW.s rfl) rfl rfl rfl rfl rfl ?_
  refine ev_loc f_X1_takeCarts (nx := 1) rfl rfl rfl rfl ?_
  refine ev_getR f_X1_takeCarts (nx := 4) rfl (hW.s rfl) rfl rfl (hW.r rfl) rfl rfl ?_
  refine ev_inV1 f_X1_takeCarts (nx := 7) (lo2 := [(0, .ref 35)]) rfl rfl rfl rfl f_X4_clear (hW.s rfl) rfl rfl rfl rfl rfl ?_
  refine ev_loc f_X4_clear (nx := 1) rfl rfl rfl rfl ?_
  refine ev_ic f_X4_clear (nx := 2) (v := 0) rfl (by decide) rfl ?_
  refine ev_putI f_X4_clear (nx := 5) rfl (hW.s rfl) rfl rfl rfl ?_
  refine ev_retK0 f_X4_clear rfl rfl rfl ?_
  refine ev_ic f_X1_takeCarts (nx := 8) (v := 0) rfl (by decide) rfl ?_
  refine ev_loc f_X1_takeCarts (nx := 9) (lo' := [(3, .int 0), (0, .ref 28), (1, .ref 3), (2, .int (-1))]) rfl rfl rfl rfl ?_
  refine ev_loc f_X1_takeCarts (nx := 10) rfl rfl rfl rfl ?_
  refine ev_loc f_X1_takeCarts (nx := 11) rfl rfl rfl rfl ?_
  refine ev_getR f_X1_takeCarts (nx := 14) rfl (hW.s rfl) rfl rfl (hW.r rfl) rfl rfl ?_
  refine ev_gvI f_X1_takeCarts (nx := 17) (w := 0) rfl (hW.s rfl) rfl rfl (wi_13_0 (gi := gi) hR) rfl ?_
  refine ev_t f_X1_takeCarts (t1 := 52) (t2 := 20) rfl rfl rfl (by decide) ?_
  refine ev_retK0 f_X1_takeCarts rfl rfl rfl ?_
  refine ev_retK0 f_X1_takeAll rfl rfl rfl ?_
  refine ev_loc f_X11_plan (nx := 12) rfl rfl rfl rfl ?_
  refine ev_getR f_X11_plan (nx := 15) rfl (hW.s rfl) rfl rfl (hW.r rfl) rfl rfl ?_
  refine ev_inV1 f_X11_plan (nx := 18) (lo2 := [(0, .ref 28)]) rfl rfl rfl rfl f_X1_layPlan (hW.s rfl) rfl rfl rfl rfl rfl ?_
  refine ev_loc f_X1_layPlan (nx := 1) rfl rfl rfl rfl ?_
  refine ev_ic f_X1_layPlan (nx := 2) (v := 0) rfl (by decide) rfl ?_
  refine ev_putI f_X1_layPlan (nx := 5) rfl (hW.s rfl) rfl rfl rfl ?_
  refine ev_loc f_X1_layPlan (nx := 6) rfl rfl rfl rfl ?_
  refine ev_inV1 f_X1_layPlan (nx := 9) (lo2 := [(0, .ref 28)]) rfl rfl rfl rfl f_X1_leastWaits (hW.s rfl) rfl rfl rfl rfl rfl ?_
  refine ev_loc f_X1_leastWaits (nx := 1) rfl rfl rfl rfl ?_
  refine ev_ldI f_X1_leastWaits (nx := 3) (v := 1000000000) rfl (by decide) rfl ?_
  refine ev_putI f_X1_leastWaits (nx := 6) rfl (hW.s rfl) rfl rfl rfl ?_
  refine ev_loc f_X1_leastWaits (nx := 7) rfl rfl rfl rfl ?_
  refine ev_ic f_X1_leastWaits (nx := 8) (v := 0) rfl (by decide) rfl ?_
  refine ev_putI f_X1_leastWaits (nx := 11) rfl (hW.s rfl) rfl rfl rfl ?_
  refine ev_loc f_X1_leastWaits (nx := 12) rfl rfl rfl rfl ?_
  refine ev_ic f_X1_leastWaits (nx := 13) (v := 0) rfl (by decide) rfl ?_
  refine ev_ic f_X1_leastWaits (nx := 14) (v := 0) rfl (by decide) rfl ?_
  refine ev_ic f_X1_leastWaits (nx := 15) (v := 0) rfl (by decide) rfl ?_
  refine ev_ic f_X1_leastWaits (nx := 16) (v := 0) rfl (by decide) rfl ?_
  refine ev_ic f_X1_leastWaits (nx := 17) (v := 0) rfl (by decide) rfl ?_
  refine ev_inV6 f_X1_leastWaits (nx := 20) (lo2 := [(0, .ref 28), (1, .int 0), (2, .int 0), (3, .int 0), (4, .int 0), (5, .int 0)]) rfl rfl rfl rfl f_X1_search (hW.s rfl) rfl rfl rfl rfl rfl ?_
  refine ev_loc f_X1_search (nx := 2) rfl rfl rfl rfl ?_
  refine ev_loc f_X1_search (nx := 3) rfl rfl rfl rfl ?_
  refine ev_gvI f_X1_search (nx := 6) (w := 1000000000) rfl (hW.s rfl) rfl rfl rfl rfl ?_
  refine ev_f f_X1_search (t1 := 20) (t2 := 9) rfl rfl rfl (by decide) ?_
  refine ev_loc f_X1_search (nx := 10) rfl rfl rfl rfl ?_
  refine ev_gvI f_X1_search (nx := 13) (w := 1000000000) rfl (hW.s rfl) rfl rfl rfl rfl ?_
  refine ev_loc f_X1_search (nx := 14) rfl rfl rfl rfl ?_
  refine ev_gvI f_X1_search (nx := 17) (w := 0) rfl (hW.s rfl) rfl rfl rfl rfl ?_
  refine ev_t f_X1_search (t1 := 21) (t2 := 20) rfl rfl rfl (by decide) ?_
  refine ev_loc f_X1_search (nx := 22) rfl rfl rfl rfl ?_
  refine ev_loc f_X1_search (nx := 23) rfl rfl rfl rfl ?_
  refine ev_getR f_X1_search (nx := 26) rfl (hW.s rfl) rfl rfl (hW.r rfl) rfl rfl ?_
  refine ev_gvI f_X1_search (nx := 29) (w := 0) rfl (hW.s rfl) rfl rfl rfl rfl ?_
  refine ev_f f_X1_search (t1 := 51) (t2 := 32) rfl rfl rfl (by decide) ?_
  refine ev_loc f_X1_search (nx := 34) rfl rfl rfl rfl ?_
  refine ev_loc f_X1_search (nx := 35) rfl rfl rfl rfl ?_
  refine ev_getR f_X1_search (nx := 38) rfl (hW.s rfl) rfl rfl (hW.r rfl) rfl rfl ?_
  refine ev_gvI f_X1_search (nx := 41) (w := 0) rfl (hW.s rfl) rfl rfl rfl rfl ?_
  refine ev_f f_X1_search (t1 := 51) (t2 := 44) rfl rfl rfl (by decide) ?_
  refine ev_loc f_X1_search (nx := 45) rfl rfl rfl rfl ?_
  refine ev_loc f_X1_search (nx := 47) rfl rfl rfl rfl ?_
  refine ev_putI f_X1_search (nx := 50) rfl (hW.s rfl) rfl rfl rfl ?_
  refine ev_retK0 f_X1_search rfl rfl rfl ?_
  refine ev_loc f_X1_leastWaits (nx := 21) rfl rfl rfl rfl ?_
  refine ev_gvI f_X1_leastWaits (nx := 24) (w := 0) rfl (hW.s rfl) rfl rfl rfl rfl ?_
  refine ev_retK1 f_X1_leastWaits rfl rfl rfl ?_
  refine ev_loc f_X1_layPlan (nx := 10) (lo' := [(1, .int 0), (0, .ref 28)]) rfl rfl rfl rfl ?_
  refine ev_loc f_X1_layPlan (nx := 11) rfl rfl rfl rfl ?_
  refine ev_ldI f_X1_layPlan (nx := 13) (v := 1000000000) rfl (by decide) rfl ?_
  refine ev_t f_X1_layPlan (t1 := 18) (t2 := 16) rfl rfl rfl (by decide) ?_
  refine ev_ic f_X1_layPlan (nx := 19) (v := 0) rfl (by decide) rfl ?_
  refine ev_loc f_X1_layPlan (nx := 20) (lo' := [(2, .int 0), (1, .int 0), (0, .ref 28)]) rfl rfl rfl rfl ?_
  refine ev_ic f_X1_layPlan (nx := 21) (v := 0) rfl (by decide) rfl ?_
  refine ev_loc f_X1_layPlan (nx := 22) (lo' := [(3, .int 0), (2, .int 0), (1, .int 0), (0, .ref 28)]) rfl rfl rfl rfl ?_
  refine ev_ic f_X1_layPlan (nx := 23) (v := 0) rfl (by decide) rfl ?_
  refine ev_loc f_X1_layPlan (nx := 25) (lo' := [(4, .int 0), (3, .int 0), (2, .int 0), (1, .int 0), (0, .ref 28)]) rfl rfl rfl rfl ?_
  refine ev_ic f_X1_layPlan (nx := 26) (v := 0) rfl (by decide) rfl ?_
  refine ev_loc f_X1_layPlan (nx := 28) (lo' := [(5, .int 0), (4, .int 0), (3, .int 0), (2, .int 0), (1, .int 0), (0, .ref 28)]) rfl rfl rfl rfl ?_
  refine ev_ic f_X1_layPlan (nx := 29) (v := 0) rfl (by decide) rfl ?_
  refine ev_loc f_X1_layPlan (nx := 31) (lo' := [(6, .int 0), (5, .int 0), (4, .int 0), (3, .int 0), (2, .int 0), (1, .int 0), (0, .ref 28)]) rfl rfl rfl rfl ?_
  refine ev_loc f_X1_layPlan (nx := 33) rfl rfl rfl rfl ?_
  refine ev_sp f_X1_layPlan (nx := 36) (v := 240) rfl (by decide) rfl ?_
  refine ev_f f_X1_layPlan (t1 := 259) (t2 := 39) rfl rfl rfl (by decide) ?_
  refine ev_loc f_X1_layPlan (nx := 41) rfl rfl rfl rfl ?_
  refine ev_loc f_X1_layPlan (nx := 43) rfl rfl rfl rfl ?_
  refine ev_aluvI f_X1_layPlan (nx := 44) (w := 0) rfl rfl rfl (by decide) rfl ?_
  refine ev_loc f_X1_layPlan (nx := 45) rfl rfl rfl rfl ?_
  refine ev_getR f_X1_layPlan (nx := 48) rfl (hW.s rfl) rfl rfl (hW.r rfl) rfl rfl ?_
  refine ev_gvI f_X1_layPlan (nx := 51) (w := 0) rfl (hW.s rfl) rfl rfl rfl rfl ?_
  refine ev_loc f_X1_layPlan (nx := 52) rfl rfl rfl rfl ?_
  refine ev_getR f_X1_layPlan (nx := 55) rfl (hW.s rfl) rfl rfl (hW.r rfl) rfl rfl ?_
  refine ev_gvI f_X1_layPlan (nx := 58) (w := 0) rfl (hW.s rfl) rfl rfl rfl rfl ?_
  refine ev_aluvI f_X1_layPlan (nx := 59) (w := 0) rfl rfl rfl (by decide) rfl ?_
  refine ev_t f_X1_layPlan (t1 := 259) (t2 := 62) rfl rfl rfl (by decide) ?_
  refine ev_ic f_X1_layPlan (nx := 260) (v := 1) rfl (by decide) rfl ?_
  refine ev_retK1 f_X1_layPlan rfl rfl rfl ?_
  refine ev_f f_X11_plan (t1 := 21) (t2 := 28) rfl rfl rfl (by decide) ?_
  refine ev_loc f_X11_plan (nx := 29) rfl rfl rfl rfl ?_
  refine ev_getR f_X11_plan (nx := 32) rfl (hW.s rfl) rfl rfl (hW.r rfl) rfl rfl ?_
  refine ev_inV1 f_X11_plan (nx := 35) (lo2 := [(0, .ref 28)]) rfl rfl rfl rfl f_X1_tellPlan (hW.s rfl) rfl rfl rfl rfl rfl ?_
  refine ev_loc f_X1_tellPlan (nx := 1) rfl rfl rfl rfl ?_
  refine ev_getR f_X1_tellPlan (nx := 4) rfl (hW.s rfl) rfl rfl (hW.r rfl) rfl rfl ?_
  refine ev_ic f_X1_tellPlan (nx := 5) (v := 0) rfl (by decide) rfl ?_
  refine ev_loc f_X1_tellPlan (nx := 6) rfl rfl rfl rfl ?_
  refine ev_getR f_X1_tellPlan (nx := 9) rfl (hW.s rfl) rfl rfl (hW.r rfl) rfl rfl ?_
  refine ev_ic f_X1_tellPlan (nx := 10) (v := 0) rfl (by decide) rfl ?_
  refine ev_loc f_X1_tellPlan (nx := 11) rfl rfl rfl rfl ?_
  refine ev_getR f_X1_tellPlan (nx := 14) rfl (hW.s rfl) rfl rfl (hW.r rfl) rfl rfl ?_
  refine ev_alenv f_X1_tellPlan (nx := 15) (w := 72) rfl (hW.s rfl) rfl (by decide) rfl ?_
  refine ev_cpyI f_X1_tellPlan (nx := 18) (sp := 0) (dp := 0) (n := 72) rfl rfl (hW.s rfl) (hW.s rfl) (by decide) (by decide) (by decide) (by decide) (by decide) (by decide) (by decide) (by decide) (by decide) rfl ?_
  refine ev_loc f_X1_tellPlan (nx := 19) rfl rfl rfl rfl ?_
  refine ev_loc f_X1_tellPlan (nx := 20) rfl rfl rfl rfl ?_
  refine ev_gvI f_X1_tellPlan (nx := 23) (w := 0) rfl (hW.s rfl) rfl rfl rfl rfl ?_
  refine ev_putI f_X1_tellPlan (nx := 26) rfl (hW.s rfl) rfl rfl rfl ?_
  refine ev_retK0 f_X1_tellPlan rfl rfl rfl ?_
  refine ev_loc f_X11_plan (nx := 36) rfl rfl rfl rfl ?_
  refine ev_loc f_X11_plan (nx := 37) rfl rfl rfl rfl ?_
  refine ev_getR f_X11_plan (nx := 40) rfl (hW.s rfl) rfl rfl (hW.r rfl) rfl rfl ?_
  refine ev_gvI f_X11_plan (nx := 43) (w := 0) rfl (hW.s rfl) rfl rfl rfl rfl ?_
  refine ev_inV2 f_X11_plan (nx := 46) (lo2 := [(0, .ref 0), (1, .int 0)]) rfl rfl rfl rfl f_X11_answer (hW.s rfl) rfl rfl rfl rfl rfl ?_
  refine ev_loc f_X11_answer (nx := 1) rfl rfl rfl rfl ?_
  refine ev_ic f_X11_answer (nx := 2) (v := 0) rfl (by decide) rfl ?_
  refine ev_putI f_X11_answer (nx := 5) rfl (hW.s rfl) rfl rfl rfl ?_
  refine ev_loc f_X11_answer (nx := 6) rfl rfl rfl rfl ?_
  refine ev_retK1 f_X11_answer rfl rfl rfl ?_
  refine ev_retK1 f_X11_plan rfl rfl rfl ?_
  refine ev_loc f_L_law (nx := 1272) rfl rfl rfl rfl ?_
  refine ev_inV1 f_L_law (nx := 1275) (lo2 := [(0, .ref 69)]) rfl rfl rfl rfl f_X12_plan (hW.s rfl) rfl rfl rfl rfl rfl ?_
  refine ev_loc f_X12_plan (nx := 1) rfl rfl rfl rfl ?_
  refine ev_inV1 f_X12_plan (nx := 4) (lo2 := [(0, .ref 69)]) rfl rfl rfl rfl f_X12_plans (hW.s rfl) rfl rfl rfl rfl rfl ?_
  refine ev_loc f_X12_plans (nx := 1) rfl rfl rfl rfl ?_
  refine ev_ic f_X12_plans (nx := 2) (v := 0) rfl (by decide) rfl ?_
  refine ev_loc f_X12_plans (nx := 3) rfl rfl rfl rfl ?_
  refine ev_getR f_X12_plans (nx := 6) rfl (hW.s rfl) rfl rfl (hW.r rfl) rfl rfl ?_
  refine ev_ic f_X12_plans (nx := 7) (v := 4) rfl (by decide) rfl ?_
  refine ev_ialdv f_X12_plans (nx := 8) (j := 4) (w := 5) rfl (hW.s rfl) (by decide) (by decide) (by decide) (wi_70_4 (gi := gi) hR) rfl ?_
  refine ev_inV3 f_X12_plans (nx := 11) (lo2 := [(0, .ref 69), (1, .int 0), (2, .int 5)]) rfl rfl rfl rfl f_X12_leastBy (hW.s rfl) rfl rfl rfl rfl rfl ?_
  refine ev_loc f_X12_leastBy (nx := 1) rfl rfl rfl rfl ?_
  refine ev_inV1 f_X12_leastBy (nx := 4) (lo2 := [(0, .ref 69)]) rfl rfl rfl rfl f_X12_tellsMinutes (hW.s rfl) rfl rfl rfl rfl rfl ?_
  refine ev_ic f_X12_tellsMinutes (nx := 1) (v := 0) rfl (by decide) rfl ?_
  refine ev_loc f_X12_tellsMinutes (nx := 2) (lo' := [(1, .int 0), (0, .ref 69)]) rfl rfl rfl rfl ?_
  refine ev_loc f_X12_tellsMinutes (nx := 3) rfl rfl rfl rfl ?_
  refine ev_bp f_X12_tellsMinutes (nx := 5) (v := 6) rfl (by decide) rfl ?_
  refine ev_f f_X12_tellsMinutes (t1 := 33) (t2 := 8) rfl rfl rfl (by decide) ?_
  refine ev_loc f_X12_tellsMinutes (nx := 9) rfl rfl rfl rfl ?_
  refine ev_getR f_X12_tellsMinutes (nx := 12) rfl (hW.s rfl) rfl rfl (hW.r rfl) rfl rfl ?_
  refine ev_loc f_X12_tellsMinutes (nx := 13) rfl rfl rfl rfl ?_
  refine ev_loc f_X12_tellsMinutes (nx := 14) rfl rfl rfl rfl ?_
  refine ev_getR f_X12_tellsMinutes (nx := 17) rfl (hW.s rfl) rfl rfl (hW.r rfl) rfl rfl ?_
  refine ev_bp f_X12_tellsMinutes (nx := 19) (v := 52) rfl (by decide) rfl ?_
  refine ev_ic f_X12_tellsMinutes (nx := 20) (v := 5) rfl (by decide) rfl ?_
  refine ev_loc f_X12_tellsMinutes (nx := 21) rfl rfl rfl rfl ?_
  refine ev_aluvI f_X12_tellsMinutes (nx := 22) (w := 0) rfl rfl rfl (by decide) rfl ?_
  refine ev_aluvI f_X12_tellsMinutes (nx := 23) (w := 52) rfl rfl rfl (by decide) rfl ?_
  refine ev_ic f_X12_tellsMinutes (nx := 24) (v := 1) rfl (by decide) rfl ?_
  refine ev_aluvI f_X12_tellsMinutes (nx := 25) (w := 53) rfl rfl rfl (by decide) rfl ?_
  refine ev_ialdv f_X12_tellsMinutes (nx := 26) (j := 53) (w := 0) rfl (hW.s rfl) (by decide) (by decide) (by decide) (wi_70_53 (gi := gi) hR) rfl ?_
  refine ev_iastv f_X12_tellsMinutes (nx := 27) (j := 0) rfl (hW.s rfl) (by decide) (by decide) (by decide) rfl ?_
  refine ev_incv f_X12_tellsMinutes (nx := 30) (c := 1) (w := 1) (lo' := [(1, .int 1), (0, .ref 69)]) rfl rfl (by decide) (by decide) rfl rfl rfl ?_
  refine ev_jmp f_X12_tellsMinutes (nx := 2) rfl rfl rfl ?_
  refine ev_loc f_X12_tellsMinutes (nx := 3) rfl rfl rfl rfl ?_
  refine ev_bp f_X12_tellsMinutes (nx := 5) (v := 6) rfl (by decide) rfl ?_
  refine ev_f f_X12_tellsMinutes (t1 := 33) (t2 := 8) rfl rfl rfl (by decide) ?_
  refine ev_loc f_X12_tellsMinutes (nx := 9) rfl rfl rfl rfl ?_
  refine ev_getR f_X12_tellsMinutes (nx := 12) rfl (hW.s rfl) rfl rfl (hW.r rfl) rfl rfl ?_
  refine ev_loc f_X12_tellsMinutes (nx := 13) rfl rfl rfl rfl ?_
  refine ev_loc f_X12_tellsMinutes (nx := 14) rfl rfl rfl rfl ?_
  refine ev_getR f_X12_tellsMinutes (nx := 17) rfl (hW.s rfl) rfl rfl (hW.r rfl) rfl rfl ?_
  refine ev_bp f_X12_tellsMinutes (nx := 19) (v := 52) rfl (by decide) rfl ?_
  refine ev_ic f_X12_tellsMinutes (nx := 20) (v := 5) rfl (by decide) rfl ?_
  refine ev_loc f_X12_tellsMinutes (nx := 21) rfl rfl rfl rfl ?_
  refine ev_aluvI f_X12_tellsMinutes (nx := 22) (w := 5) rfl rfl rfl (by decide) rfl ?_
  refine ev_aluvI f_X12_tellsMinutes (nx := 23) (w := 57) rfl rfl rfl (by decide) rfl ?_
  refine ev_ic f_X12_tellsMinutes (nx := 24) (v := 1) rfl (by decide) rfl ?_
  refine ev_aluvI f_X12_tellsMinutes (nx := 25) (w := 58) rfl rfl rfl (by decide) rfl ?_
  refine ev_ialdv f_X12_tellsMinutes (nx := 26) (j := 58) (w := 0) rfl (hW.s rfl) (by decide) (by decide) (by decide) (wi_70_58 (gi := gi) hR) rfl ?_
  refine ev_iastv f_X12_tellsMinutes (nx := 27) (j := 1) rfl (hW.s rfl) (by decide) (by decide) (by decide) rfl ?_
  refine ev_incv f_X12_tellsMinutes (nx := 30) (c := 1) (w := 2) (lo' := [(1, .int 2), (0, .ref 69)]) rfl rfl (by decide) (by decide) rfl rfl rfl ?_
  refine ev_jmp f_X12_tellsMinutes (nx := 2) rfl rfl rfl ?_
  refine ev_loc f_X12_tellsMinutes (nx := 3) rfl rfl rfl rfl ?_
  refine ev_bp f_X12_tellsMinutes (nx := 5) (v := 6) rfl (by decide) rfl ?_
  refine ev_f f_X12_tellsMinutes (t1 := 33) (t2 := 8) rfl rfl rfl (by decide) ?_
  refine ev_loc f_X12_tellsMinutes (nx := 9) rfl rfl rfl rfl ?_
  refine ev_getR f_X12_tellsMinutes (nx := 12) rfl (hW.s rfl) rfl rfl (hW.r rfl) rfl rfl ?_
  refine ev_loc f_X12_tellsMinutes (nx := 13) rfl rfl rfl rfl ?_
  refine ev_loc f_X12_tellsMinutes (nx := 14) rfl rfl rfl rfl ?_
  refine ev_getR f_X12_tellsMinutes (nx := 17) rfl (hW.s rfl) rfl rfl (hW.r rfl) rfl rfl ?_
  refine ev_bp f_X12_tellsMinutes (nx := 19) (v := 52) rfl (by decide) rfl ?_
  refine ev_ic f_X12_tellsMinutes (nx := 20) (v := 5) rfl (by decide) rfl ?_
  refine ev_loc f_X12_tellsMinutes (nx := 21) rfl rfl rfl rfl ?_
  refine ev_aluvI f_X12_tellsMinutes (nx := 22) (w := 10) rfl rfl rfl (by decide) rfl ?_
  refine ev_aluvI f_X12_tellsMinutes (nx := 23) (w := 62) rfl rfl rfl (by decide) rfl ?_
  refine ev_ic f_X12_tellsMinutes (nx := 24) (v := 1) rfl (by decide) rfl ?_
  refine ev_aluvI f_X12_tellsMinutes (nx := 25) (w := 63) rfl rfl rfl (by decide) rfl ?_
  refine ev_ialdv f_X12_tellsMinutes (nx := 26) (j := 63) (w := 0) rfl (hW.s rfl) (by decide) (by decide) (by decide) (wi_70_63 (gi := gi) hR) rfl ?_
  refine ev_iastv f_X12_tellsMinutes (nx := 27) (j := 2) rfl (hW.s rfl) (by decide) (by decide) (by decide) rfl ?_
  refine ev_incv f_X12_tellsMinutes (nx := 30) (c := 1) (w := 3) (lo' := [(1, .int 3), (0, .ref 69)]) rfl rfl (by decide) (by decide) rfl rfl rfl ?_
  refine ev_jmp f_X12_tellsMinutes (nx := 2) rfl rfl rfl ?_
  refine ev_loc f_X12_tellsMinutes (nx := 3) rfl rfl rfl rfl ?_
  refine ev_bp f_X12_tellsMinutes (nx := 5) (v := 6) rfl (by decide) rfl ?_
  refine ev_f f_X12_tellsMinutes (t1 := 33) (t2 := 8) rfl rfl rfl (by decide) ?_
  refine ev_loc f_X12_tellsMinutes (nx := 9) rfl rfl rfl rfl ?_
  refine ev_getR f_X12_tellsMinutes (nx := 12) rfl (hW.s rfl) rfl rfl (hW.r rfl) rfl rfl ?_
  refine ev_loc f_X12_tellsMinutes (nx := 13) rfl rfl rfl rfl ?_
  refine ev_loc f_X12_tellsMinutes (nx := 14) rfl rfl rfl rfl ?_
  refine ev_getR f_X12_tellsMinutes (nx := 17) rfl (hW.s rfl) rfl rfl (hW.r rfl) rfl rfl ?_
  refine ev_bp f_X12_tellsMinutes (nx := 19) (v := 52) rfl (by decide) rfl ?_
  refine ev_ic f_X12_tellsMinutes (nx := 20) (v := 5) rfl (by decide) rfl ?_
  refine ev_loc f_X12_tellsMinutes (nx := 21) rfl rfl rfl rfl ?_
  refine ev_aluvI f_X12_tellsMinutes (nx := 22) (w := 15) rfl rfl rfl (by decide) rfl ?_
  refine ev_aluvI f_X12_tellsMinutes (nx := 23) (w := 67) rfl rfl rfl (by decide) rfl ?_
  refine ev_ic f_X12_tellsMinutes (nx := 24) (v := 1) rfl (by decide) rfl ?_
  refine ev_aluvI f_X12_tellsMinutes (nx := 25) (w := 68) rfl rfl rfl (by decide) rfl ?_
  refine ev_ialdv f_X12_tellsMinutes (nx := 26) (j := 68) (w := 0) rfl (hW.s rfl) (by decide) (by decide) (by decide) (wi_70_68 (gi := gi) hR) rfl ?_
  refine ev_iastv f_X12_tellsMinutes (nx := 27) (j := 3) rfl (hW.s rfl) (by decide) (by decide) (by decide) rfl ?_
  refine ev_incv f_X12_tellsMinutes (nx := 30) (c := 1) (w := 4) (lo' := [(1, .int 4), (0, .ref 69)]) rfl rfl (by decide) (by decide) rfl rfl rfl ?_
  refine ev_jmp f_X12_tellsMinutes (nx := 2) rfl rfl rfl ?_
  refine ev_loc f_X12_tellsMinutes (nx := 3) rfl rfl rfl rfl ?_
  refine ev_bp f_X12_tellsMinutes (nx := 5) (v := 6) rfl (by decide) rfl ?_
  refine ev_f f_X12_tellsMinutes (t1 := 33) (t2 := 8) rfl rfl rfl (by decide) ?_
  refine ev_loc f_X12_tellsMinutes (nx := 9) rfl rfl rfl rfl ?_
  refine ev_getR f_X12_tellsMinutes (nx := 12) rfl (hW.s rfl) rfl rfl (hW.r rfl) rfl rfl ?_
  refine ev_loc f_X12_tellsMinutes (nx := 13) rfl rfl rfl rfl ?_
  refine ev_loc f_X12_tellsMinutes (nx := 14) rfl rfl rfl rfl ?_
  refine ev_getR f_X12_tellsMinutes (nx := 17) rfl (hW.s rfl) rfl rfl (hW.r rfl) rfl rfl ?_
  refine ev_bp f_X12_tellsMinutes (nx := 19) (v := 52) rfl (by decide) rfl ?_
  refine ev_ic f_X12_tellsMinutes (nx := 20) (v := 5) rfl (by decide) rfl ?_
  refine ev_loc f_X12_tellsMinutes (nx := 21) rfl rfl rfl rfl ?_
  refine ev_aluvI f_X12_tellsMinutes (nx := 22) (w := 20) rfl rfl rfl (by decide) rfl ?_
  refine ev_aluvI f_X12_tellsMinutes (nx := 23) (w := 72) rfl rfl rfl (by decide) rfl ?_
  refine ev_ic f_X12_tellsMinutes (nx := 24) (v := 1) rfl (by decide) rfl ?_
  refine ev_aluvI f_X12_tellsMinutes (nx := 25) (w := 73) rfl rfl rfl (by decide) rfl ?_
  refine ev_ialdv f_X12_tellsMinutes (nx := 26) (j := 73) (w := 0) rfl (hW.s rfl) (by decide) (by decide) (by decide) (wi_70_73 (gi := gi) hR) rfl ?_
  refine ev_iastv f_X12_tellsMinutes (nx := 27) (j := 4) rfl (hW.s rfl) (by decide) (by decide) (by decide) rfl ?_
  refine ev_incv f_X12_tellsMinutes (nx := 30) (c := 1) (w := 5) (lo' := [(1, .int 5), (0, .ref 69)]) rfl rfl (by decide) (by decide) rfl rfl rfl ?_
  refine ev_jmp f_X12_tellsMinutes (nx := 2) rfl rfl rfl ?_
  refine ev_loc f_X12_tellsMinutes (nx := 3) rfl rfl rfl rfl ?_
  refine ev_bp f_X12_tellsMinutes (nx := 5) (v := 6) rfl (by decide) rfl ?_
  refine ev_f f_X12_tellsMinutes (t1 := 33) (t2 := 8) rfl rfl rfl (by decide) ?_
  refine ev_loc f_X12_tellsMinutes (nx := 9) rfl rfl rfl rfl ?_
  refine ev_getR f_X12_tellsMinutes (nx := 12) rfl (hW.s rfl) rfl rfl (hW.r rfl) rfl rfl ?_
  refine ev_loc f_X12_tellsMinutes (nx := 13) rfl rfl rfl rfl ?_
  refine ev_loc f_X12_tellsMinutes (nx := 14) rfl rfl rfl rfl ?_
  refine ev_getR f_X12_tellsMinutes (nx := 17) rfl (hW.s rfl) rfl rfl (hW.r rfl) rfl rfl ?_
  refine ev_bp f_X12_tellsMinutes (nx := 19) (v := 52) rfl (by decide) rfl ?_
  refine ev_ic f_X12_tellsMinutes (nx := 20) (v := 5) rfl (by decide) rfl ?_
  refine ev_loc f_X12_tellsMinutes (nx := 21) rfl rfl rfl rfl ?_
  refine ev_aluvI f_X12_tellsMinutes (nx := 22) (w := 25) rfl rfl rfl (by decide) rfl ?_
  refine ev_aluvI f_X12_tellsMinutes (nx := 23) (w := 77) rfl rfl rfl (by decide) rfl ?_
  refine ev_ic f_X12_tellsMinutes (nx := 24) (v := 1) rfl (by decide) rfl ?_
  refine ev_aluvI f_X12_tellsMinutes (nx := 25) (w := 78) rfl rfl rfl (by decide) rfl ?_
  refine ev_ialdv f_X12_tellsMinutes (nx := 26) (j := 78) (w := 0) rfl (hW.s rfl) (by decide) (by decide) (by decide) (wi_70_78 (gi := gi) hR) rfl ?_
  refine ev_iastv f_X12_tellsMinutes (nx := 27) (j := 5) rfl (hW.s rfl) (by decide) (by decide) (by decide) rfl ?_
  refine ev_incv f_X12_tellsMinutes (nx := 30) (c := 1) (w := 6) (lo' := [(1, .int 6), (0, .ref 69)]) rfl rfl (by decide) (by decide) rfl rfl rfl ?_
  refine ev_jmp f_X12_tellsMinutes (nx := 2) rfl rfl rfl ?_
  refine ev_loc f_X12_tellsMinutes (nx := 3) rfl rfl rfl rfl ?_
  refine ev_bp f_X12_tellsMinutes (nx := 5) (v := 6) rfl (by decide) rfl ?_
  refine ev_t f_X12_tellsMinutes (t1 := 33) (t2 := 8) rfl rfl rfl (by decide) ?_
  refine ev_ic f_X12_tellsMinutes (nx := 34) (v := 0) rfl (by decide) rfl ?_
  refine ev_loc f_X12_tellsMinutes (nx := 35) (lo' := [(1, .int 0), (0, .ref 69)]) rfl rfl rfl rfl ?_
  refine ev_loc f_X12_tellsMinutes (nx := 36) rfl rfl rfl rfl ?_
  refine ev_bp f_X12_tellsMinutes (nx := 38) (v := 6) rfl (by decide) rfl ?_
  refine ev_f f_X12_tellsMinutes (t1 := 67) (t2 := 41) rfl rfl rfl (by decide) ?_
  refine ev_loc f_X12_tellsMinutes (nx := 42) rfl rfl rfl rfl ?_
  refine ev_getR f_X12_tellsMinutes (nx := 45) rfl (hW.s rfl) rfl rfl (hW.r rfl) rfl rfl ?_
  refine ev_bp f_X12_tellsMinutes (nx := 47) (v := 6) rfl (by decide) rfl ?_
  refine ev_loc f_X12_tellsMinutes (nx := 48) rfl rfl rfl rfl ?_
  refine ev_aluvI f_X12_tellsMinutes (nx := 49) (w := 6) rfl rfl rfl (by decide) rfl ?_
  refine ev_loc f_X12_tellsMinutes (nx := 50) rfl rfl rfl rfl ?_
  refine ev_getR f_X12_tellsMinutes (nx := 53) rfl (hW.s rfl) rfl rfl (hW.r rfl) rfl rfl ?_
  refine ev_bp f_X12_tellsMinutes (nx := 55) (v := 82) rfl (by decide) rfl ?_
  refine ev_ic f_X12_tellsMinutes (nx := 56) (v := 3) rfl (by decide) rfl ?_
  refine ev_loc f_X12_tellsMinutes (nx := 57) rfl rfl rfl rfl ?_
  refine ev_aluvI f_X12_tellsMinutes (nx := 58) (w := 0) rfl rfl rfl (by decide) rfl ?_
  refine ev_aluvI f_X12_tellsMinutes (nx := 59) (w := 82) rfl rfl rfl (by decide) rfl ?_
  refine ev_ialdv f_X12_tellsMinutes (nx := 60) (j := 82) (w := 0) rfl (hW.s rfl) (by decide) (by decide) (by decide) (wi_70_82 (gi := gi) hR) rfl ?_
  refine ev_iastv f_X12_tellsMinutes (nx := 61) (j := 6) rfl (hW.s rfl) (by decide) (by decide) (by decide) rfl ?_
  refine ev_incv f_X12_tellsMinutes (nx := 64) (c := 1) (w := 1) (lo' := [(1, .int 1), (0, .ref 69)]) rfl rfl (by decide) (by decide) rfl rfl rfl ?_
  refine ev_jmp f_X12_tellsMinutes (nx := 35) rfl rfl rfl ?_
  refine ev_loc f_X12_tellsMinutes (nx := 36) rfl rfl rfl rfl ?_
  refine ev_bp f_X12_tellsMinutes (nx := 38) (v := 6) rfl (by decide) rfl ?_
  refine ev_f f_X12_tellsMinutes (t1 := 67) (t2 := 41) rfl rfl rfl (by decide) ?_
  refine ev_loc f_X12_tellsMinutes (nx := 42) rfl rfl rfl rfl ?_
  refine ev_getR f_X12_tellsMinutes (nx := 45) rfl (hW.s rfl) rfl rfl (hW.r rfl) rfl rfl ?_
  refine ev_bp f_X12_tellsMinutes (nx := 47) (v := 6) rfl (by decide) rfl ?_
  refine ev_loc f_X12_tellsMinutes (nx := 48) rfl rfl rfl rfl ?_
  refine ev_aluvI f_X12_tellsMinutes (nx := 49) (w := 7) rfl rfl rfl (by decide) rfl ?_
  refine ev_loc f_X12_tellsMinutes (nx := 50) rfl rfl rfl rfl ?_
  refine ev_getR f_X12_tellsMinutes (nx := 53) rfl (hW.s rfl) rfl rfl (hW.r rfl) rfl rfl ?_
  refine ev_bp f_X12_tellsMinutes (nx := 55) (v := 82) rfl (by decide) rfl ?_
  refine ev_ic f_X12_tellsMinutes (nx := 56) (v := 3) rfl (by decide) rfl ?_
  refine ev_loc f_X12_tellsMinutes (nx := 57) rfl rfl rfl rfl ?_
  refine ev_aluvI f_X12_tellsMinutes (nx := 58) (w := 3) rfl rfl rfl (by decide) rfl ?_
  refine ev_aluvI f_X12_tellsMinutes (nx := 59) (w := 85) rfl rfl rfl (by decide) rfl ?_
  refine ev_ialdv f_X12_tellsMinutes (nx := 60) (j := 85) (w := 0) rfl (hW.s rfl) (by decide) (by decide) (by decide) (wi_70_85 (gi := gi) hR) rfl ?_
  refine ev_iastv f_X12_tellsMinutes (nx := 61) (j := 7) rfl (hW.s rfl) (by decide) (by decide) (by decide) rfl ?_
  refine ev_incv f_X12_tellsMinutes (nx := 64) (c := 1) (w := 2) (lo' := [(1, .int 2), (0, .ref 69)]) rfl rfl (by decide) (by decide) rfl rfl rfl ?_
  refine ev_jmp f_X12_tellsMinutes (nx := 35) rfl rfl rfl ?_
  refine ev_loc f_X12_tellsMinutes (nx := 36) rfl rfl rfl rfl ?_
  refine ev_bp f_X12_tellsMinutes (nx := 38) (v := 6) rfl (by decide) rfl ?_
  refine ev_f f_X12_tellsMinutes (t1 := 67) (t2 := 41) rfl rfl rfl (by decide) ?_
  refine ev_loc f_X12_tellsMinutes (nx := 42) rfl rfl rfl rfl ?_
  refine ev_getR f_X12_tellsMinutes (nx := 45) rfl (hW.s rfl) rfl rfl (hW.r rfl) rfl rfl ?_
  refine ev_bp f_X12_tellsMinutes (nx := 47) (v := 6) rfl (by decide) rfl ?_
  refine ev_loc f_X12_tellsMinutes (nx := 48) rfl rfl rfl rfl ?_
  refine ev_aluvI f_X12_tellsMinutes (nx := 49) (w := 8) rfl rfl rfl (by decide) rfl ?_
  refine ev_loc f_X12_tellsMinutes (nx := 50) rfl rfl rfl rfl ?_
  refine ev_getR f_X12_tellsMinutes (nx := 53) rfl (hW.s rfl) rfl rfl (hW.r rfl) rfl rfl ?_
  refine ev_bp f_X12_tellsMinutes (nx := 55) (v := 82) rfl (by decide) rfl ?_
  refine ev_ic f_X12_tellsMinutes (nx := 56) (v := 3) rfl (by decide) rfl ?_
  refine ev_loc f_X12_tellsMinutes (nx := 57) rfl rfl rfl rfl ?_
  refine ev_aluvI f_X12_tellsMinutes (nx := 58) (w := 6) rfl rfl rfl (by decide) rfl ?_
  refine ev_aluvI f_X12_tellsMinutes (nx := 59) (w := 88) rfl rfl rfl (by decide) rfl ?_
  refine ev_ialdv f_X12_tellsMinutes (nx := 60) (j := 88) (w := 0) rfl (hW.s rfl) (by decide) (by decide) (by decide) (wi_70_88 (gi := gi) hR) rfl ?_
  refine ev_iastv f_X12_tellsMinutes (nx := 61) (j := 8) rfl (hW.s rfl) (by decide) (by decide) (by decide) rfl ?_
  refine ev_incv f_X12_tellsMinutes (nx := 64) (c := 1) (w := 3) (lo' := [(1, .int 3), (0, .ref 69)]) rfl rfl (by decide) (by decide) rfl rfl rfl ?_
  refine ev_jmp f_X12_tellsMinutes (nx := 35) rfl rfl rfl ?_
  refine ev_loc f_X12_tellsMinutes (nx := 36) rfl rfl rfl rfl ?_
  refine ev_bp f_X12_tellsMinutes (nx := 38) (v := 6) rfl (by decide) rfl ?_
  refine ev_f f_X12_tellsMinutes (t1 := 67) (t2 := 41) rfl rfl rfl (by decide) ?_
  refine ev_loc f_X12_tellsMinutes (nx := 42) rfl rfl rfl rfl ?_
  refine ev_getR f_X12_tellsMinutes (nx := 45) rfl (hW.s rfl) rfl rfl (hW.r rfl) rfl rfl ?_
  refine ev_bp f_X12_tellsMinutes (nx := 47) (v := 6) rfl (by decide) rfl ?_
  refine ev_loc f_X12_tellsMinutes (nx := 48) rfl rfl rfl rfl ?_
  refine ev_aluvI f_X12_tellsMinutes (nx := 49) (w := 9) rfl rfl rfl (by decide) rfl ?_
  refine ev_loc f_X12_tellsMinutes (nx := 50) rfl rfl rfl rfl ?_
  refine ev_getR f_X12_tellsMinutes (nx := 53) rfl (hW.s rfl) rfl rfl (hW.r rfl) rfl rfl ?_
  refine ev_bp f_X12_tellsMinutes (nx := 55) (v := 82) rfl (by decide) rfl ?_
  refine ev_ic f_X12_tellsMinutes (nx := 56) (v := 3) rfl (by decide) rfl ?_
  refine ev_loc f_X12_tellsMinutes (nx := 57) rfl rfl rfl rfl ?_
  refine ev_aluvI f_X12_tellsMinutes (nx := 58) (w := 9) rfl rfl rfl (by decide) rfl ?_
  refine ev_aluvI f_X12_tellsMinutes (nx := 59) (w := 91) rfl rfl rfl (by decide) rfl ?_
  refine ev_ialdv f_X12_tellsMinutes (nx := 60) (j := 91) (w := 0) rfl (hW.s rfl) (by decide) (by decide) (by decide) (wi_70_91 (gi := gi) hR) rfl ?_
  refine ev_iastv f_X12_tellsMinutes (nx := 61) (j := 9) rfl (hW.s rfl) (by decide) (by decide) (by decide) rfl ?_
  refine ev_incv f_X12_tellsMinutes (nx := 64) (c := 1) (w := 4) (lo' := [(1, .int 4), (0, .ref 69)]) rfl rfl (by decide) (by decide) rfl rfl rfl ?_
  refine ev_jmp f_X12_tellsMinutes (nx := 35) rfl rfl rfl ?_
  refine ev_loc f_X12_tellsMinutes (nx := 36) rfl rfl rfl rfl ?_
  refine ev_bp f_X12_tellsMinutes (nx := 38) (v := 6) rfl (by decide) rfl ?_
  refine ev_f f_X12_tellsMinutes (t1 := 67) (t2 := 41) rfl rfl rfl (by decide) ?_
  refine ev_loc f_X12_tellsMinutes (nx := 42) rfl rfl rfl rfl ?_
  refine ev_getR f_X12_tellsMinutes (nx := 45) rfl (hW.s rfl) rfl rfl (hW.r rfl) rfl rfl ?_
  refine ev_bp f_X12_tellsMinutes (nx := 47) (v := 6) rfl (by decide) rfl ?_
  refine ev_loc f_X12_tellsMinutes (nx := 48) rfl rfl rfl rfl ?_
  refine ev_aluvI f_X12_tellsMinutes (nx := 49) (w := 10) rfl rfl rfl (by decide) rfl ?_
  refine ev_loc f_X12_tellsMinutes (nx := 50) rfl rfl rfl rfl ?_
  refine ev_getR f_X12_tellsMinutes (nx := 53) rfl (hW.s rfl) rfl rfl (hW.r rfl) rfl rfl ?_
  refine ev_bp f_X12_tellsMinutes (nx := 55) (v := 82) rfl (by decide) rfl ?_
  refine ev_ic f_X12_tellsMinutes (nx := 56) (v := 3) rfl (by decide) rfl ?_
  refine ev_loc f_X12_tellsMinutes (nx := 57) rfl rfl rfl rfl ?_
  refine ev_aluvI f_X12_tellsMinutes (nx := 58) (w := 12) rfl rfl rfl (by decide) rfl ?_
  refine ev_aluvI f_X12_tellsMinutes (nx := 59) (w := 94) rfl rfl rfl (by decide) rfl ?_
  refine ev_ialdv f_X12_tellsMinutes (nx := 60) (j := 94) (w := 0) rfl (hW.s rfl) (by decide) (by decide) (by decide) (wi_70_94 (gi := gi) hR) rfl ?_
  refine ev_iastv f_X12_tellsMinutes (nx := 61) (j := 10) rfl (hW.s rfl) (by decide) (by decide) (by decide) rfl ?_
  refine ev_incv f_X12_tellsMinutes (nx := 64) (c := 1) (w := 5) (lo' := [(1, .int 5), (0, .ref 69)]) rfl rfl (by decide) (by decide) rfl rfl rfl ?_
  refine ev_jmp f_X12_tellsMinutes (nx := 35) rfl rfl rfl ?_
  refine ev_loc f_X12_tellsMinutes (nx := 36) rfl rfl rfl rfl ?_
  refine ev_bp f_X12_tellsMinutes (nx := 38) (v := 6) rfl (by decide) rfl ?_
  refine ev_f f_X12_tellsMinutes (t1 := 67) (t2 := 41) rfl rfl rfl (by decide) ?_
  refine ev_loc f_X12_tellsMinutes (nx := 42) rfl rfl rfl rfl ?_
  refine ev_getR f_X12_tellsMinutes (nx := 45) rfl (hW.s rfl) rfl rfl (hW.r rfl) rfl rfl ?_
  refine ev_bp f_X12_tellsMinutes (nx := 47) (v := 6) rfl (by decide) rfl ?_
  refine ev_loc f_X12_tellsMinutes (nx := 48) rfl rfl rfl rfl ?_
  refine ev_aluvI f_X12_tellsMinutes (nx := 49) (w := 11) rfl rfl rfl (by decide) rfl ?_
  refine ev_loc f_X12_tellsMinutes (nx := 50) rfl rfl rfl rfl ?_
  refine ev_getR f_X12_tellsMinutes (nx := 53) rfl (hW.s rfl) rfl rfl (hW.r rfl) rfl rfl ?_
  refine ev_bp f_X12_tellsMinutes (nx := 55) (v := 82) rfl (by decide) rfl ?_
  refine ev_ic f_X12_tellsMinutes (nx := 56) (v := 3) rfl (by decide) rfl ?_
  refine ev_loc f_X12_tellsMinutes (nx := 57) rfl rfl rfl rfl ?_
  refine ev_aluvI f_X12_tellsMinutes (nx := 58) (w := 15) rfl rfl rfl (by decide) rfl ?_
  refine ev_aluvI f_X12_tellsMinutes (nx := 59) (w := 97) rfl rfl rfl (by decide) rfl ?_
  refine ev_ialdv f_X12_tellsMinutes (nx := 60) (j := 97) (w := 0) rfl (hW.s rfl) (by decide) (by decide) (by decide) (wi_70_97 (gi := gi) hR) rfl ?_
  refine ev_iastv f_X12_tellsMinutes (nx := 61) (j := 11) rfl (hW.s rfl) (by decide) (by decide) (by decide) rfl ?_
  refine ev_incv f_X12_tellsMinutes (nx := 64) (c := 1) (w := 6) (lo' := [(1, .int 6), (0, .ref 69)]) rfl rfl (by decide) (by decide) rfl rfl rfl ?_
  refine ev_jmp f_X12_tellsMinutes (nx := 35) rfl rfl rfl ?_
  refine ev_loc f_X12_tellsMinutes (nx := 36) rfl rfl rfl rfl ?_
  refine ev_bp f_X12_tellsMinutes (nx := 38) (v := 6) rfl (by decide) rfl ?_
  refine ev_t f_X12_tellsMinutes (t1 := 67) (t2 := 41) rfl rfl rfl (by decide) ?_
  refine ev_retK0 f_X12_tellsMinutes rfl rfl rfl ?_
  refine ev_loc f_X12_leastBy (nx := 5) rfl rfl rfl rfl ?_
  refine ev_loc f_X12_leastBy (nx := 6) rfl rfl rfl rfl ?_
  refine ev_inV2 f_X12_leastBy (nx := 9) (lo2 := [(0, .ref 69), (1, .int 0)]) rfl rfl rfl rfl f_X12_orders (hW.s rfl) rfl rfl rfl rfl rfl ?_
  refine ev_loc f_X12_orders (nx := 1) rfl rfl rfl rfl ?_
  refine ev_ic f_X12_orders (nx := 2) (v := 0) rfl (by decide) rfl ?_
  refine ev_putI f_X12_orders (nx := 5) rfl (hW.s rfl) rfl rfl rfl ?_
  refine ev_loc f_X12_orders (nx := 6) rfl rfl rfl rfl ?_
  refine ev_ic f_X12_orders (nx := 7) (v := 0) rfl (by decide) rfl ?_
  refine ev_putI f_X12_orders (nx := 10) rfl (hW.s rfl) rfl rfl rfl ?_
  refine ev_ic f_X12_orders (nx := 11) (v := 0) rfl (by decide) rfl ?_
  refine ev_loc f_X12_orders (nx := 12) (lo' := [(2, .int 0), (0, .ref 69), (1, .int 0)]) rfl rfl rfl rfl ?_
  refine ev_loc f_X12_orders (nx := 13) rfl rfl rfl rfl ?_
  refine ev_loc f_X12_orders (nx := 14) rfl rfl rfl rfl ?_
  refine ev_getR f_X12_orders (nx := 17) rfl (hW.s rfl) rfl rfl (hW.r rfl) rfl rfl ?_
  refine ev_ic f_X12_orders (nx := 18) (v := 1) rfl (by decide) rfl ?_
  refine ev_ialdv f_X12_orders (nx := 19) (j := 1) (w := 0) rfl (hW.s rfl) (by decide) (by decide) (by decide) (wi_70_1 (gi := gi) hR) rfl ?_
  refine ev_t f_X12_orders (t1 := 108) (t2 := 22) rfl rfl rfl (by decide) ?_
  refine ev_ic f_X12_orders (nx := 109) (v := 0) rfl (by decide) rfl ?_
  refine ev_loc f_X12_orders (nx := 110) (lo' := [(2, .int 0), (0, .ref 69), (1, .int 0)]) rfl rfl rfl rfl ?_
  refine ev_loc f_X12_orders (nx := 111) rfl rfl rfl rfl ?_
  refine ev_loc f_X12_orders (nx := 112) rfl rfl rfl rfl ?_
  refine ev_getR f_X12_orders (nx := 115) rfl (hW.s rfl) rfl rfl (hW.r rfl) rfl rfl ?_
  refine ev_ic f_X12_orders (nx := 116) (v := 2) rfl (by decide) rfl ?_
  refine ev_ialdv f_X12_orders (nx := 117) (j := 2) (w := 0) rfl (hW.s rfl) (by decide) (by decide) (by decide) (wi_70_2 (gi := gi) hR) rfl ?_
  refine ev_t f_X12_orders (t1 := 211) (t2 := 120) rfl rfl rfl (by decide) ?_
  refine ev_retK0 f_X12_orders rfl rfl rfl ?_
  refine ev_loc f_X12_leastBy (nx := 10) rfl rfl rfl rfl ?_
  refine ev_loc f_X12_leastBy (nx := 11) rfl rfl rfl rfl ?_
  refine ev_putI f_X12_leastBy (nx := 14) rfl (hW.s rfl) rfl rfl rfl ?_
  refine ev_loc f_X12_leastBy (nx := 15) rfl rfl rfl rfl ?_
  refine ev_cM f_X12_leastBy (nx := 18) (st2 := [.int 0]) rfl rfl rfl rfl rfl rfl (l_rk hW rfl rfl (wi_70_5 (gi := gi) hR) (wz_92 (gi := gi) hR)) rfl rfl ?_
  refine ev_retK1 f_X12_leastBy rfl rfl rfl ?_
  refine ev_ic f_X12_plans (nx := 12) (v := -1) rfl (by decide) rfl ?_
  refine ev_f f_X12_plans (t1 := 15) (t2 := 17) rfl rfl rfl (by decide) ?_
  refine ev_loc f_X12_plans (nx := 18) rfl rfl rfl rfl ?_
  refine ev_ic f_X12_plans (nx := 19) (v := 0) rfl (by decide) rfl ?_
  refine ev_putI f_X12_plans (nx := 22) rfl (hW.s rfl) rfl rfl rfl ?_
  refine ev_loc f_X12_plans (nx := 23) rfl rfl rfl rfl ?_
  refine ev_ic f_X12_plans (nx := 24) (v := 0) rfl (by decide) rfl ?_
  refine ev_putI f_X12_plans (nx := 27) rfl (hW.s rfl) rfl rfl rfl ?_
  refine ev_ic f_X12_plans (nx := 28) (v := 0) rfl (by decide) rfl ?_
  refine ev_loc f_X12_plans (nx := 29) (lo' := [(1, .int 0), (0, .ref 69)]) rfl rfl rfl rfl ?_
  refine ev_ic f_X12_plans (nx := 30) (v := 0) rfl (by decide) rfl ?_
  refine ev_loc f_X12_plans (nx := 31) (lo' := [(2, .int 0), (1, .int 0), (0, .ref 69)]) rfl rfl rfl rfl ?_
  refine ev_ic f_X12_plans (nx := 32) (v := 0) rfl (by decide) rfl ?_
  refine ev_loc f_X12_plans (nx := 33) (lo' := [(3, .int 0), (2, .int 0), (1, .int 0), (0, .ref 69)]) rfl rfl rfl rfl ?_
  refine ev_ic f_X12_plans (nx := 34) (v := 0) rfl (by decide) rfl ?_
  refine ev_loc f_X12_plans (nx := 36) (lo' := [(4, .int 0), (3, .int 0), (2, .int 0), (1, .int 0), (0, .ref 69)]) rfl rfl rfl rfl ?_
  refine ev_loc f_X12_plans (nx := 37) rfl rfl rfl rfl ?_
  refine ev_loc f_X12_plans (nx := 38) rfl rfl rfl rfl ?_
  refine ev_gvI f_X12_plans (nx := 41) (w := 0) rfl (hW.s rfl) rfl rfl rfl rfl ?_
  refine ev_f f_X12_plans (t1 := 53) (t2 := 44) rfl rfl rfl (by decide) ?_
  refine ev_loc f_X12_plans (nx := 46) rfl rfl rfl rfl ?_
  refine ev_loc f_X12_plans (nx := 47) rfl rfl rfl rfl ?_
  refine ev_gvI f_X12_plans (nx := 50) (w := 0) rfl (hW.s rfl) rfl rfl rfl rfl ?_
  refine ev_t f_X12_plans (t1 := 225) (t2 := 53) rfl rfl rfl (by decide) ?_
  refine ev_loc f_X12_plans (nx := 226) rfl rfl rfl rfl ?_
  refine ev_loc f_X12_plans (nx := 227) rfl rfl rfl rfl ?_
  refine ev_putI f_X12_plans (nx := 230) rfl (hW.s rfl) rfl rfl rfl ?_
  refine ev_ic f_X12_plans (nx := 231) (v := 1) rfl (by decide) rfl ?_
  refine ev_retK1 f_X12_plans rfl rfl rfl ?_
  refine ev_f f_X12_plan (t1 := 7) (t2 := 14) rfl rfl rfl (by decide) ?_
  refine ev_ic f_X12_plan (nx := 15) (v := 0) rfl (by decide) rfl ?_
  refine ev_loc f_X12_plan (nx := 16) (lo' := [(1, .int 0), (0, .ref 69)]) rfl rfl rfl rfl ?_
  refine ev_loc f_X12_plan (nx := 17) rfl rfl rfl rfl ?_
  refine ev_loc f_X12_plan (nx := 18) rfl rfl rfl rfl ?_
  refine ev_gvI f_X12_plan (nx := 21) (w := 0) rfl (hW.s rfl) rfl rfl rfl rfl ?_
  refine ev_t f_X12_plan (t1 := 66) (t2 := 24) rfl rfl rfl (by decide) ?_
  refine ev_loc f_X12_plan (nx := 67) rfl rfl rfl rfl ?_
  refine ev_loc f_X12_plan (nx := 68) rfl rfl rfl rfl ?_
  refine ev_gvI f_X12_plan (nx := 71) (w := 0) rfl (hW.s rfl) rfl rfl rfl rfl ?_
  refine ev_putI f_X12_plan (nx := 74) rfl (hW.s rfl) rfl rfl rfl ?_
  refine ev_loc f_X12_plan (nx := 75) rfl rfl rfl rfl ?_
  refine ev_loc f_X12_plan (nx := 76) rfl rfl rfl rfl ?_
  refine ev_gvI f_X12_plan (nx := 79) (w := 0) rfl (hW.s rfl) rfl rfl rfl rfl ?_
  refine ev_inV2 f_X12_plan (nx := 82) (lo2 := [(0, .ref 69), (1, .int 0)]) rfl rfl rfl rfl f_X12_gives (hW.s rfl) rfl rfl rfl rfl rfl ?_
  refine ev_loc f_X12_gives (nx := 1) rfl rfl rfl rfl ?_
  refine ev_ic f_X12_gives (nx := 2) (v := 0) rfl (by decide) rfl ?_
  refine ev_putI f_X12_gives (nx := 5) rfl (hW.s rfl) rfl rfl rfl ?_
  refine ev_loc f_X12_gives (nx := 6) rfl rfl rfl rfl ?_
  refine ev_retK1 f_X12_gives rfl rfl rfl ?_
  refine ev_retK1 f_X12_plan rfl rfl rfl ?_
  refine ev_t f_L_law (t1 := 1628) (t2 := 1278) rfl rfl rfl (by decide) ?_
  refine ev_incv f_L_law (nx := 1631) (c := 6) (w := 6) (lo' := [(3, .int 6), (2, .ref 69), (1, .ref 0), (0, .retAddr 30)]) rfl rfl (by decide) (by decide) rfl rfl rfl ?_
  refine ev_jmp f_L_law (nx := 18) rfl rfl rfl ?_
  refine ev_loc f_L_law (nx := 19) rfl rfl rfl rfl ?_
  refine ev_loc f_L_law (nx := 20) rfl rfl rfl rfl ?_
  refine ev_alenX f_L_law (nx := 21) rfl hX rfl ?_
  refine ev_bp f_L_law (nx := 23) (v := 6) rfl (by decide) rfl ?_
  refine ev_aluvI f_L_law (nx := 24) (w := 0) rfl rfl rfl (by decide) rfl ?_
  refine ev_t f_L_law (t1 := 1634) (t2 := 27) rfl rfl rfl (by decide) ?_
  refine ev_ic f_L_law (nx := 1635) (v := 1) rfl (by decide) rfl ?_
  refine ev_ret f_L_law rfl rfl rfl ?_
  exact ⟨rfl, hz⟩
set_option maxRecDepth 20000 in
theorem pc_42 (hR : x_R W1 (sh, gi, gl, gr)) (hX : X.1 = 6) : x_Ev X 1000 n_L_law 1477 [(3, .int 0), (2, .ref 69), (1, .ref 0), (0, .retAddr 30)] [] (sh, gi, gl, gr) x_P1 := by
  have hW := W1_WF hR
  have hz := W1_hz hR
  refine ev_loc f_L_law (nx := 1478) rfl rfl rfl rfl ?_
  refine ev_inV1 f_L_law (nx := 1481) (lo2 := [(0, .ref 0)]) rfl rfl rfl rfl f_X11_busiest (hW.s rfl) rfl rfl rfl rfl rfl ?_
  refine ev_loc f_X11_busiest (nx := 1) rfl rfl rfl rfl ?_
  refine ev_getR f_X11_busiest (nx := 4) rfl (hW.s rfl) rfl rfl (hW.r rfl) rfl rfl ?_
  refine ev_loc f_X11_busiest (nx := 5) rfl rfl rfl rfl ?_
  refine ev_getR f_X11_busiest (nx := 8) rfl (hW.s rfl) rfl rfl (wr_0_6 (gr := gr) hR) rfl rfl ?_
  refine ev_inV2 f_X11_busiest (nx := 11) (lo2 := [(0, .ref 28), (1, .ref 3)]) rfl rfl rfl rfl f_X1_takeAll (hW.s rfl) rfl rfl rfl rfl rfl ?_
  refine ev_loc f_X1_takeAll (nx := 1) rfl rfl rfl rfl ?_
  refine ev_loc f_X1_takeAll (nx := 2) rfl rfl rfl rfl ?_
  refine ev_putR f_X1_takeAll (nx := 5) rfl (hW.s rfl) rfl rfl rfl rfl ?_
  replace hW := x_WF_up hW (k := 28) (j := 0) (v := .ref 3) rfl
  refine ev_loc f_X1_takeAll (nx := 6) rfl rfl rfl rfl ?_
  refine ev_loc f_X1_takeAll (nx := 7) rfl rfl rfl rfl ?_
  refine ev_gvI f_X1_takeAll (nx := 10) (w := 5) rfl (hW.s rfl) rfl rfl (wi_3_3 (gi := gi) hR) rfl ?_
  refine ev_putI f_X1_takeAll (nx := 13) rfl (hW.s rfl) rfl rfl rfl ?_
  refine ev_loc f_X1_takeAll (nx := 14) rfl rfl rfl rfl ?_
  refine ev_loc f_X1_takeAll (nx := 15) rfl rfl rfl rfl ?_
  refine ev_ic f_X1_takeAll (nx := 16) (v := 0) rfl (by decide) rfl ?_
  refine ev_ic f_X1_takeAll (nx := 17) (v := -1) rfl (by decide) rfl ?_
  refine ev_ic f_X1_takeAll (nx := 18) (v := 0) rfl (by decide) rfl ?_
  refine ev_inV5 f_X1_takeAll (nx := 21) (lo2 := [(0, .ref 28), (1, .ref 3), (2, .int 0), (3, .int (-1)), (4, .int 0)]) rfl rfl rfl rfl f_X1_takeShips (hW.s rfl) rfl rfl rfl rfl rfl ?_
  refine ev_loc f_X1_takeShips (nx := 1) rfl rfl rfl rfl ?_
  refine ev_getR f_X1_takeShips (nx := 4) rfl (hW.s rfl) rfl rfl (hW.r rfl) rfl rfl ?_
  refine ev_inV1 f_X1_takeShips (nx := 7) (lo2 := [(0, .ref 29)]) rfl rfl rfl rfl f_X4_clear (hW.s rfl) rfl rfl rfl rfl rfl ?_
  refine ev_loc f_X4_clear (nx := 1) rfl rfl rfl rfl ?_
  refine ev_ic f_X4_clear (nx := 2) (v := 0) rfl (by decide) rfl ?_
  refine ev_putI f_X4_clear (nx := 5) rfl (hW.s rfl) rfl rfl rfl ?_
  refine ev_retK0 f_X4_clear rfl rfl rfl ?_
  refine ev_ic f_X1_takeShips (nx := 8) (v := 0) rfl (by decide) rfl ?_
  refine ev_loc f_X1_takeShips (nx := 10) (lo' := [(5, .int 0), (0, .ref 28), (1, .ref 3), (2, .int 0), (3, .int (-1)), (4, .int 0)]) rfl rfl rfl rfl ?_
  refine ev_loc f_X1_takeShips (nx := 12) rfl rfl rfl rfl ?_
  refine ev_loc f_X1_takeShips (nx := 13) rfl rfl rfl rfl ?_
  refine ev_getR f_X1_takeShips (nx := 16) rfl (hW.s rfl) rfl rfl (hW.r rfl) rfl rfl ?_
  refine ev_gvI f_X1_takeShips (nx := 19) (w := 0) rfl (hW.s rfl) rfl rfl (wi_6_0 (gi := gi) hR) rfl ?_
  refine ev_t f_X1_takeShips (t1 := 77) (t2 := 22) rfl rfl rfl (by decide) ?_
  refine ev_retK0 f_X1_takeShips rfl rfl rfl ?_
  refine ev_loc f_X1_takeAll (nx := 22) rfl rfl rfl rfl ?_
  refine ev_loc f_X1_takeAll (nx := 23) rfl rfl rfl rfl ?_
  refine ev_ic f_X1_takeAll (nx := 24) (v := -1) rfl (by decide) rfl ?_
  refine ev_inV3 f_X1_takeAll (nx := 27) (lo2 := [(0, .ref 28), (1, .ref 3), (2, .int (-1))]) rfl rfl rfl rfl f_X1_takeCarts (hW.s rfl) rfl rfl rfl rfl rfl ?_
  refine ev_loc f_X1_takeCarts (nx := 1) rfl rfl rfl rfl ?_
  refine ev_getR f_X1_takeCarts (nx := 4) rfl (hW.s rfl) rfl rfl (hW.r rfl) rfl rfl ?_
  refine ev_inV1 f_X1_takeCarts (nx := 7) (lo2 := [(0, .ref 35)]) rfl rfl rfl rfl f_X4_clear (hW.s rfl) rfl rfl rfl rfl rfl ?_
  refine ev_loc f_X4_clear (nx := 1) rfl rfl rfl rfl ?_
  refine ev_ic f_X4_clear (nx := 2) (v := 0) rfl (by decide) rfl ?_
  refine ev_putI f_X4_clear (nx := 5) rfl (hW.s rfl) rfl rfl rfl ?_
  refine ev_retK0 f_X4_clear rfl rfl rfl ?_
  refine ev_ic f_X1_takeCarts (nx := 8) (v := 0) rfl (by decide) rfl ?_
  refine ev_loc f_X1_takeCarts (nx := 9) (lo' := [(3, .int 0), (0, .ref 28), (1, .ref 3), (2, .int (-1))]) rfl rfl rfl rfl ?_
  refine ev_loc f_X1_takeCarts (nx := 10) rfl rfl rfl rfl ?_
  refine ev_loc f_X1_takeCarts (nx := 11) rfl rfl rfl rfl ?_
  refine ev_getR f_X1_takeCarts (nx := 14) rfl (hW.s rfl) rfl rfl (hW.r rfl) rfl rfl ?_
  refine ev_gvI f_X1_takeCarts (nx := 17) (w := 0) rfl (hW.s rfl) rfl rfl (wi_13_0 (gi := gi) hR) rfl ?_
  refine ev_t f_X1_takeCarts (t1 := 52) (t2 := 20) rfl rfl rfl (by decide) ?_
  refine ev_retK0 f_X1_takeCarts rfl rfl rfl ?_
  refine ev_retK0 f_X1_takeAll rfl rfl rfl ?_
  refine ev_loc f_X11_busiest (nx := 12) rfl rfl rfl rfl ?_
  refine ev_getR f_X11_busiest (nx := 15) rfl (hW.s rfl) rfl rfl (hW.r rfl) rfl rfl ?_
  refine ev_inV1 f_X11_busiest (nx := 18) (lo2 := [(0, .ref 28)]) rfl rfl rfl rfl f_X1_layPlan (hW.s rfl) rfl rfl rfl rfl rfl ?_
  refine ev_loc f_X1_layPlan (nx := 1) rfl rfl rfl rfl ?_
  refine ev_ic f_X1_layPlan (nx := 2) (v := 0) rfl (by decide) rfl ?_
  refine ev_putI f_X1_layPlan (nx := 5) rfl (hW.s rfl) rfl rfl rfl ?_
  refine ev_loc f_X1_layPlan (nx := 6) rfl rfl rfl rfl ?_
  refine ev_inV1 f_X1_layPlan (nx := 9) (lo2 := [(0, .ref 28)]) rfl rfl rfl rfl f_X1_leastWaits (hW.s rfl) rfl rfl rfl rfl rfl ?_
  refine ev_loc f_X1_leastWaits (nx := 1) rfl rfl rfl rfl ?_
  refine ev_ldI f_X1_leastWaits (nx := 3) (v := 1000000000) rfl (by decide) rfl ?_
  refine ev_putI f_X1_leastWaits (nx := 6) rfl (hW.s rfl) rfl rfl rfl ?_
  refine ev_loc f_X1_leastWaits (nx := 7) rfl rfl rfl rfl ?_
  refine ev_ic f_X1_leastWaits (nx := 8) (v := 0) rfl (by decide) rfl ?_
  refine ev_putI f_X1_leastWaits (nx := 11) rfl (hW.s rfl) rfl rfl rfl ?_
  refine ev_loc f_X1_leastWaits (nx := 12) rfl rfl rfl rfl ?_
  refine ev_ic f_X1_leastWaits (nx := 13) (v := 0) rfl (by decide) rfl ?_
  refine ev_ic f_X1_leastWaits (nx := 14) (v := 0) rfl (by decide) rfl ?_
  refine ev_ic f_X1_leastWaits (nx := 15) (v := 0) rfl (by decide) rfl ?_
  refine ev_ic f_X1_leastWaits (nx := 16) (v := 0) rfl (by decide) rfl ?_
  refine ev_ic f_X1_leastWaits (nx := 17) (v := 0) rfl (by decide) rfl ?_
  refine ev_inV6 f_X1_leastWaits (nx := 20) (lo2 := [(0, .ref 28), (1, .int 0), (2, .int 0), (3, .int 0), (4, .int 0), (5, .int 0)]) rfl rfl rfl rfl f_X1_search (hW.s rfl) rfl rfl rfl rfl rfl ?_
  refine ev_loc f_X1_search (nx := 2) rfl rfl rfl rfl ?_
  refine ev_loc f_X1_search (nx := 3) rfl rfl rfl rfl ?_
  refine ev_gvI f_X1_search (nx := 6) (w := 1000000000) rfl (hW.s rfl) rfl rfl rfl rfl ?_
  refine ev_f f_X1_search (t1 := 20) (t2 := 9) rfl rfl rfl (by decide) ?_
  refine ev_loc f_X1_search (nx := 10) rfl rfl rfl rfl ?_
  refine ev_gvI f_X1_search (nx := 13) (w := 1000000000) rfl (hW.s rfl) rfl rfl rfl rfl ?_
  refine ev_loc f_X1_search (nx := 14) rfl rfl rfl rfl ?_
  refine ev_gvI f_X1_search (nx := 17) (w := 0) rfl (hW.s rfl) rfl rfl rfl rfl ?_
  refine ev_t f_X1_search (t1 := 21) (t2 := 20) rfl rfl rfl (by decide) ?_
  refine ev_loc f_X1_search (nx := 22) rfl rfl rfl rfl ?_
  refine ev_loc f_X1_search (nx := 23) rfl rfl rfl rfl ?_
  refine ev_getR f_X1_search (nx := 26) rfl (hW.s rfl) rfl rfl (hW.r rfl) rfl rfl ?_
  refine ev_gvI f_X1_search (nx := 29) (w := 0) rfl (hW.s rfl) rfl rfl rfl rfl ?_
  refine ev_f f_X1_search (t1 := 51) (t2 := 32) rfl rfl rfl (by decide) ?_
  refine ev_loc f_X1_search (nx := 34) rfl rfl rfl rfl ?_
  refine ev_loc f_X1_search (nx := 35) rfl rfl rfl rfl ?_
  refine ev_getR f_X1_search (nx := 38) rfl (hW.s rfl) rfl rfl (hW.r rfl) rfl rfl ?_
  refine ev_gvI f_X1_search (nx := 41) (w := 0) rfl (hW.s rfl) rfl rfl rfl rfl ?_
  refine ev_f f_X1_search (t1 := 51) (t2 := 44) rfl rfl rfl (by decide) ?_
  refine ev_loc f_X1_search (nx := 45) rfl rfl rfl rfl ?_
  refine ev_loc f_X1_search (nx := 47) rfl rfl rfl rfl ?_
  refine ev_putI f_X1_search (nx := 50) rfl (hW.s rfl) rfl rfl rfl ?_
  refine ev_retK0 f_X1_search rfl rfl rfl ?_
  refine ev_loc f_X1_leastWaits (nx := 21) rfl rfl rfl rfl ?_
  refine ev_gvI f_X1_leastWaits (nx := 24) (w := 0) rfl (hW.s rfl) rfl rfl rfl rfl ?_
  refine ev_retK1 f_X1_leastWaits rfl rfl rfl ?_
  refine ev_loc f_X1_layPlan (nx := 10) (lo' := [(1, .int 0), (0, .ref 28)]) rfl rfl rfl rfl ?_
  refine ev_loc f_X1_layPlan (nx := 11) rfl rfl rfl rfl ?_
  refine ev_ldI f_X1_layPlan (nx := 13) (v := 1000000000) rfl (by decide) rfl ?_
  refine ev_t f_X1_layPlan (t1 := 18) (t2 := 16) rfl rfl rfl (by decide) ?_
  refine ev_ic f_X1_layPlan (nx := 19) (v := 0) rfl (by decide) rfl ?_
  refine ev_loc f_X1_layPlan (nx := 20) (lo' := [(2, .int 0), (1, .int 0), (0, .ref 28)]) rfl rfl rfl rfl ?_
  refine ev_ic f_X1_layPlan (nx := 21) (v := 0) rfl (by decide) rfl ?_
  refine ev_loc f_X1_layPlan (nx := 22) (lo' := [(3, .int 0), (2, .int 0), (1, .int 0), (0, .ref 28)]) rfl rfl rfl rfl ?_
  refine ev_ic f_X1_layPlan (nx := 23) (v := 0) rfl (by decide) rfl ?_
  refine ev_loc f_X1_layPlan (nx := 25) (lo' := [(4, .int 0), (3, .int 0), (2, .int 0), (1, .int 0), (0, .ref 28)]) rfl rfl rfl rfl ?_
  refine ev_ic f_X1_layPlan (nx := 26) (v := 0) rfl (by decide) rfl ?_
  refine ev_loc f_X1_layPlan (nx := 28) (lo' := [(5, .int 0), (4, .int 0), (3, .int 0), (2, .int 0), (1, .int 0), (0, .ref 28)]) rfl rfl rfl rfl ?_
  refine ev_ic f_X1_layPlan (nx := 29) (v := 0) rfl (by decide) rfl ?_
  refine ev_loc f_X1_layPlan (nx := 31) (lo' := [(6, .int 0), (5, .int 0), (4, .int 0), (3, .int 0), (2, .int 0), (1, .int 0), (0, .ref 28)]) rfl rfl rfl rfl ?_
  refine ev_loc f_X1_layPlan (nx := 33) rfl rfl rfl rfl ?_
  refine ev_sp f_X1_layPlan (nx := 36) (v := 240) rfl (by decide) rfl ?_
  refine ev_f f_X1_layPlan (t1 := 259) (t2 := 39) rfl rfl rfl (by decide) ?_
  refine ev_loc f_X1_layPlan (nx := 41) rfl rfl rfl rfl ?_
  refine ev_loc f_X1_layPlan (nx := 43) rfl rfl rfl rfl ?_
  refine ev_aluvI f_X1_layPlan (nx := 44) (w := 0) rfl rfl rfl (by decide) rfl ?_
  refine ev_loc f_X1_layPlan (nx := 45) rfl rfl rfl rfl ?_
  refine ev_getR f_X1_layPlan (nx := 48) rfl (hW.s rfl) rfl rfl (hW.r rfl) rfl rfl ?_
  refine ev_gvI f_X1_layPlan (nx := 51) (w := 0) rfl (hW.s rfl) rfl rfl rfl rfl ?_
  refine ev_loc f_X1_layPlan (nx := 52) rfl rfl rfl rfl ?_
  refine ev_getR f_X1_layPlan (nx := 55) rfl (hW.s rfl) rfl rfl (hW.r rfl) rfl rfl ?_
  refine ev_gvI f_X1_layPlan (nx := 58) (w := 0) rfl (hW.s rfl) rfl rfl rfl rfl ?_
  refine ev_aluvI f_X1_layPlan (nx := 59) (w := 0) rfl rfl rfl (by decide) rfl ?_
  refine ev_t f_X1_layPlan (t1 := 259) (t2 := 62) rfl rfl rfl (by decide) ?_
  refine ev_ic f_X1_layPlan (nx := 260) (v := 1) rfl (by decide) rfl ?_
  refine ev_retK1 f_X1_layPlan rfl rfl rfl ?_
  refine ev_f f_X11_busiest (t1 := 31) (t2 := 21) rfl rfl rfl (by decide) ?_
  refine ev_loc f_X11_busiest (nx := 22) rfl rfl rfl rfl ?_
  refine ev_getR f_X11_busiest (nx := 25) rfl (hW.s rfl) rfl rfl (hW.r rfl) rfl rfl ?_
  refine ev_inV1 f_X11_busiest (nx := 28) (lo2 := [(0, .ref 28)]) rfl rfl rfl rfl f_X1_busiestByPlan (hW.s rfl) rfl rfl rfl rfl rfl ?_
  refine ev_ic f_X1_busiestByPlan (nx := 1) (v := 0) rfl (by decide) rfl ?_
  refine ev_loc f_X1_busiestByPlan (nx := 2) (lo' := [(1, .int 0), (0, .ref 28)]) rfl rfl rfl rfl ?_
  refine ev_ic f_X1_busiestByPlan (nx := 3) (v := -1) rfl (by decide) rfl ?_
  refine ev_loc f_X1_busiestByPlan (nx := 4) (lo' := [(2, .int (-1)), (1, .int 0), (0, .ref 28)]) rfl rfl rfl rfl ?_
  refine ev_ic f_X1_busiestByPlan (nx := 5) (v := 0) rfl (by decide) rfl ?_
  refine ev_loc f_X1_busiestByPlan (nx := 6) (lo' := [(3, .int 0), (2, .int (-1)), (1, .int 0), (0, .ref 28)]) rfl rfl rfl rfl ?_
  refine ev_loc f_X1_busiestByPlan (nx := 7) rfl rfl rfl rfl ?_
  refine ev_sp f_X1_busiestByPlan (nx := 10) (v := 240) rfl (by decide) rfl ?_
  refine ev_f f_X1_busiestByPlan (t1 := 57) (t2 := 13) rfl rfl rfl (by decide) ?_
  refine ev_loc f_X1_busiestByPlan (nx := 14) rfl rfl rfl rfl ?_
  refine ev_getR f_X1_busiestByPlan (nx := 17) rfl (hW.s rfl) rfl rfl (hW.r rfl) rfl rfl ?_
  refine ev_loc f_X1_busiestByPlan (nx := 18) rfl rfl rfl rfl ?_
  refine ev_getR f_X1_busiestByPlan (nx := 21) rfl (hW.s rfl) rfl rfl (hW.r rfl) rfl rfl ?_
  refine ev_loc f_X1_busiestByPlan (nx := 22) rfl rfl rfl rfl ?_
  refine ev_inS3 f_X1_busiestByPlan (nx := 25) (lo2 := [(0, .ref 29), (1, .ref 43), (2, .int 0)]) rfl rfl rfl rfl f_X1_waitingIn rfl rfl rfl rfl ?_
  refine ev_ic f_X1_waitingIn (nx := 1) (v := 0) rfl (by decide) rfl ?_
  refine ev_loc f_X1_waitingIn (nx := 2) (lo' := [(3, .int 0), (0, .ref 29), (1, .ref 43), (2, .int 0)]) rfl rfl rfl rfl ?_
  refine ev_ic f_X1_waitingIn (nx := 3) (v := 0) rfl (by decide) rfl ?_
  refine ev_loc f_X1_waitingIn (nx := 5) (lo' := [(4, .int 0), (3, .int 0), (0, .ref 29), (1, .ref 43), (2, .int 0)]) rfl rfl rfl rfl ?_
  refine ev_loc f_X1_waitingIn (nx := 7) rfl rfl rfl rfl ?_
  refine ev_loc f_X1_waitingIn (nx := 8) rfl rfl rfl rfl ?_
  refine ev_gvI f_X1_waitingIn (nx := 11) (w := 0) rfl (hW.s rfl) rfl rfl rfl rfl ?_
  refine ev_t f_X1_waitingIn (t1 := 49) (t2 := 14) rfl rfl rfl (by decide) ?_
  refine ev_loc f_X1_waitingIn (nx := 50) rfl rfl rfl rfl ?_
  refine ev_retK1 f_X1_waitingIn rfl rfl rfl ?_
  refine ev_loc f_X1_busiestByPlan (nx := 26) rfl rfl rfl rfl ?_
  refine ev_getR f_X1_busiestByPlan (nx := 29) rfl (hW.s rfl) rfl rfl (hW.r rfl) rfl rfl ?_
  refine ev_loc f_X1_busiestByPlan (nx := 30) rfl rfl rfl rfl ?_
  refine ev_getR f_X1_busiestByPlan (nx := 33) rfl (hW.s rfl) rfl rfl (hW.r rfl) rfl rfl ?_
  refine ev_loc f_X1_busiestByPlan (nx := 34) rfl rfl rfl rfl ?_
  refine ev_inS3 f_X1_busiestByPlan (nx := 37) (lo2 := [(0, .ref 35), (1, .ref 44), (2, .int 0)]) rfl rfl rfl rfl f_X1_waitingIn rfl rfl rfl rfl ?_
  refine ev_ic f_X1_waitingIn (nx := 1) (v := 0) rfl (by decide) rfl ?_
  refine ev_loc f_X1_waitingIn (nx := 2) (lo' := [(3, .int 0), (0, .ref 35), (1, .ref 44), (2, .int 0)]) rfl rfl rfl rfl ?_
  refine ev_ic f_X1_waitingIn (nx := 3) (v := 0) rfl (by decide) rfl ?_
  refine ev_loc f_X1_waitingIn (nx := 5) (lo' := [(4, .int 0), (3, .int 0), (0, .ref 35), (1, .ref 44), (2, .int 0)]) rfl rfl rfl rfl ?_
  refine ev_loc f_X1_waitingIn (nx := 7) rfl rfl rfl rfl ?_
  refine ev_loc f_X1_waitingIn (nx := 8) rfl rfl rfl rfl ?_
  refine ev_gvI f_X1_waitingIn (nx := 11) (w := 0) rfl (hW.s rfl) rfl rfl rfl rfl ?_
  refine ev_t f_X1_waitingIn (t1 := 49) (t2 := 14) rfl rfl rfl (by decide) ?_
  refine ev_loc f_X1_waitingIn (nx := 50) rfl rfl rfl rfl ?_
  refine ev_retK1 f_X1_waitingIn rfl rfl rfl ?_
  refine ev_aluvI f_X1_busiestByPlan (nx := 38) (w := 0) rfl rfl rfl (by decide) rfl ?_
  refine ev_loc f_X1_busiestByPlan (nx := 40) (lo' := [(4, .int 0), (3, .int 0), (2, .int (-1)), (1, .int 0), (0, .ref 28)]) rfl rfl rfl rfl ?_
  refine ev_loc f_X1_busiestByPlan (nx := 42) rfl rfl rfl rfl ?_
  refine ev_loc f_X1_busiestByPlan (nx := 43) rfl rfl rfl rfl ?_
  refine ev_t f_X1_busiestByPlan (t1 := 51) (t2 := 46) rfl rfl rfl (by decide) ?_
  refine ev_incv f_X1_busiestByPlan (nx := 54) (c := 1) (w := 1) (lo' := [(3, .int 1), (4, .int 0), (2, .int (-1)), (1, .int 0), (0, .ref 28)]) rfl rfl (by decide) (by decide) rfl rfl rfl ?_
  refine ev_jmp f_X1_busiestByPlan (nx := 6) rfl rfl rfl ?_
  refine l_bp hW rfl rfl ?_ 240 1 (by decide)
  refine ev_loc f_X1_busiestByPlan (nx := 58) rfl rfl rfl rfl ?_
  refine ev_retK1 f_X1_busiestByPlan rfl rfl rfl ?_
  refine ev_jmp f_X11_busiest (nx := 32) rfl rfl rfl ?_
  refine ev_loc f_X11_busiest (nx := 33) (lo' := [(1, .int (-1)), (0, .ref 0)]) rfl rfl rfl rfl ?_
  refine ev_loc f_X11_busiest (nx := 34) rfl rfl rfl rfl ?_
  refine ev_ic f_X11_busiest (nx := 35) (v := -1) rfl (by decide) rfl ?_
  refine ev_t f_X11_busiest (t1 := 38) (t2 := 47) rfl rfl rfl (by decide) ?_
  refine ev_loc f_X11_busiest (nx := 39) rfl rfl rfl rfl ?_
  refine ev_bp f_X11_busiest (nx := 41) (v := 6) rfl (by decide) rfl ?_
  refine ev_inV2 f_X11_busiest (nx := 44) (lo2 := [(0, .ref 0), (1, .int 6)]) rfl rfl rfl rfl f_X11_refuse (hW.s rfl) rfl rfl rfl rfl rfl ?_
  refine ev_loc f_X11_refuse (nx := 1) rfl rfl rfl rfl ?_
  refine ev_loc f_X11_refuse (nx := 2) rfl rfl rfl rfl ?_
  refine ev_putI f_X11_refuse (nx := 5) rfl (hW.s rfl) rfl rfl rfl ?_
  refine ev_ic f_X11_refuse (nx := 6) (v := -1) rfl (by decide) rfl ?_
  refine ev_retK1 f_X11_refuse rfl rfl rfl ?_
  refine ev_jmp f_X11_busiest (nx := 52) rfl rfl rfl ?_
  refine ev_retK1 f_X11_busiest rfl rfl rfl ?_
  refine ev_loc f_L_law (nx := 1482) rfl rfl rfl rfl ?_
  refine ev_inV1 f_L_law (nx := 1485) (lo2 := [(0, .ref 69)]) rfl rfl rfl rfl f_X12_busiest (hW.s rfl) rfl rfl rfl rfl rfl ?_
  refine ev_loc f_X12_busiest (nx := 1) rfl rfl rfl rfl ?_
  refine ev_inV1 f_X12_busiest (nx := 4) (lo2 := [(0, .ref 69)]) rfl rfl rfl rfl f_X12_plans (hW.s rfl) rfl rfl rfl rfl rfl ?_
  refine ev_loc f_X12_plans (nx := 1) rfl rfl rfl rfl ?_
  refine ev_ic f_X12_plans (nx := 2) (v := 0) rfl (by decide) rfl ?_
  refine ev_loc f_X12_plans (nx := 3) rfl rfl rfl rfl ?_
  refine ev_getR f_X12_plans (nx := 6) rfl (hW.s rfl) rfl rfl (hW.r rfl) rfl rfl ?_
  refine ev_ic f_X12_plans (nx := 7) (v := 4) rfl (by decide) rfl ?_
  refine ev_ialdv f_X12_plans (nx := 8) (j := 4) (w := 5) rfl (hW.s rfl) (by decide) (by decide) (by decide) (wi_70_4 (gi := gi) hR) rfl ?_
  refine ev_inV3 f_X12_plans (nx := 11) (lo2 := [(0, .ref 69), (1, .int 0), (2, .int 5)]) rfl rfl rfl rfl f_X12_leastBy (hW.s rfl) rfl rfl rfl rfl rfl ?_
  refine ev_loc f_X12_leastBy (nx := 1) rfl rfl rfl rfl ?_
  refine ev_inV1 f_X12_leastBy (nx := 4) (lo2 := [(0, .ref 69)]) rfl rfl rfl rfl f_X12_tellsMinutes (hW.s rfl) rfl rfl rfl rfl rfl ?_
  refine ev_ic f_X12_tellsMinutes (nx := 1) (v := 0) rfl (by decide) rfl ?_
  refine ev_loc f_X12_tellsMinutes (nx := 2) (lo' := [(1, .int 0), (0, .ref 69)]) rfl rfl rfl rfl ?_
  refine ev_loc f_X12_tellsMinutes (nx := 3) rfl rfl rfl rfl ?_
  refine ev_bp f_X12_tellsMinutes (nx := 5) (v := 6) rfl (by decide) rfl ?_
  refine ev_f f_X12_tellsMinutes (t1 := 33) (t2 := 8) rfl rfl rfl (by decide) ?_
  refine ev_loc f_X12_tellsMinutes (nx := 9) rfl rfl rfl rfl ?_
  refine ev_getR f_X12_tellsMinutes (nx := 12) rfl (hW.s rfl) rfl rfl (hW.r rfl) rfl rfl ?_
  refine ev_loc f_X12_tellsMinutes (nx := 13) rfl rfl rfl rfl ?_
  refine ev_loc f_X12_tellsMinutes (nx := 14) rfl rfl rfl rfl ?_
  refine ev_getR f_X12_tellsMinutes (nx := 17) rfl (hW.s rfl) rfl rfl (hW.r rfl) rfl rfl ?_
  refine ev_bp f_X12_tellsMinutes (nx := 19) (v := 52) rfl (by decide) rfl ?_
  refine ev_ic f_X12_tellsMinutes (nx := 20) (v := 5) rfl (by decide) rfl ?_
  refine ev_loc f_X12_tellsMinutes (nx := 21) rfl rfl rfl rfl ?_
  refine ev_aluvI f_X12_tellsMinutes (nx := 22) (w := 0) rfl rfl rfl (by decide) rfl ?_
  refine ev_aluvI f_X12_tellsMinutes (nx := 23) (w := 52) rfl rfl rfl (by decide) rfl ?_
  refine ev_ic f_X12_tellsMinutes (nx := 24) (v := 1) rfl (by decide) rfl ?_
  refine ev_aluvI f_X12_tellsMinutes (nx := 25) (w := 53) rfl rfl rfl (by decide) rfl ?_
  refine ev_ialdv f_X12_tellsMinutes (nx := 26) (j := 53) (w := 0) rfl (hW.s rfl) (by decide) (by decide) (by decide) (wi_70_53 (gi := gi) hR) rfl ?_
  refine ev_iastv f_X12_tellsMinutes (nx := 27) (j := 0) rfl (hW.s rfl) (by decide) (by decide) (by decide) rfl ?_
  refine ev_incv f_X12_tellsMinutes (nx := 30) (c := 1) (w := 1) (lo' := [(1, .int 1), (0, .ref 69)]) rfl rfl (by decide) (by decide) rfl rfl rfl ?_
  refine ev_jmp f_X12_tellsMinutes (nx := 2) rfl rfl rfl ?_
  refine ev_loc f_X12_tellsMinutes (nx := 3) rfl rfl rfl rfl ?_
  refine ev_bp f_X12_tellsMinutes (nx := 5) (v := 6) rfl (by decide) rfl ?_
  refine ev_f f_X12_tellsMinutes (t1 := 33) (t2 := 8) rfl rfl rfl (by decide) ?_
  refine ev_loc f_X12_tellsMinutes (nx := 9) rfl rfl rfl rfl ?_
  refine ev_getR f_X12_tellsMinutes (nx := 12) rfl (hW.s rfl) rfl rfl (hW.r rfl) rfl rfl ?_
  refine ev_loc f_X12_tellsMinutes (nx := 13) rfl rfl rfl rfl ?_
  refine ev_loc f_X12_tellsMinutes (nx := 14) rfl rfl rfl rfl ?_
  refine ev_getR f_X12_tellsMinutes (nx := 17) rfl (hW.s rfl) rfl rfl (hW.r rfl) rfl rfl ?_
  refine ev_bp f_X12_tellsMinutes (nx := 19) (v := 52) rfl (by decide) rfl ?_
  refine ev_ic f_X12_tellsMinutes (nx := 20) (v := 5) rfl (by decide) rfl ?_
  refine ev_loc f_X12_tellsMinutes (nx := 21) rfl rfl rfl rfl ?_
  refine ev_aluvI f_X12_tellsMinutes (nx := 22) (w := 5) rfl rfl rfl (by decide) rfl ?_
  refine ev_aluvI f_X12_tellsMinutes (nx := 23) (w := 57) rfl rfl rfl (by decide) rfl ?_
  refine ev_ic f_X12_tellsMinutes (nx := 24) (v := 1) rfl (by decide) rfl ?_
  refine ev_aluvI f_X12_tellsMinutes (nx := 25) (w := 58) rfl rfl rfl (by decide) rfl ?_
  refine ev_ialdv f_X12_tellsMinutes (nx := 26) (j := 58) (w := 0) rfl (hW.s rfl) (by decide) (by decide) (by decide) (wi_70_58 (gi := gi) hR) rfl ?_
  refine ev_iastv f_X12_tellsMinutes (nx := 27) (j := 1) rfl (hW.s rfl) (by decide) (by decide) (by decide) rfl ?_
  refine ev_incv f_X12_tellsMinutes (nx := 30) (c := 1) (w := 2) (lo' := [(1, .int 2), (0, .ref 69)]) rfl rfl (by decide) (by decide) rfl rfl rfl ?_
  refine ev_jmp f_X12_tellsMinutes (nx := 2) rfl rfl rfl ?_
  refine ev_loc f_X12_tellsMinutes (nx := 3) rfl rfl rfl rfl ?_
  refine ev_bp f_X12_tellsMinutes (nx := 5) (v := 6) rfl (by decide) rfl ?_
  refine ev_f f_X12_tellsMinutes (t1 := 33) (t2 := 8) rfl rfl rfl (by decide) ?_
  refine ev_loc f_X12_tellsMinutes (nx := 9) rfl rfl rfl rfl ?_
  refine ev_getR f_X12_tellsMinutes (nx := 12) rfl (hW.s rfl) rfl rfl (hW.r rfl) rfl rfl ?_
  refine ev_loc f_X12_tellsMinutes (nx := 13) rfl rfl rfl rfl ?_
  refine ev_loc f_X12_tellsMinutes (nx := 14) rfl rfl rfl rfl ?_
  refine ev_getR f_X12_tellsMinutes (nx := 17) rfl (hW.s rfl) rfl rfl (hW.r rfl) rfl rfl ?_
  refine ev_bp f_X12_tellsMinutes (nx := 19) (v := 52) rfl (by decide) rfl ?_
  refine ev_ic f_X12_tellsMinutes (nx := 20) (v := 5) rfl (by decide) rfl ?_
  refine ev_loc f_X12_tellsMinutes (nx := 21) rfl rfl rfl rfl ?_
  refine ev_aluvI f_X12_tellsMinutes (nx := 22) (w := 10) rfl rfl rfl (by decide) rfl ?_
  refine ev_aluvI f_X12_tellsMinutes (nx := 23) (w := 62) rfl rfl rfl (by decide) rfl ?_
  refine ev_ic f_X12_tellsMinutes (nx := 24) (v := 1) rfl (by decide) rfl ?_
  refine ev_aluvI f_X12_tellsMinutes (nx := 25) (w := 63) rfl rfl rfl (by decide) rfl ?_
  refine ev_ialdv f_X12_tellsMinutes (nx := 26) (j := 63) (w := 0) rfl (hW.s rfl) (by decide) (by decide) (by decide) (wi_70_63 (gi := gi) hR) rfl ?_
  refine ev_iastv f_X12_tellsMinutes (nx := 27) (j := 2) rfl (hW.s rfl) (by decide) (by decide) (by decide) rfl ?_
  refine ev_incv f_X12_tellsMinutes (nx := 30) (c := 1) (w := 3) (lo' := [(1, .int 3), (0, .ref 69)]) rfl rfl (by decide) (by decide) rfl rfl rfl ?_
  refine ev_jmp f_X12_tellsMinutes (nx := 2) rfl rfl rfl ?_
  refine ev_loc f_X12_tellsMinutes (nx := 3) rfl rfl rfl rfl ?_
  refine ev_bp f_X12_tellsMinutes (nx := 5) (v := 6) rfl (by decide) rfl ?_
  refine ev_f f_X12_tellsMinutes (t1 := 33) (t2 := 8) rfl rfl rfl (by decide) ?_
  refine ev_loc f_X12_tellsMinutes (nx := 9) rfl rfl rfl rfl ?_
  refine ev_getR f_X12_tellsMinutes (nx := 12) rfl (hW.s rfl) rfl rfl (hW.r rfl) rfl rfl ?_
  refine ev_loc f_X12_tellsMinutes (nx := 13) rfl rfl rfl rfl ?_
  refine ev_loc f_X12_tellsMinutes (nx := 14) rfl rfl rfl rfl ?_
  refine ev_getR f_X12_tellsMinutes (nx := 17) rfl (hW.s rfl) rfl rfl (hW.r rfl) rfl rfl ?_
  refine ev_bp f_X12_tellsMinutes (nx := 19) (v := 52) rfl (by decide) rfl ?_
  refine ev_ic f_X12_tellsMinutes (nx := 20) (v := 5) rfl (by decide) rfl ?_
  refine ev_loc f_X12_tellsMinutes (nx := 21) rfl rfl rfl rfl ?_
  refine ev_aluvI f_X12_tellsMinutes (nx := 22) (w := 15) rfl rfl rfl (by decide) rfl ?_
  refine ev_aluvI f_X12_tellsMinutes (nx := 23) (w := 67) rfl rfl rfl (by decide) rfl ?_
  refine ev_ic f_X12_tellsMinutes (nx := 24) (v := 1) rfl (by decide) rfl ?_
  refine ev_aluvI f_X12_tellsMinutes (nx := 25) (w := 68) rfl rfl rfl (by decide) rfl ?_
  refine ev_ialdv f_X12_tellsMinutes (nx := 26) (j := 68) (w := 0) rfl (hW.s rfl) (by decide) (by decide) (by decide) (wi_70_68 (gi := gi) hR) rfl ?_
  refine ev_iastv f_X12_tellsMinutes (nx := 27) (j := 3) rfl (hW.s rfl) (by decide) (by decide) (by decide) rfl ?_
  refine ev_incv f_X12_tellsMinutes (nx := 30) (c := 1) (w := 4) (lo' := [(1, .int 4), (0, .ref 69)]) rfl rfl (by decide) (by decide) rfl rfl rfl ?_
  refine ev_jmp f_X12_tellsMinutes (nx := 2) rfl rfl rfl ?_
  refine ev_loc f_X12_tellsMinutes (nx := 3) rfl rfl rfl rfl ?_
  refine ev_bp f_X12_tellsMinutes (nx := 5) (v := 6) rfl (by decide) rfl ?_
  refine ev_f f_X12_tellsMinutes (t1 := 33) (t2 := 8) rfl rfl rfl (by decide) ?_
  refine ev_loc f_X12_tellsMinutes (nx := 9) rfl rfl rfl rfl ?_
  refine ev_getR f_X12_tellsMinutes (nx := 12) rfl (hW.s rfl) rfl rfl (hW.r rfl) rfl rfl ?_
  refine ev_loc f_X12_tellsMinutes (nx := 13) rfl rfl rfl rfl ?_
  refine ev_loc f_X12_tellsMinutes (nx := 14) rfl rfl rfl rfl ?_
  refine ev_getR f_X12_tellsMinutes (nx := 17) rfl (hW.s rfl) rfl rfl (hW.r rfl) rfl rfl ?_
  refine ev_bp f_X12_tellsMinutes (nx := 19) (v := 52) rfl (by decide) rfl ?_
  refine ev_ic f_X12_tellsMinutes (nx := 20) (v := 5) rfl (by decide) rfl ?_
  refine ev_loc f_X12_tellsMinutes (nx := 21) rfl rfl rfl rfl ?_
  refine ev_aluvI f_X12_tellsMinutes (nx := 22) (w := 20) rfl rfl rfl (by decide) rfl ?_
  refine ev_aluvI f_X12_tellsMinutes (nx := 23) (w := 72) rfl rfl rfl (by decide) rfl ?_
  refine ev_ic f_X12_tellsMinutes (nx := 24) (v := 1) rfl (by decide) rfl ?_
  refine ev_aluvI f_X12_tellsMinutes (nx := 25) (w := 73) rfl rfl rfl (by decide) rfl ?_
  refine ev_ialdv f_X12_tellsMinutes (nx := 26) (j := 73) (w := 0) rfl (hW.s rfl) (by decide) (by decide) (by decide) (wi_70_73 (gi := gi) hR) rfl ?_
  refine ev_iastv f_X12_tellsMinutes (nx := 27) (j := 4) rfl (hW.s rfl) (by decide) (by decide) (by decide) rfl ?_
  refine ev_incv f_X12_tellsMinutes (nx := 30) (c := 1) (w := 5) (lo' := [(1, .int 5), (0, .ref 69)]) rfl rfl (by decide) (by decide) rfl rfl rfl ?_
  refine ev_jmp f_X12_tellsMinutes (nx := 2) rfl rfl rfl ?_
  refine ev_loc f_X12_tellsMinutes (nx := 3) rfl rfl rfl rfl ?_
  refine ev_bp f_X12_tellsMinutes (nx := 5) (v := 6) rfl (by decide) rfl ?_
  refine ev_f f_X12_tellsMinutes (t1 := 33) (t2 := 8) rfl rfl rfl (by decide) ?_
  refine ev_loc f_X12_tellsMinutes (nx := 9) rfl rfl rfl rfl ?_
  refine ev_getR f_X12_tellsMinutes (nx := 12) rfl (hW.s rfl) rfl rfl (hW.r rfl) rfl rfl ?_
  refine ev_loc f_X12_tellsMinutes (nx := 13) rfl rfl rfl rfl ?_
  refine ev_loc f_X12_tellsMinutes (nx := 14) rfl rfl rfl rfl ?_
  refine ev_getR f_X12_tellsMinutes (nx := 17) rfl (hW.s rfl) rfl rfl (hW.r rfl) rfl rfl ?_
  refine ev_bp f_X12_tellsMinutes (nx := 19) (v := 52) rfl (by decide) rfl ?_
  refine ev_ic f_X12_tellsMinutes (nx := 20) (v := 5) rfl (by decide) rfl ?_
  refine ev_loc f_X12_tellsMinutes (nx := 21) rfl rfl rfl rfl ?_
  refine ev_aluvI f_X12_tellsMinutes (nx := 22) (w := 25) rfl rfl rfl (by decide) rfl ?_
  refine ev_aluvI f_X12_tellsMinutes (nx := 23) (w := 77) rfl rfl rfl (by decide) rfl ?_
  refine ev_ic f_X12_tellsMinutes (nx := 24) (v := 1) rfl (by decide) rfl ?_
  refine ev_aluvI f_X12_tellsMinutes (nx := 25) (w := 78) rfl rfl rfl (by decide) rfl ?_
  refine ev_ialdv f_X12_tellsMinutes (nx := 26) (j := 78) (w := 0) rfl (hW.s rfl) (by decide) (by decide) (by decide) (wi_70_78 (gi := gi) hR) rfl ?_
  refine ev_iastv f_X12_tellsMinutes (nx := 27) (j := 5) rfl (hW.s rfl) (by decide) (by decide) (by decide) rfl ?_
  refine ev_incv f_X12_tellsMinutes (nx := 30) (c := 1) (w := 6) (lo' := [(1, .int 6), (0, .ref 69)]) rfl rfl (by decide) (by decide) rfl rfl rfl ?_
  refine ev_jmp f_X12_tellsMinutes (nx := 2) rfl rfl rfl ?_
  refine ev_loc f_X12_tellsMinutes (nx := 3) rfl rfl rfl rfl ?_
  refine ev_bp f_X12_tellsMinutes (nx := 5) (v := 6) rfl (by decide) rfl ?_
  refine ev_t f_X12_tellsMinutes (t1 := 33) (t2 := 8) rfl rfl rfl (by decide) ?_
  refine ev_ic f_X12_tellsMinutes (nx := 34) (v := 0) rfl (by decide) rfl ?_
  refine ev_loc f_X12_tellsMinutes (nx := 35) (lo' := [(1, .int 0), (0, .ref 69)]) rfl rfl rfl rfl ?_
  refine ev_loc f_X12_tellsMinutes (nx := 36) rfl rfl rfl rfl ?_
  refine ev_bp f_X12_tellsMinutes (nx := 38) (v := 6) rfl (by decide) rfl ?_
  refine ev_f f_X12_tellsMinutes (t1 := 67) (t2 := 41) rfl rfl rfl (by decide) ?_
  refine ev_loc f_X12_tellsMinutes (nx := 42) rfl rfl rfl rfl ?_
  refine ev_getR f_X12_tellsMinutes (nx := 45) rfl (hW.s rfl) rfl rfl (hW.r rfl) rfl rfl ?_
  refine ev_bp f_X12_tellsMinutes (nx := 47) (v := 6) rfl (by decide) rfl ?_
  refine ev_loc f_X12_tellsMinutes (nx := 48) rfl rfl rfl rfl ?_
  refine ev_aluvI f_X12_tellsMinutes (nx := 49) (w := 6) rfl rfl rfl (by decide) rfl ?_
  refine ev_loc f_X12_tellsMinutes (nx := 50) rfl rfl rfl rfl ?_
  refine ev_getR f_X12_tellsMinutes (nx := 53) rfl (hW.s rfl) rfl rfl (hW.r rfl) rfl rfl ?_
  refine ev_bp f_X12_tellsMinutes (nx := 55) (v := 82) rfl (by decide) rfl ?_
  refine ev_ic f_X12_tellsMinutes (nx := 56) (v := 3) rfl (by decide) rfl ?_
  refine ev_loc f_X12_tellsMinutes (nx := 57) rfl rfl rfl rfl ?_
  refine ev_aluvI f_X12_tellsMinutes (nx := 58) (w := 0) rfl rfl rfl (by decide) rfl ?_
  refine ev_aluvI f_X12_tellsMinutes (nx := 59) (w := 82) rfl rfl rfl (by decide) rfl ?_
  refine ev_ialdv f_X12_tellsMinutes (nx := 60) (j := 82) (w := 0) rfl (hW.s rfl) (by decide) (by decide) (by decide) (wi_70_82 (gi := gi) hR) rfl ?_
  refine ev_iastv f_X12_tellsMinutes (nx := 61) (j := 6) rfl (hW.s rfl) (by decide) (by decide) (by decide) rfl ?_
  refine ev_incv f_X12_tellsMinutes (nx := 64) (c := 1) (w := 1) (lo' := [(1, .int 1), (0, .ref 69)]) rfl rfl (by decide) (by decide) rfl rfl rfl ?_
  refine ev_jmp f_X12_tellsMinutes (nx := 35) rfl rfl rfl ?_
  refine ev_loc f_X12_tellsMinutes (nx := 36) rfl rfl rfl rfl ?_
  refine ev_bp f_X12_tellsMinutes (nx := 38) (v := 6) rfl (by decide) rfl ?_
  refine ev_f f_X12_tellsMinutes (t1 := 67) (t2 := 41) rfl rfl rfl (by decide) ?_
  refine ev_loc f_X12_tellsMinutes (nx := 42) rfl rfl rfl rfl ?_
  refine ev_getR f_X12_tellsMinutes (nx := 45) rfl (hW.s rfl) rfl rfl (hW.r rfl) rfl rfl ?_
  refine ev_bp f_X12_tellsMinutes (nx := 47) (v := 6) rfl (by decide) rfl ?_
  refine ev_loc f_X12_tellsMinutes (nx := 48) rfl rfl rfl rfl ?_
  refine ev_aluvI f_X12_tellsMinutes (nx := 49) (w := 7) rfl rfl rfl (by decide) rfl ?_
  refine ev_loc f_X12_tellsMinutes (nx := 50) rfl rfl rfl rfl ?_
  refine ev_getR f_X12_tellsMinutes (nx := 53) rfl (hW.s rfl) rfl rfl (hW.r rfl) rfl rfl ?_
  refine ev_bp f_X12_tellsMinutes (nx := 55) (v := 82) rfl (by decide) rfl ?_
  refine ev_ic f_X12_tellsMinutes (nx := 56) (v := 3) rfl (by decide) rfl ?_
  refine ev_loc f_X12_tellsMinutes (nx := 57) rfl rfl rfl rfl ?_
  refine ev_aluvI f_X12_tellsMinutes (nx := 58) (w := 3) rfl rfl rfl (by decide) rfl ?_
  refine ev_aluvI f_X12_tellsMinutes (nx := 59) (w := 85) rfl rfl rfl (by decide) rfl ?_
  refine ev_ialdv f_X12_tellsMinutes (nx := 60) (j := 85) (w := 0) rfl (hW.s rfl) (by decide) (by decide) (by decide) (wi_70_85 (gi := gi) hR) rfl ?_
  refine ev_iastv f_X12_tellsMinutes (nx := 61) (j := 7) rfl (hW.s rfl) (by decide) (by decide) (by decide) rfl ?_
  refine ev_incv f_X12_tellsMinutes (nx := 64) (c := 1) (w := 2) (lo' := [(1, .int 2), (0, .ref 69)]) rfl rfl (by decide) (by decide) rfl rfl rfl ?_
  refine ev_jmp f_X12_tellsMinutes (nx := 35) rfl rfl rfl ?_
  refine ev_loc f_X12_tellsMinutes (nx := 36) rfl rfl rfl rfl ?_
  refine ev_bp f_X12_tellsMinutes (nx := 38) (v := 6) rfl (by decide) rfl ?_
  refine ev_f f_X12_tellsMinutes (t1 := 67) (t2 := 41) rfl rfl rfl (by decide) ?_
  refine ev_loc f_X12_tellsMinutes (nx := 42) rfl rfl rfl rfl ?_
  refine ev_getR f_X12_tellsMinutes (nx := 45) rfl (hW.s rfl) rfl rfl (hW.r rfl) rfl rfl ?_
  refine ev_bp f_X12_tellsMinutes (nx := 47) (v := 6) rfl (by decide) rfl ?_
  refine ev_loc f_X12_tellsMinutes (nx := 48) rfl rfl rfl rfl ?_
  refine ev_aluvI f_X12_tellsMinutes (nx := 49) (w := 8) rfl rfl rfl (by decide) rfl ?_
  refine ev_loc f_X12_tellsMinutes (nx := 50) rfl rfl rfl rfl ?_
  refine ev_getR f_X12_tellsMinutes (nx := 53) rfl (hW.s rfl) rfl rfl (hW.r rfl) rfl rfl ?_
  refine ev_bp f_X12_tellsMinutes (nx := 55) (v := 82) rfl (by decide) rfl ?_
  refine ev_ic f_X12_tellsMinutes (nx := 56) (v := 3) rfl (by decide) rfl ?_
  refine ev_loc f_X12_tellsMinutes (nx := 57) rfl rfl rfl rfl ?_
  refine ev_aluvI f_X12_tellsMinutes (nx := 58) (w := 6) rfl rfl rfl (by decide) rfl ?_
  refine ev_aluvI f_X12_tellsMinutes (nx := 59) (w := 88) rfl rfl rfl (by decide) rfl ?_
  refine ev_ialdv f_X12_tellsMinutes (nx := 60) (j := 88) (w := 0) rfl (hW.s rfl) (by decide) (by decide) (by decide) (wi_70_88 (gi := gi) hR) rfl ?_
  refine ev_iastv f_X12_tellsMinutes (nx := 61) (j := 8) rfl (hW.s rfl) (by decide) (by decide) (by decide) rfl ?_
  refine ev_incv f_X12_tellsMinutes (nx := 64) (c := 1) (w := 3) (lo' := [(1, .int 3), (0, .ref 69)]) rfl rfl (by decide) (by decide) rfl rfl rfl ?_
  refine ev_jmp f_X12_tellsMinutes (nx := 35) rfl rfl rfl ?_
  refine ev_loc f_X12_tellsMinutes (nx := 36) rfl rfl rfl rfl ?_
  refine ev_bp f_X12_tellsMinutes (nx := 38) (v := 6) rfl (by decide) rfl ?_
  refine ev_f f_X12_tellsMinutes (t1 := 67) (t2 := 41) rfl rfl rfl (by decide) ?_
  refine ev_loc f_X12_tellsMinutes (nx := 42) rfl rfl rfl rfl ?_
  refine ev_getR f_X12_tellsMinutes (nx := 45) rfl (hW.s rfl) rfl rfl (hW.r rfl) rfl rfl ?_
  refine ev_bp f_X12_tellsMinutes (nx := 47) (v := 6) rfl (by decide) rfl ?_
  refine ev_loc f_X12_tellsMinutes (nx := 48) rfl rfl rfl rfl ?_
  refine ev_aluvI f_X12_tellsMinutes (nx := 49) (w := 9) rfl rfl rfl (by decide) rfl ?_
  refine ev_loc f_X12_tellsMinutes (nx := 50) rfl rfl rfl rfl ?_
  refine ev_getR f_X12_tellsMinutes (nx := 53) rfl (hW.s rfl) rfl rfl (hW.r rfl) rfl rfl ?_
  refine ev_bp f_X12_tellsMinutes (nx := 55) (v := 82) rfl (by decide) rfl ?_
  refine ev_ic f_X12_tellsMinutes (nx := 56) (v := 3) rfl (by decide) rfl ?_
  refine ev_loc f_X12_tellsMinutes (nx := 57) rfl rfl rfl rfl ?_
  refine ev_aluvI f_X12_tellsMinutes (nx := 58) (w := 9) rfl rfl rfl (by decide) rfl ?_
  refine ev_aluvI f_X12_tellsMinutes (nx := 59) (w := 91) rfl rfl rfl (by decide) rfl ?_
  refine ev_ialdv f_X12_tellsMinutes (nx := 60) (j := 91) (w := 0) rfl (hW.s rfl) (by decide) (by decide) (by decide) (wi_70_91 (gi := gi) hR) rfl ?_
  refine ev_iastv f_X12_tellsMinutes (nx := 61) (j := 9) rfl (hW.s rfl) (by decide) (by decide) (by decide) rfl ?_
  refine ev_incv f_X12_tellsMinutes (nx := 64) (c := 1) (w := 4) (lo' := [(1, .int 4), (0, .ref 69)]) rfl rfl (by decide) (by decide) rfl rfl rfl ?_
  refine ev_jmp f_X12_tellsMinutes (nx := 35) rfl rfl rfl ?_
  refine ev_loc f_X12_tellsMinutes (nx := 36) rfl rfl rfl rfl ?_
  refine ev_bp f_X12_tellsMinutes (nx := 38) (v := 6) rfl (by decide) rfl ?_
  refine ev_f f_X12_tellsMinutes (t1 := 67) (t2 := 41) rfl rfl rfl (by decide) ?_
  refine ev_loc f_X12_tellsMinutes (nx := 42) rfl rfl rfl rfl ?_
  refine ev_getR f_X12_tellsMinutes (nx := 45) rfl (hW.s rfl) rfl rfl (hW.r rfl) rfl rfl ?_
  refine ev_bp f_X12_tellsMinutes (nx := 47) (v := 6) rfl (by decide) rfl ?_
  refine ev_loc f_X12_tellsMinutes (nx := 48) rfl rfl rfl rfl ?_
  refine ev_aluvI f_X12_tellsMinutes (nx := 49) (w := 10) rfl rfl rfl (by decide) rfl ?_
  refine ev_loc f_X12_tellsMinutes (nx := 50) rfl rfl rfl rfl ?_
  refine ev_getR f_X12_tellsMinutes (nx := 53) rfl (hW.s rfl) rfl rfl (hW.r rfl) rfl rfl ?_
  refine ev_bp f_X12_tellsMinutes (nx := 55) (v := 82) rfl (by decide) rfl ?_
  refine ev_ic f_X12_tellsMinutes (nx := 56) (v := 3) rfl (by decide) rfl ?_
  refine ev_loc f_X12_tellsMinutes (nx := 57) rfl rfl rfl rfl ?_
  refine ev_aluvI f_X12_tellsMinutes (nx := 58) (w := 12) rfl rfl rfl (by decide) rfl ?_
  refine ev_aluvI f_X12_tellsMinutes (nx := 59) (w := 94) rfl rfl rfl (by decide) rfl ?_
  refine ev_ialdv f_X12_tellsMinutes (nx := 60) (j := 94) (w := 0) rfl (hW.s rfl) (by decide) (by decide) (by decide) (wi_70_94 (gi := gi) hR) rfl ?_
  refine ev_iastv f_X12_tellsMinutes (nx := 61) (j := 10) rfl (hW.s rfl) (by decide) (by decide) (by decide) rfl ?_
  refine ev_incv f_X12_tellsMinutes (nx := 64) (c := 1) (w := 5) (lo' := [(1, .int 5), (0, .ref 69)]) rfl rfl (by decide) (by decide) rfl rfl rfl ?_
  refine ev_jmp f_X12_tellsMinutes (nx := 35) rfl rfl rfl ?_
  refine ev_loc f_X12_tellsMinutes (nx := 36) rfl rfl rfl rfl ?_
  refine ev_bp f_X12_tellsMinutes (nx := 38) (v := 6) rfl (by decide) rfl ?_
  refine ev_f f_X12_tellsMinutes (t1 := 67) (t2 := 41) rfl rfl rfl (by decide) ?_
  refine ev_loc f_X12_tellsMinutes (nx := 42) rfl rfl rfl rfl ?_
  refine ev_getR f_X12_tellsMinutes (nx := 45) rfl (hW.s rfl) rfl rfl (hW.r rfl) rfl rfl ?_
  refine ev_bp f_X12_tellsMinutes (nx := 47) (v := 6) rfl (by decide) rfl ?_
  refine ev_loc f_X12_tellsMinutes (nx := 48) rfl rfl rfl rfl ?_
  refine ev_aluvI f_X12_tellsMinutes (nx := 49) (w := 11) rfl rfl rfl (by decide) rfl ?_
  refine ev_loc f_X12_tellsMinutes (nx := 50) rfl rfl rfl rfl ?_
  refine ev_getR f_X12_tellsMinutes (nx := 53) rfl (hW.s rfl) rfl rfl (hW.r rfl) rfl rfl ?_
  refine ev_bp f_X12_tellsMinutes (nx := 55) (v := 82) rfl (by decide) rfl ?_
  refine ev_ic f_X12_tellsMinutes (nx := 56) (v := 3) rfl (by decide) rfl ?_
  refine ev_loc f_X12_tellsMinutes (nx := 57) rfl rfl rfl rfl ?_
  refine ev_aluvI f_X12_tellsMinutes (nx := 58) (w := 15) rfl rfl rfl (by decide) rfl ?_
  refine ev_aluvI f_X12_tellsMinutes (nx := 59) (w := 97) rfl rfl rfl (by decide) rfl ?_
  refine ev_ialdv f_X12_tellsMinutes (nx := 60) (j := 97) (w := 0) rfl (hW.s rfl) (by decide) (by decide) (by decide) (wi_70_97 (gi := gi) hR) rfl ?_
  refine ev_iastv f_X12_tellsMinutes (nx := 61) (j := 11) rfl (hW.s rfl) (by decide) (by decide) (by decide) rfl ?_
  refine ev_incv f_X12_tellsMinutes (nx := 64) (c := 1) (w := 6) (lo' := [(1, .int 6), (0, .ref 69)]) rfl rfl (by decide) (by decide) rfl rfl rfl ?_
  refine ev_jmp f_X12_tellsMinutes (nx := 35) rfl rfl rfl ?_
  refine ev_loc f_X12_tellsMinutes (nx := 36) rfl rfl rfl rfl ?_
  refine ev_bp f_X12_tellsMinutes (nx := 38) (v := 6) rfl (by decide) rfl ?_
  refine ev_t f_X12_tellsMinutes (t1 := 67) (t2 := 41) rfl rfl rfl (by decide) ?_
  refine ev_retK0 f_X12_tellsMinutes rfl rfl rfl ?_
  refine ev_loc f_X12_leastBy (nx := 5) rfl rfl rfl rfl ?_
  refine ev_loc f_X12_leastBy (nx := 6) rfl rfl rfl rfl ?_
  refine ev_inV2 f_X12_leastBy (nx := 9) (lo2 := [(0, .ref 69), (1, .int 0)]) rfl rfl rfl rfl f_X12_orders (hW.s rfl) rfl rfl rfl rfl rfl ?_
  refine ev_loc f_X12_orders (nx := 1) rfl rfl rfl rfl ?_
  refine ev_ic f_X12_orders (nx := 2) (v := 0) rfl (by decide) rfl ?_
  refine ev_putI f_X12_orders (nx := 5) rfl (hW.s rfl) rfl rfl rfl ?_
  refine ev_loc f_X12_orders (nx := 6) rfl rfl rfl rfl ?_
  refine ev_ic f_X12_orders (nx := 7) (v := 0) rfl (by decide) rfl ?_
  refine ev_putI f_X12_orders (nx := 10) rfl (hW.s rfl) rfl rfl rfl ?_
  refine ev_ic f_X12_orders (nx := 11) (v := 0) rfl (by decide) rfl ?_
  refine ev_loc f_X12_orders (nx := 12) (lo' := [(2, .int 0), (0, .ref 69), (1, .int 0)]) rfl rfl rfl rfl ?_
  refine ev_loc f_X12_orders (nx := 13) rfl rfl rfl rfl ?_
  refine ev_loc f_X12_orders (nx := 14) rfl rfl rfl rfl ?_
  refine ev_getR f_X12_orders (nx := 17) rfl (hW.s rfl) rfl rfl (hW.r rfl) rfl rfl ?_
  refine ev_ic f_X12_orders (nx := 18) (v := 1) rfl (by decide) rfl ?_
  refine ev_ialdv f_X12_orders (nx := 19) (j := 1) (w := 0) rfl (hW.s rfl) (by decide) (by decide) (by decide) (wi_70_1 (gi := gi) hR) rfl ?_
  refine ev_t f_X12_orders (t1 := 108) (t2 := 22) rfl rfl rfl (by decide) ?_
  refine ev_ic f_X12_orders (nx := 109) (v := 0) rfl (by decide) rfl ?_
  refine ev_loc f_X12_orders (nx := 110) (lo' := [(2, .int 0), (0, .ref 69), (1, .int 0)]) rfl rfl rfl rfl ?_
  refine ev_loc f_X12_orders (nx := 111) rfl rfl rfl rfl ?_
  refine ev_loc f_X12_orders (nx := 112) rfl rfl rfl rfl ?_
  refine ev_getR f_X12_orders (nx := 115) rfl (hW.s rfl) rfl rfl (hW.r rfl) rfl rfl ?_
  refine ev_ic f_X12_orders (nx := 116) (v := 2) rfl (by decide) rfl ?_
  refine ev_ialdv f_X12_orders (nx := 117) (j := 2) (w := 0) rfl (hW.s rfl) (by decide) (by decide) (by decide) (wi_70_2 (gi := gi) hR) rfl ?_
  refine ev_t f_X12_orders (t1 := 211) (t2 := 120) rfl rfl rfl (by decide) ?_
  refine ev_retK0 f_X12_orders rfl rfl rfl ?_
  refine ev_loc f_X12_leastBy (nx := 10) rfl rfl rfl rfl ?_
  refine ev_loc f_X12_leastBy (nx := 11) rfl rfl rfl rfl ?_
  refine ev_putI f_X12_leastBy (nx := 14) rfl (hW.s rfl) rfl rfl rfl ?_
  refine ev_loc f_X12_leastBy (nx := 15) rfl rfl rfl rfl ?_
  refine ev_cM f_X12_leastBy (nx := 18) (st2 := [.int 0]) rfl rfl rfl rfl rfl rfl (l_rk hW rfl rfl (wi_70_5 (gi := gi) hR) (wz_92 (gi := gi) hR)) rfl rfl ?_
  refine ev_retK1 f_X12_leastBy rfl rfl rfl ?_
  refine ev_ic f_X12_plans (nx := 12) (v := -1) rfl (by decide) rfl ?_
  refine ev_f f_X12_plans (t1 := 15) (t2 := 17) rfl rfl rfl (by decide) ?_
  refine ev_loc f_X12_plans (nx := 18) rfl rfl rfl rfl ?_
  refine ev_ic f_X12_plans (nx := 19) (v := 0) rfl (by decide) rfl ?_
  refine ev_putI f_X12_plans (nx := 22) rfl (hW.s rfl) rfl rfl rfl ?_
  refine ev_loc f_X12_plans (nx := 23) rfl rfl rfl rfl ?_
  refine ev_ic f_X12_plans (nx := 24) (v := 0) rfl (by decide) rfl ?_
  refine ev_putI f_X12_plans (nx := 27) rfl (hW.s rfl) rfl rfl rfl ?_
  refine ev_ic f_X12_plans (nx := 28) (v := 0) rfl (by decide) rfl ?_
  refine ev_loc f_X12_plans (nx := 29) (lo' := [(1, .int 0), (0, .ref 69)]) rfl rfl rfl rfl ?_
  refine ev_ic f_X12_plans (nx := 30) (v := 0) rfl (by decide) rfl ?_
  refine ev_loc f_X12_plans (nx := 31) (lo' := [(2, .int 0), (1, .int 0), (0, .ref 69)]) rfl rfl rfl rfl ?_
  refine ev_ic f_X12_plans (nx := 32) (v := 0) rfl (by decide) rfl ?_
  refine ev_loc f_X12_plans (nx := 33) (lo' := [(3, .int 0), (2, .int 0), (1, .int 0), (0, .ref 69)]) rfl rfl rfl rfl ?_
  refine ev_ic f_X12_plans (nx := 34) (v := 0) rfl (by decide) rfl ?_
  refine ev_loc f_X12_plans (nx := 36) (lo' := [(4, .int 0), (3, .int 0), (2, .int 0), (1, .int 0), (0, .ref 69)]) rfl rfl rfl rfl ?_
  refine ev_loc f_X12_plans (nx := 37) rfl rfl rfl rfl ?_
  refine ev_loc f_X12_plans (nx := 38) rfl rfl rfl rfl ?_
  refine ev_gvI f_X12_plans (nx := 41) (w := 0) rfl (hW.s rfl) rfl rfl rfl rfl ?_
  refine ev_f f_X12_plans (t1 := 53) (t2 := 44) rfl rfl rfl (by decide) ?_
  refine ev_loc f_X12_plans (nx := 46) rfl rfl rfl rfl ?_
  refine ev_loc f_X12_plans (nx := 47) rfl rfl rfl rfl ?_
  refine ev_gvI f_X12_plans (nx := 50) (w := 0) rfl (hW.s rfl) rfl rfl rfl rfl ?_
  refine ev_t f_X12_plans (t1 := 225) (t2 := 53) rfl rfl rfl (by decide) ?_
  refine ev_loc f_X12_plans (nx := 226) rfl rfl rfl rfl ?_
  refine ev_loc f_X12_plans (nx := 227) rfl rfl rfl rfl ?_
  refine ev_putI f_X12_plans (nx := 230) rfl (hW.s rfl) rfl rfl rfl ?_
  refine ev_ic f_X12_plans (nx := 231) (v := 1) rfl (by decide) rfl ?_
  refine ev_retK1 f_X12_plans rfl rfl rfl ?_
  refine ev_f f_X12_busiest (t1 := 7) (t2 := 14) rfl rfl rfl (by decide) ?_
  refine ev_ic f_X12_busiest (nx := 15) (v := -1) rfl (by decide) rfl ?_
  refine ev_loc f_X12_busiest (nx := 16) (lo' := [(1, .int (-1)), (0, .ref 69)]) rfl rfl rfl rfl ?_
  refine ev_ic f_X12_busiest (nx := 17) (v := 0) rfl (by decide) rfl ?_
  refine ev_loc f_X12_busiest (nx := 18) (lo' := [(2, .int 0), (1, .int (-1)), (0, .ref 69)]) rfl rfl rfl rfl ?_
  refine ev_ic f_X12_busiest (nx := 19) (v := 0) rfl (by decide) rfl ?_
  refine ev_loc f_X12_busiest (nx := 20) (lo' := [(3, .int 0), (2, .int 0), (1, .int (-1)), (0, .ref 69)]) rfl rfl rfl rfl ?_
  refine ev_loc f_X12_busiest (nx := 21) rfl rfl rfl rfl ?_
  refine ev_sp f_X12_busiest (nx := 24) (v := 240) rfl (by decide) rfl ?_
  refine ev_f f_X12_busiest (t1 := 110) (t2 := 27) rfl rfl rfl (by decide) ?_
  refine ev_ic f_X12_busiest (nx := 28) (v := 0) rfl (by decide) rfl ?_
  refine ev_loc f_X12_busiest (nx := 30) (lo' := [(4, .int 0), (3, .int 0), (2, .int 0), (1, .int (-1)), (0, .ref 69)]) rfl rfl rfl rfl ?_
  refine ev_ic f_X12_busiest (nx := 31) (v := 0) rfl (by decide) rfl ?_
  refine ev_loc f_X12_busiest (nx := 33) (lo' := [(5, .int 0), (4, .int 0), (3, .int 0), (2, .int 0), (1, .int (-1)), (0, .ref 69)]) rfl rfl rfl rfl ?_
  refine ev_loc f_X12_busiest (nx := 35) rfl rfl rfl rfl ?_
  refine ev_loc f_X12_busiest (nx := 36) rfl rfl rfl rfl ?_
  refine ev_gvI f_X12_busiest (nx := 39) (w := 0) rfl (hW.s rfl) rfl rfl rfl rfl ?_
  refine ev_t f_X12_busiest (t1 := 90) (t2 := 42) rfl rfl rfl (by decide) ?_
  refine ev_loc f_X12_busiest (nx := 92) rfl rfl rfl rfl ?_
  refine ev_loc f_X12_busiest (nx := 93) rfl rfl rfl rfl ?_
  refine ev_f f_X12_busiest (t1 := 99) (t2 := 96) rfl rfl rfl (by decide) ?_
  refine ev_jmp f_X12_busiest (nx := 104) rfl rfl rfl ?_
  refine ev_incv f_X12_busiest (nx := 107) (c := 1) (w := 1) (lo' := [(3, .int 1), (5, .int 0), (4, .int 0), (2, .int 0), (1, .int (-1)), (0, .ref 69)]) rfl rfl (by decide) (by decide) rfl rfl rfl ?_
  refine ev_jmp f_X12_busiest (nx := 20) rfl rfl rfl ?_
  refine l_mb hW rfl ?_ 240 1 (by decide)
  refine ev_loc f_X12_busiest (nx := 111) rfl rfl rfl rfl ?_
  refine ev_loc f_X12_busiest (nx := 112) rfl rfl rfl rfl ?_
  refine ev_inV2 f_X12_busiest (nx := 115) (lo2 := [(0, .ref 69), (1, .int (-1))]) rfl rfl rfl rfl f_X12_orNone (hW.s rfl) rfl rfl rfl rfl rfl ?_
  refine ev_loc f_X12_orNone (nx := 1) rfl rfl rfl rfl ?_
  refine ev_ic f_X12_orNone (nx := 2) (v := -1) rfl (by decide) rfl ?_
  refine ev_t f_X12_orNone (t1 := 5) (t2 := 14) rfl rfl rfl (by decide) ?_
  refine ev_loc f_X12_orNone (nx := 6) rfl rfl rfl rfl ?_
  refine ev_bp f_X12_orNone (nx := 8) (v := 6) rfl (by decide) rfl ?_
  refine ev_inV2 f_X12_orNone (nx := 11) (lo2 := [(0, .ref 69), (1, .int 6)]) rfl rfl rfl rfl f_X12_refuse (hW.s rfl) rfl rfl rfl rfl rfl ?_
  refine ev_loc f_X12_refuse (nx := 1) rfl rfl rfl rfl ?_
  refine ev_loc f_X12_refuse (nx := 2) rfl rfl rfl rfl ?_
  refine ev_putI f_X12_refuse (nx := 5) rfl (hW.s rfl) rfl rfl rfl ?_
  refine ev_ic f_X12_refuse (nx := 6) (v := -1) rfl (by decide) rfl ?_
  refine ev_retK1 f_X12_refuse rfl rfl rfl ?_
  refine ev_jmp f_X12_orNone (nx := 19) rfl rfl rfl ?_
  refine ev_retK1 f_X12_orNone rfl rfl rfl ?_
  refine ev_retK1 f_X12_busiest rfl rfl rfl ?_
  refine ev_t f_L_law (t1 := 1628) (t2 := 1488) rfl rfl rfl (by decide) ?_
  refine ev_incv f_L_law (nx := 1631) (c := 6) (w := 6) (lo' := [(3, .int 6), (2, .ref 69), (1, .ref 0), (0, .retAddr 30)]) rfl rfl (by decide) (by decide) rfl rfl rfl ?_
  refine ev_jmp f_L_law (nx := 18) rfl rfl rfl ?_
  refine ev_loc f_L_law (nx := 19) rfl rfl rfl rfl ?_
  refine ev_loc f_L_law (nx := 20) rfl rfl rfl rfl ?_
  refine ev_alenX f_L_law (nx := 21) rfl hX rfl ?_
  refine ev_bp f_L_law (nx := 23) (v := 6) rfl (by decide) rfl ?_
  refine ev_aluvI f_L_law (nx := 24) (w := 0) rfl rfl rfl (by decide) rfl ?_
  refine ev_t f_L_law (t1 := 1634) (t2 := 27) rfl rfl rfl (by decide) ?_
  refine ev_ic f_L_law (nx := 1635) (v := 1) rfl (by decide) rfl ?_
  refine ev_ret f_L_law rfl rfl rfl ?_
  exact ⟨rfl, hz⟩
end XC
