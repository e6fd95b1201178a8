/-! ===== printed by gen65.py: calls walked in place ===== -/
section XC
variable {X : x_Ext} {sh : List (Nat ⊕ (Nat × Nat))} {gi : Nat → Nat → Int32} {gl : Nat → Nat → Int64} {gr : Nat → Nat → Value}
set_option maxRecDepth 20000 in
theorem pc_31 (hR : x_R W1 (sh, gi, gl, gr)) (hX : X.1 = 6) : x_Ev X 1000 n_L_law 1254 [(3, .int 0), (2, .ref 69), (1, .ref 0), (0, .retAddr 30)] [] (sh, gi, gl, gr) x_P1 := by
  have hW := W1_WF hR
  have hz := W1_hz hR
  refine ev_loc f_L_law (nx := 1255) rfl rfl rfl rfl ?_
  refine ev_inV1 f_L_law (nx := 1258) (lo2 := [(0, .ref 0)]) rfl rfl rfl rfl f_X11_least (hW.s rfl) rfl rfl rfl rfl rfl ?_
  refine ev_loc f_X11_least (nx := 1) rfl rfl rfl rfl ?_
  refine ev_loc f_X11_least (nx := 2) rfl rfl rfl rfl ?_
  refine ev_inV1 f_X11_least (nx := 5) (lo2 := [(0, .ref 0)]) rfl rfl rfl rfl f_X11_leastAsTold (hW.s rfl) rfl rfl rfl rfl rfl ?_
  refine ev_loc f_X11_leastAsTold (nx := 1) rfl rfl rfl rfl ?_
  refine ev_getR f_X11_leastAsTold (nx := 4) rfl (hW.s rfl) rfl rfl (hW.r rfl) rfl rfl ?_
  refine ev_loc f_X11_leastAsTold (nx := 5) rfl rfl rfl rfl ?_
  refine ev_getR f_X11_leastAsTold (nx := 8) rfl (hW.s rfl) rfl rfl (wr_0_6 (gr := gr) hR) rfl rfl ?_
  refine ev_inV2 f_X11_leastAsTold (nx := 11) (lo2 := [(0, .ref 28), (1, .ref 3)]) rfl rfl rfl rfl f_X1_takeAll (hW.s rfl) rfl rfl rfl rfl rfl ?_
  refine ev_loc f_X1_takeAll (nx := 1) rfl rfl rfl rfl ?_
  refine ev_loc f_X1_takeAll (nx := 2) rfl rfl rfl rfl ?_
  refine ev_putR f_X1_takeAll (nx := 5) rfl (hW.s rfl) rfl rfl rfl rfl ?_
  replace hW := x_WF_up hW (k := 28) (j := 0) (v := .ref 3) rfl
  refine ev_loc f_X1_takeAll (nx := 6) rfl rfl rfl rfl ?_
  refine ev_loc f_X1_takeAll (nx := 7) rfl rfl rfl rfl ?_
  refine ev_gvI f_X1_takeAll (nx := 10) (w := 5) rfl (hW.s rfl) rfl rfl (wi_3_3 (gi := gi) hR) rfl ?_
  refine ev_putI f_X1_takeAll (nx := 13) rfl (hW.s rfl) rfl rfl rfl ?_
  refine ev_loc f_X1_takeAll (nx := 14) rfl rfl rfl rfl ?_
  refine ev_loc f_X1_takeAll (nx := 15) rfl rfl rfl rfl ?_
  refine ev_ic f_X1_takeAll (nx := 16) (v := 0) rfl (by decide) rfl ?_
  refine ev_ic f_X1_takeAll (nx := 17) (v := -1) rfl (by decide) rfl ?_
  refine ev_ic f_X1_takeAll (nx := 18) (v := 0) rfl (by decide) rfl ?_
  refine ev_inV5 f_X1_takeAll (nx := 21) (lo2 := [(0, .ref 28), (1, .ref 3), (2, .int 0), (3, .int (-1)), (4, .int 0)]) rfl rfl rfl rfl f_X1_takeShips (hW.s rfl) rfl rfl rfl rfl rfl ?_
  refine ev_loc f_X1_takeShips (nx := 1) rfl rfl rfl rfl ?_
  refine ev_getR f_X1_takeShips (nx := 4) rfl (hW.s rfl) rfl rfl (hW.r rfl) rfl rfl ?_
  refine ev_inV1 f_X1_takeShips (nx := 7) (lo2 := [(0, .ref 29)]) rfl rfl rfl rfl f_X4_clear (hW.s rfl) rfl rfl rfl rfl rfl ?_
  refine ev_loc f_X4_clear (nx := 1) rfl rfl rfl rfl ?_
  refine ev_ic f_X4_clear (nx := 2) (v := 0) rfl (by decide) rfl ?_
  refine ev_putI f_X4_clear (nx := 5) rfl (hW.s rfl) rfl rfl rfl ?_
  refine ev_retK0 f_X4_clear rfl rfl rfl ?_
  refine ev_ic f_X1_takeShips (nx := 8) (v := 0) rfl (by decide) rfl ?_
  refine ev_loc f_X1_takeShips (nx := 10) (lo' := [(5, .int 0), (0, .ref 28), (1, .ref 3), (2, .int 0), (3, .int (-1)), (4, .int 0)]) rfl rfl rfl rfl ?_
  refine ev_loc f_X1_takeShips (nx := 12) rfl rfl rfl rfl ?_
  refine ev_loc f_X1_takeShips (nx := 13) rfl rfl rfl rfl ?_
  refine ev_getR f_X1_takeShips (nx := 16) rfl (hW.s rfl) rfl rfl (hW.r rfl) rfl rfl ?_
  refine ev_gvI f_X1_takeShips (nx := 19) (w := 0) rfl (hW.s rfl) rfl rfl (wi_6_0 (gi := gi) hR) rfl ?_
  refine ev_t f_X1_takeShips (t1 := 77) (t2 := 22) rfl rfl rfl (by decide) ?_
  refine ev_retK0 f_X1_takeShips rfl rfl rfl ?_
  refine ev_loc f_X1_takeAll (nx := 22) rfl rfl rfl rfl ?_
  refine ev_loc f_X1_takeAll (nx := 23) rfl rfl rfl rfl ?_
  refine ev_ic f_X1_takeAll (nx := 24) (v := -1) rfl (by decide) rfl ?_
  refine ev_inV3 f_X1_takeAll (nx := 27) (lo2 := [(0, .ref 28), (1, .ref 3), (2, .int (-1))]) rfl rfl rfl rfl f_X1_takeCarts (hW.s rfl) rfl rfl rfl rfl rfl ?_
  refine ev_loc f_X1_takeCarts (nx := 1) rfl rfl rfl rfl ?_
  refine ev_getR f_X1_takeCarts (nx := 4) rfl (hW.s rfl) rfl rfl (hW.r rfl) rfl rfl ?_
  refine ev_inV1 f_X1_takeCarts (nx := 7) (lo2 := [(0, .ref 35)]) rfl rfl rfl rfl f_X4_clear (hW.s rfl) rfl rfl rfl rfl rfl ?_
  refine ev_loc f_X4_clear (nx := 1) rfl rfl rfl rfl ?_
  refine ev_ic f_X4_clear (nx := 2) (v := 0) rfl (by decide) rfl ?_
  refine ev_putI f_X4_clear (nx := 5) rfl (hW.s rfl) rfl rfl rfl ?_
  refine ev_retK0 f_X4_clear rfl rfl rfl ?_
  refine ev_ic f_X1_takeCarts (nx := 8) (v := 0) rfl (by decide) rfl ?_
  refine ev_loc f_X1_takeCarts (nx := 9) (lo' := [(3, .int 0), (0, .ref 28), (1, .ref 3), (2, .int (-1))]) rfl rfl rfl rfl ?_
  refine ev_loc f_X1_takeCarts (nx := 10) rfl rfl rfl rfl ?_
  refine ev_loc f_X1_takeCarts (nx := 11) rfl rfl rfl rfl ?_
  refine ev_getR f_X1_takeCarts (nx := 14) rfl (hW.s rfl) rfl rfl (hW.r rfl) rfl rfl ?_
  refine ev_gvI f_X1_takeCarts (nx := 17) (w := 0) rfl (hW.s rfl) rfl rfl (wi_13_0 (gi := gi) hR) rfl ?_
  refine ev_t f_X1_takeCarts (t1 := 52) (t2 := 20) rfl rfl rfl (by decide) ?_
  refine ev_retK0 f_X1_takeCarts rfl rfl rfl ?_
  refine ev_retK0 f_X1_takeAll rfl rfl rfl ?_
  refine ev_loc f_X11_leastAsTold (nx := 12) rfl rfl rfl rfl ?_
  refine ev_getR f_X11_leastAsTold (nx := 15) rfl (hW.s rfl) rfl rfl (hW.r rfl) rfl rfl ?_
  refine ev_inV1 f_X11_leastAsTold (nx := 18) (lo2 := [(0, .ref 28)]) rfl rfl rfl rfl f_X1_leastWaits (hW.s rfl) rfl rfl rfl rfl rfl ?_
  refine ev_loc f_X1_leastWaits (nx := 1) rfl rfl rfl rfl ?_
  refine ev_ldI f_X1_leastWaits (nx := 3) (v := 1000000000) rfl (by decide) rfl ?_
  refine ev_putI f_X1_leastWaits (nx := 6) rfl (hW.s rfl) rfl rfl rfl ?_
  refine ev_loc f_X1_leastWaits (nx := 7) rfl rfl rfl rfl ?_
  refine ev_ic f_X1_leastWaits (nx := 8) (v := 0) rfl (by decide) rfl ?_
  refine ev_putI f_X1_leastWaits (nx := 11) rfl (hW.s rfl) rfl rfl rfl ?_
  refine ev_loc f_X1_leastWaits (nx := 12) rfl rfl rfl rfl ?_
  refine ev_ic f_X1_leastWaits (nx := 13) (v := 0) rfl (by decide) rfl ?_
  refine ev_ic f_X1_leastWaits (nx := 14) (v := 0) rfl (by decide) rfl ?_
  refine ev_ic f_X1_leastWaits (nx := 15) (v := 0) rfl (by decide) rfl ?_
  refine ev_ic f_X1_leastWaits (nx := 16) (v := 0) rfl (by decide) rfl ?_
  refine ev_ic f_X1_leastWaits (nx := 17) (v := 0) rfl (by decide) rfl ?_
  refine ev_inV6 f_X1_leastWaits (nx := 20) (lo2 := [(0, .ref 28), (1, .int 0), (2, .int 0), (3, .int 0), (4, .int 0), (5, .int 0)]) rfl rfl rfl rfl f_X1_search (hW.s rfl) rfl rfl rfl rfl rfl ?_
  refine ev_loc f_X1_search (nx := 2) rfl rfl rfl rfl ?_
  refine ev_loc f_X1_search (nx := 3) rfl rfl rfl rfl ?_
  refine ev_gvI f_X1_search (nx := 6) (w := 1000000000) rfl (hW.s rfl) rfl rfl rfl rfl ?_
  refine ev_f f_X1_search (t1 := 20) (t2 := 9) rfl rfl rfl (by decide) ?_
  refine ev_loc f_X1_search (nx := 10) rfl rfl rfl rfl ?_
  refine ev_gvI f_X1_search (nx := 13) (w := 1000000000) rfl (hW.s rfl) rfl rfl rfl rfl ?_
  refine ev_loc f_X1_search (nx := 14) rfl rfl rfl rfl ?_
  refine ev_gvI f_X1_search (nx := 17) (w := 0) rfl (hW.s rfl) rfl rfl rfl rfl ?_
  refine ev_t f_X1_search (t1 := 21) (t2 := 20) rfl rfl rfl (by decide) ?_
  refine ev_loc f_X1_search (nx := 22) rfl rfl rfl rfl ?_
  refine ev_loc f_X1_search (nx := 23) rfl rfl rfl rfl ?_
  refine ev_getR f_X1_search (nx := 26) rfl (hW.s rfl) rfl rfl (hW.r rfl) rfl rfl ?_
  refine ev_gvI f_X1_search (nx := 29) (w := 0) rfl (hW.s rfl) rfl rfl rfl rfl ?_
  refine ev_f f_X1_search (t1 := 51) (t2 := 32) rfl rfl rfl (by decide) ?_
  refine ev_loc f_X1_search (nx := 34) rfl rfl rfl rfl ?_
  refine ev_loc f_X1_search (nx := 35) rfl rfl rfl rfl ?_
  refine ev_getR f_X1_search (nx := 38) rfl (hW.s rfl) rfl rfl (hW.r rfl) rfl rfl ?_
  refine ev_gvI f_X1_search (nx := 41) (w := 0) rfl (hW.s rfl) rfl rfl rfl rfl ?_
  refine ev_f f_X1_search (t1 := 51) (t2 := 44) rfl rfl rfl (by decide) ?_
  refine ev_loc f_X1_search (nx := 45) rfl rfl rfl rfl ?_
  refine ev_loc f_X1_search (nx := 47) rfl rfl rfl rfl ?_
  refine ev_putI f_X1_search (nx := 50) rfl (hW.s rfl) rfl rfl rfl ?_
  refine ev_retK0 f_X1_search rfl rfl rfl ?_
  refine ev_loc f_X1_leastWaits (nx := 21) rfl rfl rfl rfl ?_
  refine ev_gvI f_X1_leastWaits (nx := 24) (w := 0) rfl (hW.s rfl) rfl rfl rfl rfl ?_
  refine ev_retK1 f_X1_leastWaits rfl rfl rfl ?_
  refine ev_retK1 f_X11_leastAsTold rfl rfl rfl ?_
  refine ev_inV2 f_X11_least (nx := 8) (lo2 := [(0, .ref 0), (1, .int 0)]) rfl rfl rfl rfl f_X11_answerWaits (hW.s rfl) rfl rfl rfl rfl rfl ?_
  refine ev_loc f_X11_answerWaits (nx := 1) rfl rfl rfl rfl ?_
  refine ev_ldW f_X11_answerWaits (nx := 4) (v := 1000000000) rfl (by decide) rfl ?_
  refine ev_t f_X11_answerWaits (t1 := 16) (t2 := 7) rfl rfl rfl (by decide) ?_
  refine ev_loc f_X11_answerWaits (nx := 17) rfl rfl rfl rfl ?_
  refine ev_loc f_X11_answerWaits (nx := 18) rfl rfl rfl rfl ?_
  refine ev_inV2 f_X11_answerWaits (nx := 21) (lo2 := [(0, .ref 0), (1, .int 0)]) rfl rfl rfl rfl f_X11_answer (hW.s rfl) rfl rfl rfl rfl rfl ?_
  refine ev_loc f_X11_answer (nx := 1) rfl rfl rfl rfl ?_
  refine ev_ic f_X11_answer (nx := 2) (v := 0) rfl (by decide) rfl ?_
  refine ev_putI f_X11_answer (nx := 5) rfl (hW.s rfl) rfl rfl rfl ?_
  refine ev_loc f_X11_answer (nx := 6) rfl rfl rfl rfl ?_
  refine ev_retK1 f_X11_answer rfl rfl rfl ?_
  refine ev_retK1 f_X11_answerWaits rfl rfl rfl ?_
  refine ev_retK1 f_X11_least rfl rfl rfl ?_
  refine ev_loc f_L_law (nx := 1259) rfl rfl rfl rfl ?_
  refine ev_inV1 f_L_law (nx := 1262) (lo2 := [(0, .ref 69)]) rfl rfl rfl rfl f_X12_least (hW.s rfl) rfl rfl rfl rfl rfl ?_
  refine ev_loc f_X12_least (nx := 1) rfl rfl rfl rfl ?_
  refine ev_loc f_X12_least (nx := 2) rfl rfl rfl rfl ?_
  refine ev_ic f_X12_least (nx := 3) (v := 0) rfl (by decide) rfl ?_
  refine ev_loc f_X12_least (nx := 4) rfl rfl rfl rfl ?_
  refine ev_getR f_X12_least (nx := 7) rfl (hW.s rfl) rfl rfl (hW.r rfl) rfl rfl ?_
  refine ev_ic f_X12_least (nx := 8) (v := 4) rfl (by decide) rfl ?_
  refine ev_ialdv f_X12_least (nx := 9) (j := 4) (w := 5) rfl (hW.s rfl) (by decide) (by decide) (by decide) (wi_70_4 (gi := gi) hR) rfl ?_
  refine ev_inV3 f_X12_least (nx := 12) (lo2 := [(0, .ref 69), (1, .int 0), (2, .int 5)]) rfl rfl rfl rfl f_X12_leastBy (hW.s rfl) rfl rfl rfl rfl rfl ?_
  refine ev_loc f_X12_leastBy (nx := 1) rfl rfl rfl rfl ?_
  refine ev_inV1 f_X12_leastBy (nx := 4) (lo2 := [(0, .ref 69)]) rfl rfl rfl rfl f_X12_tellsMinutes (hW.s rfl) rfl rfl rfl rfl rfl ?_
  refine ev_ic f_X12_tellsMinutes (nx := 1) (v := 0) rfl (by decide) rfl ?_
  refine ev_loc f_X12_tellsMinutes (nx := 2) (lo' := [(1, .int 0), (0, .ref 69)]) rfl rfl rfl rfl ?_
  refine ev_loc f_X12_tellsMinutes (nx := 3) rfl rfl rfl rfl ?_
  refine ev_bp f_X12_tellsMinutes (nx := 5) (v := 6) rfl (by decide) rfl ?_
  refine ev_f f_X12_tellsMinutes (t1 := 33) (t2 := 8) rfl rfl rfl (by decide) ?_
  refine ev_loc f_X12_tellsMinutes (nx := 9) rfl rfl rfl rfl ?_
  refine ev_getR f_X12_tellsMinutes (nx := 12) rfl (hW.s rfl) rfl rfl (hW.r rfl) rfl rfl ?_
  refine ev_loc f_X12_tellsMinutes (nx := 13) rfl rfl rfl rfl ?_
  refine ev_loc f_X12_tellsMinutes (nx := 14) rfl rfl rfl rfl ?_
  refine ev_getR f_X12_tellsMinutes (nx := 17) rfl (hW.s rfl) rfl rfl (hW.r rfl) rfl rfl ?_
  refine ev_bp f_X12_tellsMinutes (nx := 19) (v := 52) rfl (by decide) rfl ?_
  refine ev_ic f_X12_tellsMinutes (nx := 20) (v := 5) rfl (by decide) rfl ?_
  refine ev_loc f_X12_tellsMinutes (nx := 21) rfl rfl rfl rfl ?_
  refine ev_aluvI f_X12_tellsMinutes (nx := 22) (w := 0) rfl rfl rfl (by decide) rfl ?_
  refine ev_aluvI f_X12_tellsMinutes (nx := 23) (w := 52) rfl rfl rfl (by decide) rfl ?_
  refine ev_ic f_X12_tellsMinutes (nx := 24) (v := 1) rfl (by decide) rfl ?_
  refine ev_aluvI f_X12_tellsMinutes (nx := 25) (w := 53) rfl rfl rfl (by decide) rfl ?_
  refine ev_ialdv f_X12_tellsMinutes (nx := 26) (j := 53) (w := 0) rfl (hW.s rfl) (by decide) (by decide) (by decide) (wi_70_53 (gi := gi) hR) rfl ?_
  refine ev_iastv f_X12_tellsMinutes (nx := 27) (j := 0) rfl (hW.s rfl) (by decide) (by decide) (by decide) rfl ?_
  refine ev_incv f_X12_tellsMinutes (nx := 30) (c := 1) (w := 1) (lo' := [(1, .int 1), (0, .ref 69)]) rfl rfl (by decide) (by decide) rfl rfl rfl ?_
  refine ev_jmp f_X12_tellsMinutes (nx := 2) rfl rfl rfl ?_
  refine ev_loc f_X12_tellsMinutes (nx := 3) rfl rfl rfl rfl ?_
  refine ev_bp f_X12_tellsMinutes (nx := 5) (v := 6) rfl (by decide) rfl ?_
  refine ev_f f_X12_tellsMinutes (t1 := 33) (t2 := 8) rfl rfl rfl (by decide) ?_
  refine ev_loc f_X12_tellsMinutes (nx := 9) rfl rfl rfl rfl ?_
  refine ev_getR f_X12_tellsMinutes (nx := 12) rfl (hW.s rfl) rfl rfl (hW.r rfl) rfl rfl ?_
  refine ev_loc f_X12_tellsMinutes (nx := 13) rfl rfl rfl rfl ?_
  refine ev_loc f_X12_tellsMinutes (nx := 14) rfl rfl rfl rfl ?_
  refine ev_getR f_X12_tellsMinutes (nx := 17) rfl (hW.s rfl) rfl rfl (hW.r rfl) rfl rfl ?_
  refine ev_bp f_X12_tellsMinutes (nx := 19) (v := 52) rfl (by decide) rfl ?_
  refine ev_ic f_X12_tellsMinutes (nx := 20) (v := 5) rfl (by decide) rfl ?_
  refine ev_loc f_X12_tellsMinutes (nx := 21) rfl rfl rfl rfl ?_
  refine ev_aluvI f_X12_tellsMinutes (nx := 22) (w := 5) rfl rfl rfl (by decide) rfl ?_
  refine ev_aluvI f_X12_tellsMinutes (nx := 23) (w := 57) rfl rfl rfl (by decide) rfl ?_
  refine ev_ic f_X12_tellsMinutes (nx := 24) (v := 1) rfl (by decide) rfl ?_
  refine ev_aluvI f_X12_tellsMinutes (nx := 25) (w := 58) rfl rfl rfl (by decide) rfl ?_
  refine ev_ialdv f_X12_tellsMinutes (nx := 26) (j := 58) (w := 0) rfl (hW.s rfl) (by decide) (by decide) (by decide) (wi_70_58 (gi := gi) hR) rfl ?_
  refine ev_iastv f_X12_tellsMinutes (nx := 27) (j := 1) rfl (hW.s rfl) (by decide) (by decide) (by decide) rfl ?_
  refine ev_incv f_X12_tellsMinutes (nx := 30) (c := 1) (w := 2) (lo' := [(1, .int 2), (0, .ref 69)]) rfl rfl (by decide) (by decide) rfl rfl rfl ?_
  refine ev_jmp f_X12_tellsMinutes (nx := 2) rfl rfl rfl ?_
  refine ev_loc f_X12_tellsMinutes (nx := 3) rfl rfl rfl rfl ?_
  refine ev_bp f_X12_tellsMinutes (nx := 5) (v := 6) rfl (by decide) rfl ?_
  refine ev_f f_X12_tellsMinutes (t1 := 33) (t2 := 8) rfl rfl rfl (by decide) ?_
  refine ev_loc f_X12_tellsMinutes (nx := 9) rfl rfl rfl rfl ?_
  refine ev_getR f_X12_tellsMinutes (nx := 12) rfl (hW.s rfl) rfl rfl (hW.r rfl) rfl rfl ?_
  refine ev_loc f_X12_tellsMinutes (nx := 13) rfl rfl rfl rfl ?_
  refine ev_loc f_X12_tellsMinutes (nx := 14) rfl rfl rfl rfl ?_
  refine ev_getR f_X12_tellsMinutes (nx := 17) rfl (hW.s rfl) rfl rfl (hW.r rfl) rfl rfl ?_
  refine ev_bp f_X12_tellsMinutes (nx := 19) (v := 52) rfl (by decide) rfl ?_
  refine ev_ic f_X12_tellsMinutes (nx := 20) (v := 5) rfl (by decide) rfl ?_
  refine ev_loc f_X12_tellsMinutes (nx := 21) rfl rfl rfl rfl ?_
  refine ev_aluvI f_X12_tellsMinutes (nx := 22) (w := 10) rfl rfl rfl (by decide) rfl ?_
  refine ev_aluvI f_X12_tellsMinutes (nx := 23) (w := 62) rfl rfl rfl (by decide) rfl ?_
  refine ev_ic f_X12_tellsMinutes (nx := 24) (v := 1) rfl (by decide) rfl ?_
  refine ev_aluvI f_X12_tellsMinutes (nx := 25) (w := 63) rfl rfl rfl (by decide) rfl ?_
  refine ev_ialdv f_X12_tellsMinutes (nx := 26) (j := 63) (w := 0) rfl (hW.s rfl) (by decide) (by decide) (by decide) (wi_70_63 (gi := gi) hR) rfl ?_
  refine ev_iastv f_X12_tellsMinutes (nx := 27) (j := 2) rfl (hW.s rfl) (by decide) (by decide) (by decide) rfl ?_
  refine ev_incv f_X12_tellsMinutes (nx := 30) (c := 1) (w := 3) (lo' := [(1, .int 3), (0, .ref 69)]) rfl rfl (by decide) (by decide) rfl rfl rfl ?_
  refine ev_jmp f_X12_tellsMinutes (nx := 2) rfl rfl rfl ?_
  refine ev_loc f_X12_tellsMinutes (nx := 3) rfl rfl rfl rfl ?_
  refine ev_bp f_X12_tellsMinutes (nx := 5) (v := 6) rfl (by decide) rfl ?_
  refine ev_f f_X12_tellsMinutes (t1 := 33) (t2 := 8) rfl rfl rfl (by decide) ?_
  refine ev_loc f_X12_tellsMinutes (nx := 9) rfl rfl rfl rfl ?_
  refine ev_getR f_X12_tellsMinutes (nx := 12) rfl (hW.s rfl) rfl rfl (hW.r rfl) rfl rfl ?_
  refine ev_loc f_X12_tellsMinutes (nx := 13) rfl rfl rfl rfl ?_
  refine ev_loc f_X12_tellsMinutes (nx := 14) rfl rfl rfl rfl ?_
  refine ev_getR f_X12_tellsMinutes (nx := 17) rfl (hW.s rfl) rfl rfl (hW.r rfl) rfl rfl ?_
  refine ev_bp f_X12_tellsMinutes (nx := 19) (v := 52) rfl (by decide) rfl ?_
  refine ev_ic f_X12_tellsMinutes (nx := 20) (v := 5) rfl (by decide) rfl ?_
  refine ev_loc f_X12_tellsMinutes (nx := 21) rfl rfl rfl rfl ?_
  refine ev_aluvI f_X12_tellsMinutes (nx := 22) (w := 15) rfl rfl rfl (by decide) rfl ?_
  refine ev_aluvI f_X12_tellsMinutes (nx := 23) (w := 67) rfl rfl rfl (by decide) rfl ?_
  refine ev_ic f_X12_tellsMinutes (nx := 24) (v := 1) rfl (by decide) rfl ?_
  refine ev_aluvI f_X12_tellsMinutes (nx := 25) (w := 68) rfl rfl rfl (by decide) rfl ?_
  refine ev_ialdv f_X12_tellsMinutes (nx := 26) (j := 68) (w := 0) rfl (hW.s rfl) (by decide) (by decide) (by decide) (wi_70_68 (gi := gi) hR) rfl ?_
  refine ev_iastv f_X12_tellsMinutes (nx := 27) (j := 3) rfl (hW.s rfl) (by decide) (by decide) (by decide) rfl ?_
  refine ev_incv f_X12_tellsMinutes (nx := 30) (c := 1) (w := 4) (lo' := [(1, .int 4), (0, .ref 69)]) rfl rfl (by decide) (by decide) rfl rfl rfl ?_
  refine ev_jmp f_X12_tellsMinutes (nx := 2) rfl rfl rfl ?_
  refine ev_loc f_X12_tellsMinutes (nx := 3) rfl rfl rfl rfl ?_
  refine ev_bp f_X12_tellsMinutes (nx := 5) (v := 6) rfl (by decide) rfl ?_
  refine ev_f f_X12_tellsMinutes (t1 := 33) (t2 := 8) rfl rfl rfl (by decide) ?_
  refine ev_loc f_X12_tellsMinutes (nx := 9) rfl rfl rfl rfl ?_
  refine ev_getR f_X12_tellsMinutes (nx := 12) rfl (hW.s rfl) rfl rfl (hW.r rfl) rfl rfl ?_
  refine ev_loc f_X12_tellsMinutes (nx := 13) rfl rfl rfl rfl ?_
  refine ev_loc f_X12_tellsMinutes (nx := 14) rfl rfl rfl rfl ?_
  refine ev_getR f_X12_tellsMinutes (nx := 17) rfl (hW.s rfl) rfl rfl (hW.r rfl) rfl rfl ?_
  refine ev_bp f_X12_tellsMinutes (nx := 19) (v := 52) rfl (by decide) rfl ?_
  refine ev_ic f_X12_tellsMinutes (nx := 20) (v := 5) rfl (by decide) rfl ?_
  refine ev_loc f_X12_tellsMinutes (nx := 21) rfl rfl rfl rfl ?_
  refine ev_aluvI f_X12_tellsMinutes (nx := 22) (w := 20) rfl rfl rfl (by decide) rfl ?_
  refine ev_aluvI f_X12_tellsMinutes (nx := 23) (w := 72) rfl rfl rfl (by decide) rfl ?_
  refine ev_ic f_X12_tellsMinutes (nx := 24) (v := 1) rfl (by decide) rfl ?_
  refine ev_aluvI f_X12_tellsMinutes (nx := 25) (w := 73) rfl rfl rfl (by decide) rfl ?_
  refine ev_ialdv f_X12_tellsMinutes (nx := 26) (j := 73) (w := 0) rfl (hW.s rfl) (by decide) (by decide) (by decide) (wi_70_73 (gi := gi) hR) rfl ?_
  refine ev_iastv f_X12_tellsMinutes (nx := 27) (j := 4) rfl (hW.s rfl) (by decide) (by decide) (by decide) rfl ?_
  refine ev_incv f_X12_tellsMinutes (nx := 30) (c := 1) (w := 5) (lo' := [(1, .int 5), (0, .ref 69)]) rfl rfl (by decide) (by decide) rfl rfl rfl ?_
  refine ev_jmp f_X12_tellsMinutes (nx := 2) rfl rfl rfl ?_
  refine ev_loc f_X12_tellsMinutes (nx := 3) rfl rfl rfl rfl ?_
  refine ev_bp f_X12_tellsMinutes (nx := 5) (v := 6) rfl (by decide) rfl ?_
  refine ev_f f_X12_tellsMinutes (t1 := 33) (t2 := 8) rfl rfl rfl (by decide) ?_
  refine ev_loc f_X12_tellsMinutes (nx := 9) rfl rfl rfl rfl ?_
  refine ev_getR f_X12_tellsMinutes (nx := 12) rfl (hW.s rfl) rfl rfl (hW.r rfl) rfl rfl ?_
  refine ev_loc f_X12_tellsMinutes (nx := 13) rfl rfl rfl rfl ?_
  refine ev_loc f_X12_tellsMinutes (nx := 14) rfl rfl rfl rfl ?_
  refine ev_getR f_X12_tellsMinutes (nx := 17) rfl (hW.s rfl) rfl rfl (hW.r rfl) rfl rfl ?_
  refine ev_bp f_X12_tellsMinutes (nx := 19) (v := 52) rfl (by decide) rfl ?_
  refine ev_ic f_X12_tellsMinutes (nx := 20) (v := 5) rfl (by decide) rfl ?_
  refine ev_loc f_X12_tellsMinutes (nx := 21) rfl rfl rfl rfl ?_
  refine ev_aluvI f_X12_tellsMinutes (nx := 22) (w := 25) rfl rfl rfl (by decide) rfl ?_
  refine ev_aluvI f_X12_tellsMinutes (nx := 23) (w := 77) rfl rfl rfl (by decide) rfl ?_
  refine ev_ic f_X12_tellsMinutes (nx := 24) (v := 1) rfl (by decide) rfl ?_
  refine ev_aluvI f_X12_tellsMinutes (nx := 25) (w := 78) rfl rfl rfl (by decide) rfl ?_
  refine ev_ialdv f_X12_tellsMinutes (nx := 26) (j := 78) (w := 0) rfl (hW.s rfl) (by decide) (by decide) (by decide) (wi_70_78 (gi := gi) hR) rfl ?_
  refine ev_iastv f_X12_tellsMinutes (nx := 27) (j := 5) rfl (hW.s rfl) (by decide) (by decide) (by decide) rfl ?_
  refine ev_incv f_X12_tellsMinutes (nx := 30) (c := 1) (w := 6) (lo' := [(1, .int 6), (0, .ref 69)]) rfl rfl (by decide) (by decide) rfl rfl rfl ?_
  refine ev_jmp f_X12_tellsMinutes (nx := 2) rfl rfl rfl ?_
  refine ev_loc f_X12_tellsMinutes (nx := 3) rfl rfl rfl rfl ?_
  refine ev_bp f_X12_tellsMinutes (nx := 5) (v := 6) rfl (by decide) rfl ?_
  refine ev_t f_X12_tellsMinutes (t1 := 33) (t2 := 8) rfl rfl rfl (by decide) ?_
  refine ev_ic f_X12_tellsMinutes (nx := 34) (v := 0) rfl (by decide) rfl ?_
  refine ev_loc f_X12_tellsMinutes (nx := 35) (lo' := [(1, .int 0), (0, .ref 69)]) rfl rfl rfl rfl ?_
  refine ev_loc f_X12_tellsMinutes (nx := 36) rfl rfl rfl rfl ?_
  refine ev_bp f_X12_tellsMinutes (nx := 38) (v := 6) rfl (by decide) rfl ?_
  refine ev_f f_X12_tellsMinutes (t1 := 67) (t2 := 41) rfl rfl rfl (by decide) ?_
  refine ev_loc f_X12_tellsMinutes (nx := 42) rfl rfl rfl rfl ?_
  refine ev_getR f_X12_tellsMinutes (nx := 45) rfl (hW.s rfl) rfl rfl (hW.r rfl) rfl rfl ?_
  refine ev_bp f_X12_tellsMinutes (nx := 47) (v := 6) rfl (by decide) rfl ?_
  refine ev_loc f_X12_tellsMinutes (nx := 48) rfl rfl rfl rfl ?_
  refine ev_aluvI f_X12_tellsMinutes (nx := 49) (w := 6) rfl rfl rfl (by decide) rfl ?_
  refine ev_loc f_X12_tellsMinutes (nx := 50) rfl rfl rfl rfl ?_
  refine ev_getR f_X12_tellsMinutes (nx := 53) rfl (hW.s rfl) rfl rfl (hW.r rfl) rfl rfl ?_
  refine ev_bp f_X12_tellsMinutes (nx := 55) (v := 82) rfl (by decide) rfl ?_
  refine ev_ic f_X12_tellsMinutes (nx := 56) (v := 3) rfl (by decide) rfl ?_
  refine ev_loc f_X12_tellsMinutes (nx := 57) rfl rfl rfl rfl ?_
  refine ev_aluvI f_X12_tellsMinutes (nx := 58) (w := 0) rfl rfl rfl (by decide) rfl ?_
  refine ev_aluvI f_X12_tellsMinutes (nx := 59) (w := 82) rfl rfl rfl (by decide) rfl ?_
  refine ev_ialdv f_X12_tellsMinutes (nx := 60) (j := 82) (w := 0) rfl (hW.s rfl) (by decide) (by decide) (by decide) (wi_70_82 (gi := gi) hR) rfl ?_
  refine ev_iastv f_X12_tellsMinutes (nx := 61) (j := 6) rfl (hW.s rfl) (by decide) (by decide) (by decide) rfl ?_
  refine ev_incv f_X12_tellsMinutes (nx := 64) (c := 1) (w := 1) (lo' := [(1, .int 1), (0, .ref 69)]) rfl rfl (by decide) (by decide) rfl rfl rfl ?_
  refine ev_jmp f_X12_tellsMinutes (nx := 35) rfl rfl rfl ?_
  refine ev_loc f_X12_tellsMinutes (nx := 36) rfl rfl rfl rfl ?_
  refine ev_bp f_X12_tellsMinutes (nx := 38) (v := 6) rfl (by decide) rfl ?_
  refine ev_f f_X12_tellsMinutes (t1 := 67) (t2 := 41) rfl rfl rfl (by decide) ?_
  refine ev_loc f_X12_tellsMinutes (nx := 42) rfl rfl rfl rfl ?_
  refine ev_getR f_X12_tellsMinutes (nx := 45) rfl (hW.s rfl) rfl rfl (hW.r rfl) rfl rfl ?_
  refine ev_bp f_X12_tellsMinutes (nx := 47) (v := 6) rfl (by decide) rfl ?_
  refine ev_loc f_X12_tellsMinutes (nx := 48) rfl rfl rfl rfl ?_
  refine ev_aluvI f_X12_tellsMinutes (nx := 49) (w := 7) rfl rfl rfl (by decide) rfl ?_
  refine ev_loc f_X12_tellsMinutes (nx := 50) rfl rfl rfl rfl ?_
  refine ev_getR f_X12_tellsMinutes (nx := 53) rfl (hW.s rfl) rfl rfl (hW.r rfl) rfl rfl ?_
  refine ev_bp f_X12_tellsMinutes (nx := 55) (v := 82) rfl (by decide) rfl ?_
  refine ev_ic f_X12_tellsMinutes (nx := 56) (v := 3) rfl (by decide) rfl ?_
  refine ev_loc f_X12_tellsMinutes (nx := 57) rfl rfl rfl rfl ?_
  refine ev_aluvI f_X12_tellsMinutes (nx := 58) (w := 3) rfl rfl rfl (by decide) rfl ?_
  refine ev_aluvI f_X12_tellsMinutes (nx := 59) (w := 85) rfl rfl rfl (by decide) rfl ?_
  refine ev_ialdv f_X12_tellsMinutes (nx := 60) (j := 85) (w := 0) rfl (hW.s rfl) (by decide) (by decide) (by decide) (wi_70_85 (gi := gi) hR) rfl ?_
  refine ev_iastv f_X12_tellsMinutes (nx := 61) (j := 7) rfl (hW.s rfl) (by decide) (by decide) (by decide) rfl ?_
  refine ev_incv f_X12_tellsMinutes (nx := 64) (c := 1) (w := 2) (lo' := [(1, .int 2), (0, .ref 69)]) rfl rfl (by decide) (by decide) rfl rfl rfl ?_
  refine ev_jmp f_X12_tellsMinutes (nx := 35) rfl rfl rfl ?_
  refine ev_loc f_X12_tellsMinutes (nx := 36) rfl rfl rfl rfl ?_
  refine ev_bp f_X12_tellsMinutes (nx := 38) (v := 6) rfl (by decide) rfl ?_
  refine ev_f f_X12_tellsMinutes (t1 := 67) (t2 := 41) rfl rfl rfl (by decide) ?_
  refine ev_loc f_X12_tellsMinutes (nx := 42) rfl rfl rfl rfl ?_
  refine ev_getR f_X12_tellsMinutes (nx := 45) rfl (hW.s rfl) rfl rfl (hW.r rfl) rfl rfl ?_
  refine ev_bp f_X12_tellsMinutes (nx := 47) (v := 6) rfl (by decide) rfl ?_
  refine ev_loc f_X12_tellsMinutes (nx := 48) rfl rfl rfl rfl ?_
  refine ev_aluvI f_X12_tellsMinutes (nx := 49) (w := 8) rfl rfl rfl (by decide) rfl ?_
  refine ev_loc f_X12_tellsMinutes (nx := 50) rfl rfl rfl rfl ?_
  refine ev_getR f_X12_tellsMinutes (nx := 53) rfl (hW.s rfl) rfl rfl (hW.r rfl) rfl rfl ?_
  refine ev_bp f_X12_tellsMinutes (nx := 55) (v := 82) rfl (by decide) rfl ?_
  refine ev_ic f_X12_tellsMinutes (nx := 56) (v := 3) rfl (by decide) rfl ?_
  refine ev_loc f_X12_tellsMinutes (nx := 57) rfl rfl rfl rfl ?_
  refine ev_aluvI f_X12_tellsMinutes (nx := 58) (w := 6) rfl rfl rfl (by decide) rfl ?_
  refine ev_aluvI f_X12_tellsMinutes (nx := 59) (w := 88) rfl rfl rfl (by decide) rfl ?_
  refine ev_ialdv f_X12_tellsMinutes (nx := 60) (j := 88) (w := 0) rfl (hW.s rfl) (by decide) (by decide) (by decide) (wi_70_88 (gi := gi) hR) rfl ?_
  refine ev_iastv f_X12_tellsMinutes (nx := 61) (j := 8) rfl (hW.s rfl) (by decide) (by decide) (by decide) rfl ?_
  refine ev_incv f_X12_tellsMinutes (nx := 64) (c := 1) (w := 3) (lo' := [(1, .int 3), (0, .ref 69)]) rfl rfl (by decide) (by decide) rfl rfl rfl ?_
  refine ev_jmp f_X12_tellsMinutes (nx := 35) rfl rfl rfl ?_
  refine ev_loc f_X12_tellsMinutes (nx := 36) rfl rfl rfl rfl ?_
  refine ev_bp f_X12_tellsMinutes (nx := 38) (v := 6) rfl (by decide) rfl ?_
  refine ev_f f_X12_tellsMinutes (t1 := 67) (t2 := 41) rfl rfl rfl (by decide) ?_
  refine ev_loc f_X12_tellsMinutes (nx := 42) rfl rfl rfl rfl ?_
  refine ev_getR f_X12_tellsMinutes (nx := 45) rfl (hW.s rfl) rfl rfl (hW.r rfl) rfl rfl ?_
  refine ev_bp f_X12_tellsMinutes (nx := 47) (v := 6) rfl (by decide) rfl ?_
  refine ev_loc f_X12_tellsMinutes (nx := 48) rfl rfl rfl rfl ?_
  refine ev_aluvI f_X12_tellsMinutes (nx := 49) (w := 9) rfl rfl rfl (by decide) rfl ?_
  refine ev_loc f_X12_tellsMinutes (nx := 50) rfl rfl rfl rfl ?_
  refine ev_getR f_X12_tellsMinutes (nx := 53) rfl (hW.s rfl) rfl rfl (hW.r rfl) rfl rfl ?_
  refine ev_bp f_X12_tellsMinutes (nx := 55) (v := 82) rfl (by decide) rfl ?_
  refine ev_ic f_X12_tellsMinutes (nx := 56) (v := 3) rfl (by decide) rfl ?_
  refine ev_loc f_X12_tellsMinutes (nx := 57) rfl rfl rfl rfl ?_
  refine ev_aluvI f_X12_tellsMinutes (nx := 58) (w := 9) rfl rfl rfl (by decide) rfl ?_
  refine ev_aluvI f_X12_tellsMinutes (nx := 59) (w := 91) rfl rfl rfl (by decide) rfl ?_
  refine ev_ialdv f_X12_tellsMinutes (nx := 60) (j := 91) (w := 0) rfl (hW.s rfl) (by decide) (by decide) (by decide) (wi_70_91 (gi := gi) hR) rfl ?_
  refine ev_iastv f_X12_tellsMinutes (nx := 61) (j := 9) rfl (hW.s rfl) (by decide) (by decide) (by decide) rfl ?_
  refine ev_incv f_X12_tellsMinutes (nx := 64) (c := 1) (w := 4) (lo' := [(1, .int 4), (0, .ref 69)]) rfl rfl (by decide) (by decide) rfl rfl rfl ?_
  refine ev_jmp f_X12_tellsMinutes (nx := 35) rfl rfl rfl ?_
  refine ev_loc f_X12_tellsMinutes (nx := 36) rfl rfl rfl rfl ?_
  refine ev_bp f_X12_tellsMinutes (nx := 38) (v := 6) rfl (by decide) rfl ?_
  refine ev_f f_X12_tellsMinutes (t1 := 67) (t2 := 41) rfl rfl rfl (by decide) ?_
  refine ev_loc f_X12_tellsMinutes (nx := 42) rfl rfl rfl rfl ?_
  refine ev_getR f_X12_tellsMinutes (nx := 45) rfl (hW.s rfl) rfl rfl (hW.r rfl) rfl rfl ?_
  refine ev_bp f_X12_tellsMinutes (nx := 47) (v := 6) rfl (by decide) rfl ?_
  refine ev_loc f_X12_tellsMinutes (nx := 48) rfl rfl rfl rfl ?_
  refine ev_aluvI f_X12_tellsMinutes (nx := 49) (w := 10) rfl rfl rfl (by decide) rfl ?_
  refine ev_loc f_X12_tellsMinutes (nx := 50) rfl rfl rfl rfl ?_
  refine ev_getR f_X12_tellsMinutes (nx := 53) rfl (hW.s rfl) rfl rfl (hW.r rfl) rfl rfl ?_
  refine ev_bp f_X12_tellsMinutes (nx := 55) (v := 82) rfl (by decide) rfl ?_
  refine ev_ic f_X12_tellsMinutes (nx := 56) (v := 3) rfl (by decide) rfl ?_
  refine ev_loc f_X12_tellsMinutes (nx := 57) rfl rfl rfl rfl ?_
  refine ev_aluvI f_X12_tellsMinutes (nx := 58) (w := 12) rfl rfl rfl (by decide) rfl ?_
  refine ev_aluvI f_X12_tellsMinutes (nx := 59) (w := 94) rfl rfl rfl (by decide) rfl ?_
  refine ev_ialdv f_X12_tellsMinutes (nx := 60) (j := 94) (w := 0) rfl (hW.s rfl) (by decide) (by decide) (by decide) (wi_70_94 (gi := gi) hR) rfl ?_
  refine ev_iastv f_X12_tellsMinutes (nx := 61) (j := 10) rfl (hW.s rfl) (by decide) (by decide) (by decide) rfl ?_
  refine ev_incv f_X12_tellsMinutes (nx := 64) (c := 1) (w := 5) (lo' := [(1, .int 5), (0, .ref 69)]) rfl rfl (by decide) (by decide) rfl rfl rfl ?_
  refine ev_jmp f_X12_tellsMinutes (nx := 35) rfl rfl rfl ?_
  refine ev_loc f_X12_tellsMinutes (nx := 36) rfl rfl rfl rfl ?_
  refine ev_bp f_X12_tellsMinutes (nx := 38) (v := 6) rfl (by decide) rfl ?_
  refine ev_f f_X12_tellsMinutes (t1 := 67) (t2 := 41) rfl rfl rfl (by decide) ?_
  refine ev_loc f_X12_tellsMinutes (nx := 42) rfl rfl rfl rfl ?_
  refine ev_getR f_X12_tellsMinutes (nx := 45) rfl (hW.s rfl) rfl rfl (hW.r rfl) rfl rfl ?_
  refine ev_bp f_X12_tellsMinutes (nx := 47) (v := 6) rfl (by decide) rfl ?_
  refine ev_loc f_X12_tellsMinutes (nx := 48) rfl rfl rfl rfl ?_
  refine ev_aluvI f_X12_tellsMinutes (nx := 49) (w := 11) rfl rfl rfl (by decide) rfl ?_
  refine ev_loc f_X12_tellsMinutes (nx := 50) rfl rfl rfl rfl ?_
  refine ev_getR f_X12_tellsMinutes (nx := 53) rfl (hW.s rfl) rfl rfl (hW.r rfl) rfl rfl ?_
  refine ev_bp f_X12_tellsMinutes (nx := 55) (v := 82) rfl (by decide) rfl ?_
  refine ev_ic f_X12_tellsMinutes (nx := 56) (v := 3) rfl (by decide) rfl ?_
  refine ev_loc f_X12_tellsMinutes (nx := 57) rfl rfl rfl rfl ?_
  refine ev_aluvI f_X12_tellsMinutes (nx := 58) (w := 15) rfl rfl rfl (by decide) rfl ?_
  refine ev_aluvI f_X12_tellsMinutes (nx := 59) (w := 97) rfl rfl rfl (by decide) rfl ?_
  refine ev_ialdv f_X12_tellsMinutes (nx := 60) (j := 97) (w := 0) rfl (hW.s rfl) (by decide) (by decide) (by decide) (wi_70_97 (gi := gi) hR) rfl ?_
  refine ev_iastv f_X12_tellsMinutes (nx := 61) (j := 11) rfl (hW.s rfl) (by decide) (by decide) (by decide) rfl ?_
  refine ev_incv f_X12_tellsMinutes (nx := 64) (c := 1) (w := 6) (lo' := [(1, .int 6), (0, .ref 69)]) rfl rfl (by decide) (by decide) rfl rfl rfl ?_
  refine ev_jmp f_X12_tellsMinutes (nx := 35) rfl rfl rfl ?_
  refine ev_loc f_X12_tellsMinutes (nx := 36) rfl rfl rfl rfl ?_
  refine ev_bp f_X12_tellsMinutes (nx := 38) (v := 6) rfl (by decide) rfl ?_
  refine ev_t f_X12_tellsMinutes (t1 := 67) (t2 := 41) rfl rfl rfl (by decide) ?_
  refine ev_retK0 f_X12_tellsMinutes rfl rfl rfl ?_
  refine ev_loc f_X12_leastBy (nx := 5) rfl rfl rfl rfl ?_
  refine ev_loc f_X12_leastBy (nx := 6) rfl rfl rfl rfl ?_
  refine ev_inV2 f_X12_leastBy (nx := 9) (lo2 := [(0, .ref 69), (1, .int 0)]) rfl rfl rfl rfl f_X12_orders (hW.s rfl) rfl rfl rfl rfl rfl ?_
  refine ev_loc f_X12_orders (nx := 1) rfl rfl rfl rfl ?_
  refine ev_ic f_X12_orders (nx := 2) (v := 0) rfl (by decide) rfl ?_
  refine ev_putI f_X12_orders (nx := 5) rfl (hW.s rfl) rfl rfl rfl ?_
  refine ev_loc f_X12_orders (nx := 6) rfl rfl rfl rfl ?_
  refine ev_ic f_X12_orders (nx := 7) (v := 0) rfl (by decide) rfl ?_
  refine ev_putI f_X12_orders (nx := 10) rfl (hW.s rfl) rfl rfl rfl ?_
  refine ev_ic f_X12_orders (nx := 11) (v := 0) rfl (by decide) rfl ?_
  refine ev_loc f_X12_orders (nx := 12) (lo' := [(2, .int 0), (0, .ref 69), (1, .int 0)]) rfl rfl rfl rfl ?_
  refine ev_loc f_X12_orders (nx := 13) rfl rfl rfl rfl ?_
  refine ev_loc f_X12_orders (nx := 14) rfl rfl rfl rfl ?_
  refine ev_getR f_X12_orders (nx := 17) rfl (hW.s rfl) rfl rfl (hW.r rfl) rfl rfl ?_
  refine ev_ic f_X12_orders (nx := 18) (v := 1) rfl (by decide) rfl ?_
  refine ev_ialdv f_X12_orders (nx := 19) (j := 1) (w := 0) rfl (hW.s rfl) (by decide) (by decide) (by decide) (wi_70_1 (gi := gi) hR) rfl ?_
  refine ev_t f_X12_orders (t1 := 108) (t2 := 22) rfl rfl rfl (by decide) ?_
  refine ev_ic f_X12_orders (nx := 109) (v := 0) rfl (by decide) rfl ?_
  refine ev_loc f_X12_orders (nx := 110) (lo' := [(2, .int 0), (0, .ref 69), (1, .int 0)]) rfl rfl rfl rfl ?_
  refine ev_loc f_X12_orders (nx := 111) rfl rfl rfl rfl ?_
  refine ev_loc f_X12_orders (nx := 112) rfl rfl rfl rfl ?_
  refine ev_getR f_X12_orders (nx := 115) rfl (hW.s rfl) rfl rfl (hW.r rfl) rfl rfl ?_
  refine ev_ic f_X12_orders (nx := 116) (v := 2) rfl (by decide) rfl ?_
  refine ev_ialdv f_X12_orders (nx := 117) (j := 2) (w := 0) rfl (hW.s rfl) (by decide) (by decide) (by decide) (wi_70_2 (gi := gi) hR) rfl ?_
  refine ev_t f_X12_orders (t1 := 211) (t2 := 120) rfl rfl rfl (by decide) ?_
  refine ev_retK0 f_X12_orders rfl rfl rfl ?_
  refine ev_loc f_X12_leastBy (nx := 10) rfl rfl rfl rfl ?_
  refine ev_loc f_X12_leastBy (nx := 11) rfl rfl rfl rfl ?_
  refine ev_putI f_X12_leastBy (nx := 14) rfl (hW.s rfl) rfl rfl rfl ?_
  refine ev_loc f_X12_leastBy (nx := 15) rfl rfl rfl rfl ?_
  refine ev_cM f_X12_leastBy (nx := 18) (st2 := [.int 0]) rfl rfl rfl rfl rfl rfl (l_rk hW rfl rfl (wi_70_5 (gi := gi) hR) (wz_92 (gi := gi) hR)) rfl rfl ?_
  refine ev_retK1 f_X12_leastBy rfl rfl rfl ?_
  refine ev_inV2 f_X12_least (nx := 15) (lo2 := [(0, .ref 69), (1, .int 0)]) rfl rfl rfl rfl f_X12_orNone (hW.s rfl) rfl rfl rfl rfl rfl ?_
  refine ev_loc f_X12_orNone (nx := 1) rfl rfl rfl rfl ?_
  refine ev_ic f_X12_orNone (nx := 2) (v := -1) rfl (by decide) rfl ?_
  refine ev_f f_X12_orNone (t1 := 5) (t2 := 14) rfl rfl rfl (by decide) ?_
  refine ev_loc f_X12_orNone (nx := 15) rfl rfl rfl rfl ?_
  refine ev_loc f_X12_orNone (nx := 16) rfl rfl rfl rfl ?_
  refine ev_inV2 f_X12_orNone (nx := 19) (lo2 := [(0, .ref 69), (1, .int 0)]) rfl rfl rfl rfl f_X12_gives (hW.s rfl) rfl rfl rfl rfl rfl ?_
  refine ev_loc f_X12_gives (nx := 1) rfl rfl rfl rfl ?_
  refine ev_ic f_X12_gives (nx := 2) (v := 0) rfl (by decide) rfl ?_
  refine ev_putI f_X12_gives (nx := 5) rfl (hW.s rfl) rfl rfl rfl ?_
  refine ev_loc f_X12_gives (nx := 6) rfl rfl rfl rfl ?_
  refine ev_retK1 f_X12_gives rfl rfl rfl ?_
  refine ev_retK1 f_X12_orNone rfl rfl rfl ?_
  refine ev_retK1 f_X12_least rfl rfl rfl ?_
  refine ev_t f_L_law (t1 := 1628) (t2 := 1265) rfl rfl rfl (by decide) ?_
  refine ev_incv f_L_law (nx := 1631) (c := 6) (w := 6) (lo' := [(3, .int 6), (2, .ref 69), (1, .ref 0), (0, .retAddr 30)]) rfl rfl (by decide) (by decide) rfl rfl rfl ?_
  refine ev_jmp f_L_law (nx := 18) rfl rfl rfl ?_
  refine ev_loc f_L_law (nx := 19) rfl rfl rfl rfl ?_
  refine ev_loc f_L_law (nx := 20) rfl rfl rfl rfl ?_
  refine ev_alenX f_L_law (nx := 21) rfl hX rfl ?_
  refine ev_bp f_L_law (nx := 23) (v := 6) rfl (by decide) rfl ?_
  refine ev_aluvI f_L_law (nx := 24) (w := 0) rfl rfl rfl (by decide) rfl ?_
  refine ev_t f_L_law (t1 := 1634) (t2 := 27) rfl rfl rfl (by decide) ?_
  refine ev_ic f_L_law (nx := 1635) (v := 1) rfl (by decide) rfl ?_
  refine ev_ret f_L_law rfl rfl rfl ?_
  exact ⟨rfl, hz⟩
set_option maxRecDepth 20000 in
theorem pc_36 (hR : x_R W1 (sh, gi, gl, gr)) (hX : X.1 = 6) : x_Ev X 1000 n_L_law 1359 [(3, .int 0), (2, .ref 69), (1, .ref 0), (0, .retAddr 30)] [] (sh, gi, gl, gr) x_P1 := by
  have hW := W1_WF hR
  have hz := W1_hz hR
  refine ev_loc f_L_law (nx := 1360) rfl rfl rfl rfl ?_
  refine ev_inV1 f_L_law (nx := 1363) (lo2 := [(0, .ref 0)]) rfl rfl rfl rfl f_X11_away (hW.s rfl) rfl rfl rfl rfl rfl ?_
  refine ev_loc f_X11_away (nx := 1) rfl rfl rfl rfl ?_
  refine ev_getR f_X11_away (nx := 4) rfl (hW.s rfl) rfl rfl (hW.r rfl) rfl rfl ?_
  refine ev_loc f_X11_away (nx := 5) rfl rfl rfl rfl ?_
  refine ev_getR f_X11_away (nx := 8) rfl (hW.s rfl) rfl rfl (wr_0_6 (gr := gr) hR) rfl rfl ?_
  refine ev_inV2 f_X11_away (nx := 11) (lo2 := [(0, .ref 28), (1, .ref 3)]) rfl rfl rfl rfl f_X1_takeAll (hW.s rfl) rfl rfl rfl rfl rfl ?_
  refine ev_loc f_X1_takeAll (nx := 1) rfl rfl rfl rfl ?_
  refine ev_loc f_X1_takeAll (nx := 2) rfl rfl rfl rfl ?_
  refine ev_putR f_X1_takeAll (nx := 5) rfl (hW.s rfl) rfl rfl rfl rfl ?_
  replace hW := x_WF_up hW (k := 28) (j := 0) (v := .ref 3) rfl
  refine ev_loc f_X1_takeAll (nx := 6) rfl rfl rfl rfl ?_
  refine ev_loc f_X1_takeAll (nx := 7) rfl rfl rfl rfl ?_
  refine ev_gvI f_X1_takeAll (nx := 10) (w := 5) rfl (hW.s rfl) rfl rfl (wi_3_3 (gi := gi) hR) rfl ?_
  refine ev_putI f_X1_takeAll (nx := 13) rfl (hW.s rfl) rfl rfl rfl ?_
  refine ev_loc f_X1_takeAll (nx := 14) rfl rfl rfl rfl ?_
  refine ev_loc f_X1_takeAll (nx := 15) rfl rfl rfl rfl ?_
  refine ev_ic f_X1_takeAll (nx := 16) (v := 0) rfl (by decide) rfl ?_
  refine ev_ic f_X1_takeAll (nx := 17) (v := -1) rfl (by decide) rfl ?_
  refine ev_ic f_X1_takeAll (nx := 18) (v := 0) rfl (by decide) rfl ?_
  refine ev_inV5 f_X1_takeAll (nx := 21) (lo2 := [(0, .ref 28), (1, .ref 3), (2, .int 0), (3, .int (-1)), (4, .int 0)]) rfl rfl rfl rfl f_X1_takeShips (hW.s rfl) rfl rfl rfl rfl rfl ?_
  refine ev_loc f_X1_takeShips (nx := 1) rfl rfl rfl rfl ?_
  refine ev_getR f_X1_takeShips (nx := 4) rfl (hW.s rfl) rfl rfl (hW.r rfl) rfl rfl ?_
  refine ev_inV1 f_X1_takeShips (nx := 7) (lo2 := [(0, .ref 29)]) rfl rfl rfl rfl f_X4_clear (hW.s rfl) rfl rfl rfl rfl rfl ?_
  refine ev_loc f_X4_clear (nx := 1) rfl rfl rfl rfl ?_
  refine ev_ic f_X4_clear (nx := 2) (v := 0) rfl (by decide) rfl ?_
  refine ev_putI f_X4_clear (nx := 5) rfl (hW.s rfl) rfl rfl rfl ?_
  refine ev_retK0 f_X4_clear rfl rfl rfl ?_
  refine ev_ic f_X1_takeShips (nx := 8) (v := 0) rfl (by decide) rfl ?_
  refine ev_loc f_X1_takeShips (nx := 10) (lo' := [(5, .int 0), (0, .ref 28), (1, .ref 3), (2, .int 0), (3, .int (-1)), (4, .int 0)]) rfl rfl rfl rfl ?_
  refine ev_loc f_X1_takeShips (nx := 12) rfl rfl rfl rfl ?_
  refine ev_loc f_X1_takeShips (nx := 13) rfl rfl rfl rfl ?_
  refine ev_getR f_X1_takeShips (nx := 16) rfl (hW.s rfl) rfl rfl (hW.r rfl) rfl rfl ?_
  refine ev_gvI f_X1_takeShips (nx := 19) (w := 0) rfl (hW.s rfl) rfl rfl (wi_6_0 (gi := gi) hR) rfl ?_
  refine ev_t f_X1_takeShips (t1 := 77) (t2 := 22) rfl rfl rfl (by decide) ?_
  refine ev_retK0 f_X1_takeShips rfl rfl rfl ?_
  refine ev_loc f_X1_takeAll (nx := 22) rfl rfl rfl rfl ?_
  refine ev_loc f_X1_takeAll (nx := 23) rfl rfl rfl rfl ?_
  refine ev_ic f_X1_takeAll (nx := 24) (v := -1) rfl (by decide) rfl ?_
  refine ev_inV3 f_X1_takeAll (nx := 27) (lo2 := [(0, .ref 28), (1, .ref 3), (2, .int (-1))]) rfl rfl rfl rfl f_X1_takeCarts (hW.s rfl) rfl rfl rfl rfl rfl ?_
  refine ev_loc f_X1_takeCarts (nx := 1) rfl rfl rfl rfl ?_
  refine ev_getR f_X1_takeCarts (nx := 4) rfl (hW.s rfl) rfl rfl (hW.r rfl) rfl rfl ?_
  refine ev_inV1 f_X1_takeCarts (nx := 7) (lo2 := [(0, .ref 35)]) rfl rfl rfl rfl f_X4_clear (hW.s rfl) rfl rfl rfl rfl rfl ?_
  refine ev_loc f_X4_clear (nx := 1) rfl rfl rfl rfl ?_
  refine ev_ic f_X4_clear (nx := 2) (v := 0) rfl (by decide) rfl ?_
  refine ev_putI f_X4_clear (nx := 5) rfl (hW.s rfl) rfl rfl rfl ?_
  refine ev_retK0 f_X4_clear rfl rfl rfl ?_
  refine ev_ic f_X1_takeCarts (nx := 8) (v := 0) rfl (by decide) rfl ?_
  refine ev_loc f_X1_takeCarts (nx := 9) (lo' := [(3, .int 0), (0, .ref 28), (1, .ref 3), (2, .int (-1))]) rfl rfl rfl rfl ?_
  refine ev_loc f_X1_takeCarts (nx := 10) rfl rfl rfl rfl ?_
  refine ev_loc f_X1_takeCarts (nx := 11) rfl rfl rfl rfl ?_
  refine ev_getR f_X1_takeCarts (nx := 14) rfl (hW.s rfl) rfl rfl (hW.r rfl) rfl rfl ?_
  refine ev_gvI f_X1_takeCarts (nx := 17) (w := 0) rfl (hW.s rfl) rfl rfl (wi_13_0 (gi := gi) hR) rfl ?_
  refine ev_t f_X1_takeCarts (t1 := 52) (t2 := 20) rfl rfl rfl (by decide) ?_
  refine ev_retK0 f_X1_takeCarts rfl rfl rfl ?_
  refine ev_retK0 f_X1_takeAll rfl rfl rfl ?_
  refine ev_ic f_X11_away (nx := 12) (v := 0) rfl (by decide) rfl ?_
  refine ev_loc f_X11_away (nx := 13) (lo' := [(1, .int 0), (0, .ref 0)]) rfl rfl rfl rfl ?_
  refine ev_loc f_X11_away (nx := 14) rfl rfl rfl rfl ?_
  refine ev_loc f_X11_away (nx := 15) rfl rfl rfl rfl ?_
  refine ev_getR f_X11_away (nx := 18) rfl (hW.s rfl) rfl rfl (wr_0_6 (gr := gr) hR) rfl rfl ?_
  refine ev_getR f_X11_away (nx := 21) rfl (hW.s rfl) rfl rfl (hW.r rfl) rfl rfl ?_
  refine ev_gvI f_X11_away (nx := 24) (w := 0) rfl (hW.s rfl) rfl rfl (wi_6_0 (gi := gi) hR) rfl ?_
  refine ev_f f_X11_away (t1 := 95) (t2 := 27) rfl rfl rfl (by decide) ?_
  refine ev_ic f_X11_away (nx := 28) (v := 0) rfl (by decide) rfl ?_
  refine ev_loc f_X11_away (nx := 29) (lo' := [(2, .int 0), (1, .int 0), (0, .ref 0)]) rfl rfl rfl rfl ?_
  refine ev_loc f_X11_away (nx := 30) rfl rfl rfl rfl ?_
  refine ev_ic f_X11_away (nx := 31) (v := 1) rfl (by decide) rfl ?_
  refine ev_loc f_X11_away (nx := 32) rfl rfl rfl rfl ?_
  refine ev_getR f_X11_away (nx := 35) rfl (hW.s rfl) rfl rfl (wr_0_6 (gr := gr) hR) rfl rfl ?_
  refine ev_getR f_X11_away (nx := 38) rfl (hW.s rfl) rfl rfl (hW.r rfl) rfl rfl ?_
  refine ev_gvI f_X11_away (nx := 41) (w := 0) rfl (hW.s rfl) rfl rfl (wi_6_0 (gi := gi) hR) rfl ?_
  refine ev_aluvI f_X11_away (nx := 42) (w := 1) rfl rfl rfl (by decide) rfl ?_
  refine ev_f f_X11_away (t1 := 89) (t2 := 45) rfl rfl rfl (by decide) ?_
  refine ev_loc f_X11_away (nx := 46) rfl rfl rfl rfl ?_
  refine ev_inS1 f_X11_away (nx := 49) (lo2 := [(0, .int 0)]) rfl rfl rfl rfl f_J6_bitCount_0f7a4 rfl rfl rfl rfl ?_
  refine ev_loc f_J6_bitCount_0f7a4 (nx := 1) rfl rfl rfl rfl ?_
  refine ev_loc f_J6_bitCount_0f7a4 (nx := 2) rfl rfl rfl rfl ?_
  refine ev_ic f_J6_bitCount_0f7a4 (nx := 3) (v := 1) rfl (by decide) rfl ?_
  refine ev_aluvI f_J6_bitCount_0f7a4 (nx := 4) (w := 0) rfl rfl rfl (by decide) rfl ?_
  refine ev_ldW f_J6_bitCount_0f7a4 (nx := 7) (v := 1431655765) rfl (by decide) rfl ?_
  refine ev_aluvI f_J6_bitCount_0f7a4 (nx := 8) (w := 0) rfl rfl rfl (by decide) rfl ?_
  refine ev_aluvI f_J6_bitCount_0f7a4 (nx := 9) (w := 0) rfl rfl rfl (by decide) rfl ?_
  refine ev_loc f_J6_bitCount_0f7a4 (nx := 10) (lo' := [(0, .int 0)]) rfl rfl rfl rfl ?_
  refine ev_loc f_J6_bitCount_0f7a4 (nx := 11) rfl rfl rfl rfl ?_
  refine ev_ldW f_J6_bitCount_0f7a4 (nx := 14) (v := 858993459) rfl (by decide) rfl ?_
  refine ev_aluvI f_J6_bitCount_0f7a4 (nx := 15) (w := 0) rfl rfl rfl (by decide) rfl ?_
  refine ev_loc f_J6_bitCount_0f7a4 (nx := 16) rfl rfl rfl rfl ?_
  refine ev_ic f_J6_bitCount_0f7a4 (nx := 17) (v := 2) rfl (by decide) rfl ?_
  refine ev_aluvI f_J6_bitCount_0f7a4 (nx := 18) (w := 0) rfl rfl rfl (by decide) rfl ?_
  refine ev_ldW f_J6_bitCount_0f7a4 (nx := 21) (v := 858993459) rfl (by decide) rfl ?_
  refine ev_aluvI f_J6_bitCount_0f7a4 (nx := 22) (w := 0) rfl rfl rfl (by decide) rfl ?_
  refine ev_aluvI f_J6_bitCount_0f7a4 (nx := 23) (w := 0) rfl rfl rfl (by decide) rfl ?_
  refine ev_loc f_J6_bitCount_0f7a4 (nx := 24) (lo' := [(0, .int 0)]) rfl rfl rfl rfl ?_
  refine ev_loc f_J6_bitCount_0f7a4 (nx := 25) rfl rfl rfl rfl ?_
  refine ev_loc f_J6_bitCount_0f7a4 (nx := 26) rfl rfl rfl rfl ?_
  refine ev_ic f_J6_bitCount_0f7a4 (nx := 27) (v := 4) rfl (by decide) rfl ?_
  refine ev_aluvI f_J6_bitCount_0f7a4 (nx := 28) (w := 0) rfl rfl rfl (by decide) rfl ?_
  refine ev_aluvI f_J6_bitCount_0f7a4 (nx := 29) (w := 0) rfl rfl rfl (by decide) rfl ?_
  refine ev_ldW f_J6_bitCount_0f7a4 (nx := 32) (v := 252645135) rfl (by decide) rfl ?_
  refine ev_aluvI f_J6_bitCount_0f7a4 (nx := 33) (w := 0) rfl rfl rfl (by decide) rfl ?_
  refine ev_loc f_J6_bitCount_0f7a4 (nx := 34) (lo' := [(0, .int 0)]) rfl rfl rfl rfl ?_
  refine ev_loc f_J6_bitCount_0f7a4 (nx := 35) rfl rfl rfl rfl ?_
  refine ev_loc f_J6_bitCount_0f7a4 (nx := 36) rfl rfl rfl rfl ?_
  refine ev_bp f_J6_bitCount_0f7a4 (nx := 38) (v := 8) rfl (by decide) rfl ?_
  refine ev_aluvI f_J6_bitCount_0f7a4 (nx := 39) (w := 0) rfl rfl rfl (by decide) rfl ?_
  refine ev_aluvI f_J6_bitCount_0f7a4 (nx := 40) (w := 0) rfl rfl rfl (by decide) rfl ?_
  refine ev_loc f_J6_bitCount_0f7a4 (nx := 41) (lo' := [(0, .int 0)]) rfl rfl rfl rfl ?_
  refine ev_loc f_J6_bitCount_0f7a4 (nx := 42) rfl rfl rfl rfl ?_
  refine ev_loc f_J6_bitCount_0f7a4 (nx := 43) rfl rfl rfl rfl ?_
  refine ev_bp f_J6_bitCount_0f7a4 (nx := 45) (v := 16) rfl (by decide) rfl ?_
  refine ev_aluvI f_J6_bitCount_0f7a4 (nx := 46) (w := 0) rfl rfl rfl (by decide) rfl ?_
  refine ev_aluvI f_J6_bitCount_0f7a4 (nx := 47) (w := 0) rfl rfl rfl (by decide) rfl ?_
  refine ev_loc f_J6_bitCount_0f7a4 (nx := 48) (lo' := [(0, .int 0)]) rfl rfl rfl rfl ?_
  refine ev_loc f_J6_bitCount_0f7a4 (nx := 49) rfl rfl rfl rfl ?_
  refine ev_bp f_J6_bitCount_0f7a4 (nx := 51) (v := 63) rfl (by decide) rfl ?_
  refine ev_aluvI f_J6_bitCount_0f7a4 (nx := 52) (w := 0) rfl rfl rfl (by decide) rfl ?_
  refine ev_retK1 f_J6_bitCount_0f7a4 rfl rfl rfl ?_
  refine ev_loc f_X11_away (nx := 50) rfl rfl rfl rfl ?_
  refine ev_t f_X11_away (t1 := 53) (t2 := 83) rfl rfl rfl (by decide) ?_
  refine ev_loc f_X11_away (nx := 54) rfl rfl rfl rfl ?_
  refine ev_getR f_X11_away (nx := 57) rfl (hW.s rfl) rfl rfl (hW.r rfl) rfl rfl ?_
  refine ev_loc f_X11_away (nx := 58) rfl rfl rfl rfl ?_
  refine ev_getR f_X11_away (nx := 61) rfl (hW.s rfl) rfl rfl (wr_0_6 (gr := gr) hR) rfl rfl ?_
  refine ev_loc f_X11_away (nx := 62) rfl rfl rfl rfl ?_
  refine ev_ic f_X11_away (nx := 63) (v := -1) rfl (by decide) rfl ?_
  refine ev_ic f_X11_away (nx := 64) (v := 0) rfl (by decide) rfl ?_
  refine ev_inV5 f_X11_away (nx := 67) (lo2 := [(0, .ref 28), (1, .ref 3), (2, .int 0), (3, .int (-1)), (4, .int 0)]) rfl rfl rfl rfl f_X1_takeShips (hW.s rfl) rfl rfl rfl rfl rfl ?_
  refine ev_loc f_X1_takeShips (nx := 1) rfl rfl rfl rfl ?_
  refine ev_getR f_X1_takeShips (nx := 4) rfl (hW.s rfl) rfl rfl (hW.r rfl) rfl rfl ?_
  refine ev_inV1 f_X1_takeShips (nx := 7) (lo2 := [(0, .ref 29)]) rfl rfl rfl rfl f_X4_clear (hW.s rfl) rfl rfl rfl rfl rfl ?_
  refine ev_loc f_X4_clear (nx := 1) rfl rfl rfl rfl ?_
  refine ev_ic f_X4_clear (nx := 2) (v := 0) rfl (by decide) rfl ?_
  refine ev_putI f_X4_clear (nx := 5) rfl (hW.s rfl) rfl rfl rfl ?_
  refine ev_retK0 f_X4_clear rfl rfl rfl ?_
  refine ev_ic f_X1_takeShips (nx := 8) (v := 0) rfl (by decide) rfl ?_
  refine ev_loc f_X1_takeShips (nx := 10) (lo' := [(5, .int 0), (0, .ref 28), (1, .ref 3), (2, .int 0), (3, .int (-1)), (4, .int 0)]) rfl rfl rfl rfl ?_
  refine ev_loc f_X1_takeShips (nx := 12) rfl rfl rfl rfl ?_
  refine ev_loc f_X1_takeShips (nx := 13) rfl rfl rfl rfl ?_
  refine ev_getR f_X1_takeShips (nx := 16) rfl (hW.s rfl) rfl rfl (hW.r rfl) rfl rfl ?_
  refine ev_gvI f_X1_takeShips (nx := 19) (w := 0) rfl (hW.s rfl) rfl rfl (wi_6_0 (gi := gi) hR) rfl ?_
  refine ev_t f_X1_takeShips (t1 := 77) (t2 := 22) rfl rfl rfl (by decide) ?_
  refine ev_retK0 f_X1_takeShips rfl rfl rfl ?_
  refine ev_loc f_X11_away (nx := 68) rfl rfl rfl rfl ?_
  refine ev_getR f_X11_away (nx := 71) rfl (hW.s rfl) rfl rfl (hW.r rfl) rfl rfl ?_
  refine ev_inV1 f_X11_away (nx := 74) (lo2 := [(0, .ref 28)]) rfl rfl rfl rfl f_X1_allCanPass (hW.s rfl) rfl rfl rfl rfl rfl ?_
  refine ev_loc f_X1_allCanPass (nx := 1) rfl rfl rfl rfl ?_
  refine ev_ic f_X1_allCanPass (nx := 2) (v := 0) rfl (by decide) rfl ?_
  refine ev_ic f_X1_allCanPass (nx := 3) (v := 0) rfl (by decide) rfl ?_
  refine ev_ic f_X1_allCanPass (nx := 4) (v := 0) rfl (by decide) rfl ?_
  refine ev_ic f_X1_allCanPass (nx := 5) (v := 0) rfl (by decide) rfl ?_
  refine ev_ldI f_X1_allCanPass (nx := 7) (v := 999999999) rfl (by decide) rfl ?_
  refine ev_inV6 f_X1_allCanPass (nx := 10) (lo2 := [(0, .ref 28), (1, .int 0), (2, .int 0), (3, .int 0), (4, .int 0), (5, .int 999999999)]) rfl rfl rfl rfl f_X1_canEndWithin (hW.s rfl) rfl rfl rfl rfl rfl ?_
  refine ev_loc f_X1_canEndWithin (nx := 1) rfl rfl rfl rfl ?_
  refine ev_loc f_X1_canEndWithin (nx := 3) rfl rfl rfl rfl ?_
  refine ev_ic f_X1_canEndWithin (nx := 4) (v := 1) rfl (by decide) rfl ?_
  refine ev_aluvI f_X1_canEndWithin (nx := 5) (w := 1000000000) rfl rfl rfl (by decide) rfl ?_
  refine ev_putI f_X1_canEndWithin (nx := 8) rfl (hW.s rfl) rfl rfl rfl ?_
  refine ev_loc f_X1_canEndWithin (nx := 9) rfl rfl rfl rfl ?_
  refine ev_loc f_X1_canEndWithin (nx := 11) rfl rfl rfl rfl ?_
  refine ev_putI f_X1_canEndWithin (nx := 14) rfl (hW.s rfl) rfl rfl rfl ?_
  refine ev_loc f_X1_canEndWithin (nx := 15) rfl rfl rfl rfl ?_
  refine ev_loc f_X1_canEndWithin (nx := 16) rfl rfl rfl rfl ?_
  refine ev_loc f_X1_canEndWithin (nx := 17) rfl rfl rfl rfl ?_
  refine ev_loc f_X1_canEndWithin (nx := 18) rfl rfl rfl rfl ?_
  refine ev_loc f_X1_canEndWithin (nx := 20) rfl rfl rfl rfl ?_
  refine ev_ic f_X1_canEndWithin (nx := 21) (v := 0) rfl (by decide) rfl ?_
  refine ev_inV6 f_X1_canEndWithin (nx := 24) (lo2 := [(0, .ref 28), (1, .int 0), (2, .int 0), (3, .int 0), (4, .int 0), (5, .int 0)]) rfl rfl rfl rfl f_X1_search (hW.s rfl) rfl rfl rfl rfl rfl ?_
  refine ev_loc f_X1_search (nx := 2) rfl rfl rfl rfl ?_
  refine ev_loc f_X1_search (nx := 3) rfl rfl rfl rfl ?_
  refine ev_gvI f_X1_search (nx := 6) (w := 1000000000) rfl (hW.s rfl) rfl rfl rfl rfl ?_
  refine ev_f f_X1_search (t1 := 20) (t2 := 9) rfl rfl rfl (by decide) ?_
  refine ev_loc f_X1_search (nx := 10) rfl rfl rfl rfl ?_
  refine ev_gvI f_X1_search (nx := 13) (w := 1000000000) rfl (hW.s rfl) rfl rfl rfl rfl ?_
  refine ev_loc f_X1_search (nx := 14) rfl rfl rfl rfl ?_
  refine ev_gvI f_X1_search (nx := 17) (w := 999999999) rfl (hW.s rfl) rfl rfl rfl rfl ?_
  refine ev_t f_X1_search (t1 := 21) (t2 := 20) rfl rfl rfl (by decide) ?_
  refine ev_loc f_X1_search (nx := 22) rfl rfl rfl rfl ?_
  refine ev_loc f_X1_search (nx := 23) rfl rfl rfl rfl ?_
  refine ev_getR f_X1_search (nx := 26) rfl (hW.s rfl) rfl rfl (hW.r rfl) rfl rfl ?_
  refine ev_gvI f_X1_search (nx := 29) (w := 0) rfl (hW.s rfl) rfl rfl rfl rfl ?_
  refine ev_f f_X1_search (t1 := 51) (t2 := 32) rfl rfl rfl (by decide) ?_
  refine ev_loc f_X1_search (nx := 34) rfl rfl rfl rfl ?_
  refine ev_loc f_X1_search (nx := 35) rfl rfl rfl rfl ?_
  refine ev_getR f_X1_search (nx := 38) rfl (hW.s rfl) rfl rfl (hW.r rfl) rfl rfl ?_
  refine ev_gvI f_X1_search (nx := 41) (w := 0) rfl (hW.s rfl) rfl rfl rfl rfl ?_
  refine ev_f f_X1_search (t1 := 51) (t2 := 44) rfl rfl rfl (by decide) ?_
  refine ev_loc f_X1_search (nx := 45) rfl rfl rfl rfl ?_
  refine ev_loc f_X1_search (nx := 47) rfl rfl rfl rfl ?_
  refine ev_putI f_X1_search (nx := 50) rfl (hW.s rfl) rfl rfl rfl ?_
  refine ev_retK0 f_X1_search rfl rfl rfl ?_
  refine ev_loc f_X1_canEndWithin (nx := 25) rfl rfl rfl rfl ?_
  refine ev_gvI f_X1_canEndWithin (nx := 28) (w := 0) rfl (hW.s rfl) rfl rfl rfl rfl ?_
  refine ev_loc f_X1_canEndWithin (nx := 30) rfl rfl rfl rfl ?_
  refine ev_f f_X1_canEndWithin (t1 := 37) (t2 := 33) rfl rfl rfl (by decide) ?_
  refine ev_ic f_X1_canEndWithin (nx := 34) (v := 1) rfl (by decide) rfl ?_
  refine ev_jmp f_X1_canEndWithin (nx := 38) rfl rfl rfl ?_
  refine ev_retK1 f_X1_canEndWithin rfl rfl rfl ?_
  refine ev_retK1 f_X1_allCanPass rfl rfl rfl ?_
  refine ev_f f_X11_away (t1 := 83) (t2 := 77) rfl rfl rfl (by decide) ?_
  refine ev_loc f_X11_away (nx := 78) rfl rfl rfl rfl ?_
  refine ev_loc f_X11_away (nx := 79) rfl rfl rfl rfl ?_
  refine ev_inV2 f_X11_away (nx := 82) (lo2 := [(0, .ref 0), (1, .int 0)]) rfl rfl rfl rfl f_X11_answer (hW.s rfl) rfl rfl rfl rfl rfl ?_
  refine ev_loc f_X11_answer (nx := 1) rfl rfl rfl rfl ?_
  refine ev_ic f_X11_answer (nx := 2) (v := 0) rfl (by decide) rfl ?_
  refine ev_putI f_X11_answer (nx := 5) rfl (hW.s rfl) rfl rfl rfl ?_
  refine ev_loc f_X11_answer (nx := 6) rfl rfl rfl rfl ?_
  refine ev_retK1 f_X11_answer rfl rfl rfl ?_
  refine ev_retK1 f_X11_away rfl rfl rfl ?_
  refine ev_loc f_L_law (nx := 1364) rfl rfl rfl rfl ?_
  refine ev_inV1 f_L_law (nx := 1367) (lo2 := [(0, .ref 69)]) rfl rfl rfl rfl f_X12_away (hW.s rfl) rfl rfl rfl rfl rfl ?_
  refine ev_ic f_X12_away (nx := 1) (v := -1) rfl (by decide) rfl ?_
  refine ev_loc f_X12_away (nx := 2) (lo' := [(1, .int (-1)), (0, .ref 69)]) rfl rfl rfl rfl ?_
  refine ev_ic f_X12_away (nx := 3) (v := 0) rfl (by decide) rfl ?_
  refine ev_loc f_X12_away (nx := 4) (lo' := [(2, .int 0), (1, .int (-1)), (0, .ref 69)]) rfl rfl rfl rfl ?_
  refine ev_loc f_X12_away (nx := 5) rfl rfl rfl rfl ?_
  refine ev_ic f_X12_away (nx := 6) (v := 1) rfl (by decide) rfl ?_
  refine ev_loc f_X12_away (nx := 7) rfl rfl rfl rfl ?_
  refine ev_getR f_X12_away (nx := 10) rfl (hW.s rfl) rfl rfl (hW.r rfl) rfl rfl ?_
  refine ev_ic f_X12_away (nx := 11) (v := 1) rfl (by decide) rfl ?_
  refine ev_ialdv f_X12_away (nx := 12) (j := 1) (w := 0) rfl (hW.s rfl) (by decide) (by decide) (by decide) (wi_70_1 (gi := gi) hR) rfl ?_
  refine ev_aluvI f_X12_away (nx := 13) (w := 1) rfl rfl rfl (by decide) rfl ?_
  refine ev_f f_X12_away (t1 := 57) (t2 := 16) rfl rfl rfl (by decide) ?_
  refine ev_loc f_X12_away (nx := 17) rfl rfl rfl rfl ?_
  refine ev_ic f_X12_away (nx := 18) (v := -1) rfl (by decide) rfl ?_
  refine ev_t f_X12_away (t1 := 34) (t2 := 21) rfl rfl rfl (by decide) ?_
  refine ev_loc f_X12_away (nx := 35) rfl rfl rfl rfl ?_
  refine ev_loc f_X12_away (nx := 36) rfl rfl rfl rfl ?_
  refine ev_loc f_X12_away (nx := 37) rfl rfl rfl rfl ?_
  refine ev_getR f_X12_away (nx := 40) rfl (hW.s rfl) rfl rfl (hW.r rfl) rfl rfl ?_
  refine ev_ic f_X12_away (nx := 41) (v := 4) rfl (by decide) rfl ?_
  refine ev_ialdv f_X12_away (nx := 42) (j := 4) (w := 5) rfl (hW.s rfl) (by decide) (by decide) (by decide) (wi_70_4 (gi := gi) hR) rfl ?_
  refine ev_inV3 f_X12_away (nx := 45) (lo2 := [(0, .ref 69), (1, .int 0), (2, .int 5)]) rfl rfl rfl rfl f_X12_leastBy (hW.s rfl) rfl rfl rfl rfl rfl ?_
  refine ev_loc f_X12_leastBy (nx := 1) rfl rfl rfl rfl ?_
  refine ev_inV1 f_X12_leastBy (nx := 4) (lo2 := [(0, .ref 69)]) rfl rfl rfl rfl f_X12_tellsMinutes (hW.s rfl) rfl rfl rfl rfl rfl ?_
  refine ev_ic f_X12_tellsMinutes (nx := 1) (v := 0) rfl (by decide) rfl ?_
  refine ev_loc f_X12_tellsMinutes (nx := 2) (lo' := [(1, .int 0), (0, .ref 69)]) rfl rfl rfl rfl ?_
  refine ev_loc f_X12_tellsMinutes (nx := 3) rfl rfl rfl rfl ?_
  refine ev_bp f_X12_tellsMinutes (nx := 5) (v := 6) rfl (by decide) rfl ?_
  refine ev_f f_X12_tellsMinutes (t1 := 33) (t2 := 8) rfl rfl rfl (by decide) ?_
  refine ev_loc f_X12_tellsMinutes (nx := 9) rfl rfl rfl rfl ?_
  refine ev_getR f_X12_tellsMinutes (nx := 12) rfl (hW.s rfl) rfl rfl (hW.r rfl) rfl rfl ?_
  refine ev_loc f_X12_tellsMinutes (nx := 13) rfl rfl rfl rfl ?_
  refine ev_loc f_X12_tellsMinutes (nx := 14) rfl rfl rfl rfl ?_
  refine ev_getR f_X12_tellsMinutes (nx := 17) rfl (hW.s rfl) rfl rfl (hW.r rfl) rfl rfl ?_
  refine ev_bp f_X12_tellsMinutes (nx := 19) (v := 52) rfl (by decide) rfl ?_
  refine ev_ic f_X12_tellsMinutes (nx := 20) (v := 5) rfl (by decide) rfl ?_
  refine ev_loc f_X12_tellsMinutes (nx := 21) rfl rfl rfl rfl ?_
  refine ev_aluvI f_X12_tellsMinutes (nx := 22) (w := 0) rfl rfl rfl (by decide) rfl ?_
  refine ev_aluvI f_X12_tellsMinutes (nx := 23) (w := 52) rfl rfl rfl (by decide) rfl ?_
  refine ev_ic f_X12_tellsMinutes (nx := 24) (v := 1) rfl (by decide) rfl ?_
  refine ev_aluvI f_X12_tellsMinutes (nx := 25) (w := 53) rfl rfl rfl (by decide) rfl ?_
  refine ev_ialdv f_X12_tellsMinutes (nx := 26) (j := 53) (w := 0) rfl (hW.s rfl) (by decide) (by decide) (by decide) (wi_70_53 (gi := gi) hR) rfl ?_
  refine ev_iastv f_X12_tellsMinutes (nx := 27) (j := 0) rfl (hW.s rfl) (by decide) (by decide) (by decide) rfl ?_
  refine ev_incv f_X12_tellsMinutes (nx := 30) (c := 1) (w := 1) (lo' := [(1, .int 1), (0, .ref 69)]) rfl rfl (by decide) (by decide) rfl rfl rfl ?_
  refine ev_jmp f_X12_tellsMinutes (nx := 2) rfl rfl rfl ?_
  refine ev_loc f_X12_tellsMinutes (nx := 3) rfl rfl rfl rfl ?_
  refine ev_bp f_X12_tellsMinutes (nx := 5) (v := 6) rfl (by decide) rfl ?_
  refine ev_f f_X12_tellsMinutes (t1 := 33) (t2 := 8) rfl rfl rfl (by decide) ?_
  refine ev_loc f_X12_tellsMinutes (nx := 9) rfl rfl rfl rfl ?_
  refine ev_getR f_X12_tellsMinutes (nx := 12) rfl (hW.s rfl) rfl rfl (hW.r rfl) rfl rfl ?_
  refine ev_loc f_X12_tellsMinutes (nx := 13) rfl rfl rfl rfl ?_
  refine ev_loc f_X12_tellsMinutes (nx := 14) rfl rfl rfl rfl ?_
  refine ev_getR f_X12_tellsMinutes (nx := 17) rfl (hW.s rfl) rfl rfl (hW.r rfl) rfl rfl ?_
  refine ev_bp f_X12_tellsMinutes (nx := 19) (v := 52) rfl (by decide) rfl ?_
  refine ev_ic f_X12_tellsMinutes (nx := 20) (v := 5) rfl (by decide) rfl ?_
  refine ev_loc f_X12_tellsMinutes (nx := 21) rfl rfl rfl rfl ?_
  refine ev_aluvI f_X12_tellsMinutes (nx := 22) (w := 5) rfl rfl rfl (by decide) rfl ?_
  refine ev_aluvI f_X12_tellsMinutes (nx := 23) (w := 57) rfl rfl rfl (by decide) rfl ?_
  refine ev_ic f_X12_tellsMinutes (nx := 24) (v := 1) rfl (by decide) rfl ?_
  refine ev_aluvI f_X12_tellsMinutes (nx := 25) (w := 58) rfl rfl rfl (by decide) rfl ?_
  refine ev_ialdv f_X12_tellsMinutes (nx := 26) (j := 58) (w := 0) rfl (hW.s rfl) (by decide) (by decide) (by decide) (wi_70_58 (gi := gi) hR) rfl ?_
  refine ev_iastv f_X12_tellsMinutes (nx := 27) (j := 1) rfl (hW.s rfl) (by decide) (by decide) (by decide) rfl ?_
  refine ev_incv f_X12_tellsMinutes (nx := 30) (c := 1) (w := 2) (lo' := [(1, .int 2), (0, .ref 69)]) rfl rfl (by decide) (by decide) rfl rfl rfl ?_
  refine ev_jmp f_X12_tellsMinutes (nx := 2) rfl rfl rfl ?_
  refine ev_loc f_X12_tellsMinutes (nx := 3) rfl rfl rfl rfl ?_
  refine ev_bp f_X12_tellsMinutes (nx := 5) (v := 6) rfl (by decide) rfl ?_
  refine ev_f f_X12_tellsMinutes (t1 := 33) (t2 := 8) rfl rfl rfl (by decide) ?_
  refine ev_loc f_X12_tellsMinutes (nx := 9) rfl rfl rfl rfl ?_
  refine ev_getR f_X12_tellsMinutes (nx := 12) rfl (hW.s rfl) rfl rfl (hW.r rfl) rfl rfl ?_
  refine ev_loc f_X12_tellsMinutes (nx := 13) rfl rfl rfl rfl ?_
  refine ev_loc f_X12_tellsMinutes (nx := 14) rfl rfl rfl rfl ?_
  refine ev_getR f_X12_tellsMinutes (nx := 17) rfl (hW.s rfl) rfl rfl (hW.r rfl) rfl rfl ?_
  refine ev_bp f_X12_tellsMinutes (nx := 19) (v := 52) rfl (by decide) rfl ?_
  refine ev_ic f_X12_tellsMinutes (nx := 20) (v := 5) rfl (by decide) rfl ?_
  refine ev_loc f_X12_tellsMinutes (nx := 21) rfl rfl rfl rfl ?_
  refine ev_aluvI f_X12_tellsMinutes (nx := 22) (w := 10) rfl rfl rfl (by decide) rfl ?_
  refine ev_aluvI f_X12_tellsMinutes (nx := 23) (w := 62) rfl rfl rfl (by decide) rfl ?_
  refine ev_ic f_X12_tellsMinutes (nx := 24) (v := 1) rfl (by decide) rfl ?_
  refine ev_aluvI f_X12_tellsMinutes (nx := 25) (w := 63) rfl rfl rfl (by decide) rfl ?_
  refine ev_ialdv f_X12_tellsMinutes (nx := 26) (j := 63) (w := 0) rfl (hW.s rfl) (by decide) (by decide) (by decide) (wi_70_63 (gi := gi) hR) rfl ?_
  refine ev_iastv f_X12_tellsMinutes (nx := 27) (j := 2) rfl (hW.s rfl) (by decide) (by decide) (by decide) rfl ?_
  refine ev_incv f_X12_tellsMinutes (nx := 30) (c := 1) (w := 3) (lo' := [(1, .int 3), (0, .ref 69)]) rfl rfl (by decide) (by decide) rfl rfl rfl ?_
  refine ev_jmp f_X12_tellsMinutes (nx := 2) rfl rfl rfl ?_
  refine ev_loc f_X12_tellsMinutes (nx := 3) rfl rfl rfl rfl ?_
  refine ev_bp f_X12_tellsMinutes (nx := 5) (v := 6) rfl (by decide) rfl ?_
  refine ev_f f_X12_tellsMinutes (t1 := 33) (t2 := 8) rfl rfl rfl (by decide) ?_
  refine ev_loc f_X12_tellsMinutes (nx := 9) rfl rfl rfl rfl ?_
  refine ev_getR f_X12_tellsMinutes (nx := 12) rfl (hW.s rfl) rfl rfl (hW.r rfl) rfl rfl ?_
  refine ev_loc f_X12_tellsMinutes (nx := 13) rfl rfl rfl rfl ?_
  refine ev_loc f_X12_tellsMinutes (nx := 14) rfl rfl rfl rfl ?_
  refine ev_getR f_X12_tellsMinutes (nx := 17) rfl (hW.s rfl) rfl rfl (hW.r rfl) rfl rfl ?_
  refine ev_bp f_X12_tellsMinutes (nx := 19) (v := 52) rfl (by decide) rfl ?_
  refine ev_ic f_X12_tellsMinutes (nx := 20) (v := 5) rfl (by decide) rfl ?_
  refine ev_loc f_X12_tellsMinutes (nx := 21) rfl rfl rfl rfl ?_
  refine ev_aluvI f_X12_tellsMinutes (nx := 22) (w := 15) rfl rfl rfl (by decide) rfl ?_
  refine ev_aluvI f_X12_tellsMinutes (nx := 23) (w := 67) rfl rfl rfl (by decide) rfl ?_
  refine ev_ic f_X12_tellsMinutes (nx := 24) (v := 1) rfl (by decide) rfl ?_
  refine ev_aluvI f_X12_tellsMinutes (nx := 25) (w := 68) rfl rfl rfl (by decide) rfl ?_
  refine ev_ialdv f_X12_tellsMinutes (nx := 26) (j := 68) (w := 0) rfl (hW.s rfl) (by decide) (by decide) (by decide) (wi_70_68 (gi := gi) hR) rfl ?_
  refine ev_iastv f_X12_tellsMinutes (nx := 27) (j := 3) rfl (hW.s rfl) (by decide) (by decide) (by decide) rfl ?_
  refine ev_incv f_X12_tellsMinutes (nx := 30) (c := 1) (w := 4) (lo' := [(1, .int 4), (0, .ref 69)]) rfl rfl (by decide) (by decide) rfl rfl rfl ?_
  refine ev_jmp f_X12_tellsMinutes (nx := 2) rfl rfl rfl ?_
  refine ev_loc f_X12_tellsMinutes (nx := 3) rfl rfl rfl rfl ?_
  refine ev_bp f_X12_tellsMinutes (nx := 5) (v := 6) rfl (by decide) rfl ?_
  refine ev_f f_X12_tellsMinutes (t1 := 33) (t2 := 8) rfl rfl rfl (by decide) ?_
  refine ev_loc f_X12_tellsMinutes (nx := 9) rfl rfl rfl rfl ?_
  refine ev_getR f_X12_tellsMinutes (nx := 12) rfl (hW.s rfl) rfl rfl (hW.r rfl) rfl rfl ?_
  refine ev_loc f_X12_tellsMinutes (nx := 13) rfl rfl rfl rfl ?_
  refine ev_loc f_X12_tellsMinutes (nx := 14) rfl rfl rfl rfl ?_
  refine ev_getR f_X12_tellsMinutes (nx := 17) rfl (hW.s rfl) rfl rfl (hW.r rfl) rfl rfl ?_
  refine ev_bp f_X12_tellsMinutes (nx := 19) (v := 52) rfl (by decide) rfl ?_
  refine ev_ic f_X12_tellsMinutes (nx := 20) (v := 5) rfl (by decide) rfl ?_
  refine ev_loc f_X12_tellsMinutes (nx := 21) rfl rfl rfl rfl ?_
  refine ev_aluvI f_X12_tellsMinutes (nx := 22) (w := 20) rfl rfl rfl (by decide) rfl ?_
  refine ev_aluvI f_X12_tellsMinutes (nx := 23) (w := 72) rfl rfl rfl (by decide) rfl ?_
  refine ev_ic f_X12_tellsMinutes (nx := 24) (v := 1) rfl (by decide) rfl ?_
  refine ev_aluvI f_X12_tellsMinutes (nx := 25) (w := 73) rfl rfl rfl (by decide) rfl ?_
  refine ev_ialdv f_X12_tellsMinutes (nx := 26) (j := 73) (w := 0) rfl (hW.s rfl) (by decide) (by decide) (by decide) (wi_70_73 (gi := gi) hR) rfl ?_
  refine ev_iastv f_X12_tellsMinutes (nx := 27) (j := 4) rfl (hW.s rfl) (by decide) (by decide) (by decide) rfl ?_
  refine ev_incv f_X12_tellsMinutes (nx := 30) (c := 1) (w := 5) (lo' := [(1, .int 5), (0, .ref 69)]) rfl rfl (by decide) (by decide) rfl rfl rfl ?_
  refine ev_jmp f_X12_tellsMinutes (nx := 2) rfl rfl rfl ?_
  refine ev_loc f_X12_tellsMinutes (nx := 3) rfl rfl rfl rfl ?_
  refine ev_bp f_X12_tellsMinutes (nx := 5) (v := 6) rfl (by decide) rfl ?_
  refine ev_f f_X12_tellsMinutes (t1 := 33) (t2 := 8) rfl rfl rfl (by decide) ?_
  refine ev_loc f_X12_tellsMinutes (nx := 9) rfl rfl rfl rfl ?_
  refine ev_getR f_X12_tellsMinutes (nx := 12) rfl (hW.s rfl) rfl rfl (hW.r rfl) rfl rfl ?_
  refine ev_loc f_X12_tellsMinutes (nx := 13) rfl rfl rfl rfl ?_
  refine ev_loc f_X12_tellsMinutes (nx := 14) rfl rfl rfl rfl ?_
  refine ev_getR f_X12_tellsMinutes (nx := 17) rfl (hW.s rfl) rfl rfl (hW.r rfl) rfl rfl ?_
  refine ev_bp f_X12_tellsMinutes (nx := 19) (v := 52) rfl (by decide) rfl ?_
  refine ev_ic f_X12_tellsMinutes (nx := 20) (v := 5) rfl (by decide) rfl ?_
  refine ev_loc f_X12_tellsMinutes (nx := 21) rfl rfl rfl rfl ?_
  refine ev_aluvI f_X12_tellsMinutes (nx := 22) (w := 25) rfl rfl rfl (by decide) rfl ?_
  refine ev_aluvI f_X12_tellsMinutes (nx := 23) (w := 77) rfl rfl rfl (by decide) rfl ?_
  refine ev_ic f_X12_tellsMinutes (nx := 24) (v := 1) rfl (by decide) rfl ?_
  refine ev_aluvI f_X12_tellsMinutes (nx := 25) (w := 78) rfl rfl rfl (by decide) rfl ?_
  refine ev_ialdv f_X12_tellsMinutes (nx := 26) (j := 78) (w := 0) rfl (hW.s rfl) (by decide) (by decide) (by decide) (wi_70_78 (gi := gi) hR) rfl ?_
  refine ev_iastv f_X12_tellsMinutes (nx := 27) (j := 5) rfl (hW.s rfl) (by decide) (by decide) (by decide) rfl ?_
  refine ev_incv f_X12_tellsMinutes (nx := 30) (c := 1) (w := 6) (lo' := [(1, .int 6), (0, .ref 69)]) rfl rfl (by decide) (by decide) rfl rfl rfl ?_
  refine ev_jmp f_X12_tellsMinutes (nx := 2) rfl rfl rfl ?_
  refine ev_loc f_X12_tellsMinutes (nx := 3) rfl rfl rfl rfl ?_
  refine ev_bp f_X12_tellsMinutes (nx := 5) (v := 6) rfl (by decide) rfl ?_
  refine ev_t f_X12_tellsMinutes (t1 := 33) (t2 := 8) rfl rfl rfl (by decide) ?_
  refine ev_ic f_X12_tellsMinutes (nx := 34) (v := 0) rfl (by decide) rfl ?_
  refine ev_loc f_X12_tellsMinutes (nx := 35) (lo' := [(1, .int 0), (0, .ref 69)]) rfl rfl rfl rfl ?_
  refine ev_loc f_X12_tellsMinutes (nx := 36) rfl rfl rfl rfl ?_
  refine ev_bp f_X12_tellsMinutes (nx := 38) (v := 6) rfl (by decide) rfl ?_
  refine ev_f f_X12_tellsMinutes (t1 := 67) (t2 := 41) rfl rfl rfl (by decide) ?_
  refine ev_loc f_X12_tellsMinutes (nx := 42) rfl rfl rfl rfl ?_
  refine ev_getR f_X12_tellsMinutes (nx := 45) rfl (hW.s rfl) rfl rfl (hW.r rfl) rfl rfl ?_
  refine ev_bp f_X12_tellsMinutes (nx := 47) (v := 6) rfl (by decide) rfl ?_
  refine ev_loc f_X12_tellsMinutes (nx := 48) rfl rfl rfl rfl ?_
  refine ev_aluvI f_X12_tellsMinutes (nx := 49) (w := 6) rfl rfl rfl (by decide) rfl ?_
  refine ev_loc f_X12_tellsMinutes (nx := 50) rfl rfl rfl rfl ?_
  refine ev_getR f_X12_tellsMinutes (nx := 53) rfl (hW.s rfl) rfl rfl (hW.r rfl) rfl rfl ?_
  refine ev_bp f_X12_tellsMinutes (nx := 55) (v := 82) rfl (by decide) rfl ?_
  refine ev_ic f_X12_tellsMinutes (nx := 56) (v := 3) rfl (by decide) rfl ?_
  refine ev_loc f_X12_tellsMinutes (nx := 57) rfl rfl rfl rfl ?_
  refine ev_aluvI f_X12_tellsMinutes (nx := 58) (w := 0) rfl rfl rfl (by decide) rfl ?_
  refine ev_aluvI f_X12_tellsMinutes (nx := 59) (w := 82) rfl rfl rfl (by decide) rfl ?_
  refine ev_ialdv f_X12_tellsMinutes (nx := 60) (j := 82) (w := 0) rfl (hW.s rfl) (by decide) (by decide) (by decide) (wi_70_82 (gi := gi) hR) rfl ?_
  refine ev_iastv f_X12_tellsMinutes (nx := 61) (j := 6) rfl (hW.s rfl) (by decide) (by decide) (by decide) rfl ?_
  refine ev_incv f_X12_tellsMinutes (nx := 64) (c := 1) (w := 1) (lo' := [(1, .int 1), (0, .ref 69)]) rfl rfl (by decide) (by decide) rfl rfl rfl ?_
  refine ev_jmp f_X12_tellsMinutes (nx := 35) rfl rfl rfl ?_
  refine ev_loc f_X12_tellsMinutes (nx := 36) rfl rfl rfl rfl ?_
  refine ev_bp f_X12_tellsMinutes (nx := 38) (v := 6) rfl (by decide) rfl ?_
  refine ev_f f_X12_tellsMinutes (t1 := 67) (t2 := 41) rfl rfl rfl (by decide) ?_
  refine ev_loc f_X12_tellsMinutes (nx := 42) rfl rfl rfl rfl ?_
  refine ev_getR f_X12_tellsMinutes (nx := 45) rfl (hW.s rfl) rfl rfl (hW.r rfl) rfl rfl ?_
  refine ev_bp f_X12_tellsMinutes (nx := 47) (v := 6) rfl (by decide) rfl ?_
  refine ev_loc f_X12_tellsMinutes (nx := 48) rfl rfl rfl rfl ?_
  refine ev_aluvI f_X12_tellsMinutes (nx := 49) (w := 7) rfl rfl rfl (by decide) rfl ?_
  refine ev_loc f_X12_tellsMinutes (nx := 50) rfl rfl rfl rfl ?_
  refine ev_getR f_X12_tellsMinutes (nx := 53) rfl (hW.s rfl) rfl rfl (hW.r rfl) rfl rfl ?_
  refine ev_bp f_X12_tellsMinutes (nx := 55) (v := 82) rfl (by decide) rfl ?_
  refine ev_ic f_X12_tellsMinutes (nx := 56) (v := 3) rfl (by decide) rfl ?_
  refine ev_loc f_X12_tellsMinutes (nx := 57) rfl rfl rfl rfl ?_
  refine ev_aluvI f_X12_tellsMinutes (nx := 58) (w := 3) rfl rfl rfl (by decide) rfl ?_
  refine ev_aluvI f_X12_tellsMinutes (nx := 59) (w := 85) rfl rfl rfl (by decide) rfl ?_
  refine ev_ialdv f_X12_tellsMinutes (nx := 60) (j := 85) (w := 0) rfl (hW.s rfl) (by decide) (by decide) (by decide) (wi_70_85 (gi := gi) hR) rfl ?_
  refine ev_iastv f_X12_tellsMinutes (nx := 61) (j := 7) rfl (hW.s rfl) (by decide) (by decide) (by decide) rfl ?_
  refine ev_incv f_X12_tellsMinutes (nx := 64) (c := 1) (w := 2) (lo' := [(1, .int 2), (0, .ref 69)]) rfl rfl (by decide) (by decide) rfl rfl rfl ?_
  refine ev_jmp f_X12_tellsMinutes (nx := 35) rfl rfl rfl ?_
  refine ev_loc f_X12_tellsMinutes (nx := 36) rfl rfl rfl rfl ?_
  refine ev_bp f_X12_tellsMinutes (nx := 38) (v := 6) rfl (by decide) rfl ?_
  refine ev_f f_X12_tellsMinutes (t1 := 67) (t2 := 41) rfl rfl rfl (by decide) ?_
  refine ev_loc f_X12_tellsMinutes (nx := 42) rfl rfl rfl rfl ?_
  refine ev_getR f_X12_tellsMinutes (nx := 45) rfl (hW.s rfl) rfl rfl (hW.r rfl) rfl rfl ?_
  refine ev_bp f_X12_tellsMinutes (nx := 47) (v := 6) rfl (by decide) rfl ?_
  refine ev_loc f_X12_tellsMinutes (nx := 48) rfl rfl rfl rfl ?_
  refine ev_aluvI f_X12_tellsMinutes (nx := 49) (w := 8) rfl rfl rfl (by decide) rfl ?_
  refine ev_loc f_X12_tellsMinutes (nx := 50) rfl rfl rfl rfl ?_
  refine ev_getR f_X12_tellsMinutes (nx := 53) rfl (hW.s rfl) rfl rfl (hW.r rfl) rfl rfl ?_
  refine ev_bp f_X12_tellsMinutes (nx := 55) (v := 82) rfl (by decide) rfl ?_
  refine ev_ic f_X12_tellsMinutes (nx := 56) (v := 3) rfl (by decide) rfl ?_
  refine ev_loc f_X12_tellsMinutes (nx := 57) rfl rfl rfl rfl ?_
  refine ev_aluvI f_X12_tellsMinutes (nx := 58) (w := 6) rfl rfl rfl (by decide) rfl ?_
  refine ev_aluvI f_X12_tellsMinutes (nx := 59) (w := 88) rfl rfl rfl (by decide) rfl ?_
  refine ev_ialdv f_X12_tellsMinutes (nx := 60) (j := 88) (w := 0) rfl (hW.s rfl) (by decide) (by decide) (by decide) (wi_70_88 (gi := gi) hR) rfl ?_
  refine ev_iastv f_X12_tellsMinutes (nx := 61) (j := 8) rfl (hW.s rfl) (by decide) (by decide) (by decide) rfl ?_
  refine ev_incv f_X12_tellsMinutes (nx := 64) (c := 1) (w := 3) (lo' := [(1, .int 3), (0, .ref 69)]) rfl rfl (by decide) (by decide) rfl rfl rfl ?_
  refine ev_jmp f_X12_tellsMinutes (nx := 35) rfl rfl rfl ?_
  refine ev_loc f_X12_tellsMinutes (nx := 36) rfl rfl rfl rfl ?_
  refine ev_bp f_X12_tellsMinutes (nx := 38) (v := 6) rfl (by decide) rfl ?_
  refine ev_f f_X12_tellsMinutes (t1 := 67) (t2 := 41) rfl rfl rfl (by decide) ?_
  refine ev_loc f_X12_tellsMinutes (nx := 42) rfl rfl rfl rfl ?_
  refine ev_getR f_X12_tellsMinutes (nx := 45) rfl (hW.s rfl) rfl rfl (hW.r rfl) rfl rfl ?_
  refine ev_bp f_X12_tellsMinutes (nx := 47) (v := 6) rfl (by decide) rfl ?_
  refine ev_loc f_X12_tellsMinutes (nx := 48) rfl rfl rfl rfl ?_
  refine ev_aluvI f_X12_tellsMinutes (nx := 49) (w := 9) rfl rfl rfl (by decide) rfl ?_
  refine ev_loc f_X12_tellsMinutes (nx := 50) rfl rfl rfl rfl ?_
  refine ev_getR f_X12_tellsMinutes (nx := 53) rfl (hW.s rfl) rfl rfl (hW.r rfl) rfl rfl ?_
  refine ev_bp f_X12_tellsMinutes (nx := 55) (v := 82) rfl (by decide) rfl ?_
  refine ev_ic f_X12_tellsMinutes (nx := 56) (v := 3) rfl (by decide) rfl ?_
  refine ev_loc f_X12_tellsMinutes (nx := 57) rfl rfl rfl rfl ?_
  refine ev_aluvI f_X12_tellsMinutes (nx := 58) (w := 9) rfl rfl rfl (by decide) rfl ?_
  refine ev_aluvI f_X12_tellsMinutes (nx := 59) (w := 91) rfl rfl rfl (by decide) rfl ?_
  refine ev_ialdv f_X12_tellsMinutes (nx := 60) (j := 91) (w := 0) rfl (hW.s rfl) (by decide) (by decide) (by decide) (wi_70_91 (gi := gi) hR) rfl ?_
  refine ev_iastv f_X12_tellsMinutes (nx := 61) (j := 9) rfl (hW.s rfl) (by decide) (by decide) (by decide) rfl ?_
  refine ev_incv f_X12_tellsMinutes (nx := 64) (c := 1) (w := 4) (lo' := [(1, .int 4), (0, .ref 69)]) rfl rfl (by decide) (by decide) rfl rfl rfl ?_
  refine ev_jmp f_X12_tellsMinutes (nx := 35) rfl rfl rfl ?_
  refine ev_loc f_X12_tellsMinutes (nx := 36) rfl rfl rfl rfl ?_
  refine ev_bp f_X12_tellsMinutes (nx := 38) (v := 6) rfl (by decide) rfl ?_
  refine ev_f f_X12_tellsMinutes (t1 := 67) (t2 := 41) rfl rfl rfl (by decide) ?_
  refine ev_loc f_X12_tellsMinutes (nx := 42) rfl rfl rfl rfl ?_
  refine ev_getR f_X12_tellsMinutes (nx := 45) rfl (hW.s rfl) rfl rfl (hW.r rfl) rfl rfl ?_
  refine ev_bp f_X12_tellsMinutes (nx := 47) (v := 6) rfl (by decide) rfl ?_
  refine ev_loc f_X12_tellsMinutes (nx := 48) rfl rfl rfl rfl ?_
  refine ev_aluvI f_X12_tellsMinutes (nx := 49) (w := 10) rfl rfl rfl (by decide) rfl ?_
  refine ev_loc f_X12_tellsMinutes (nx := 50) rfl rfl rfl rfl ?_
  refine ev_getR f_X12_tellsMinutes (nx := 53) rfl (hW.s rfl) rfl rfl (hW.r rfl) rfl rfl ?_
  refine ev_bp f_X12_tellsMinutes (nx := 55) (v := 82) rfl (by decide) rfl ?_
  refine ev_ic f_X12_tellsMinutes (nx := 56) (v := 3) rfl (by decide) rfl ?_
  refine ev_loc f_X12_tellsMinutes (nx := 57) rfl rfl rfl rfl ?_
  refine ev_aluvI f_X12_tellsMinutes (nx := 58) (w := 12) rfl rfl rfl (by decide) rfl ?_
  refine ev_aluvI f_X12_tellsMinutes (nx := 59) (w := 94) rfl rfl rfl (by decide) rfl ?_
  refine ev_ialdv f_X12_tellsMinutes (nx := 60) (j := 94) (w := 0) rfl (hW.s rfl) (by decide) (by decide) (by decide) (wi_70_94 (gi := gi) hR) rfl ?_
  refine ev_iastv f_X12_tellsMinutes (nx := 61) (j := 10) rfl (hW.s rfl) (by decide) (by decide) (by decide) rfl ?_
  refine ev_incv f_X12_tellsMinutes (nx := 64) (c := 1) (w := 5) (lo' := [(1, .int 5), (0, .ref 69)]) rfl rfl (by decide) (by decide) rfl rfl rfl ?_
  refine ev_jmp f_X12_tellsMinutes (nx := 35) rfl rfl rfl ?_
  refine ev_loc f_X12_tellsMinutes (nx := 36) rfl rfl rfl rfl ?_
  refine ev_bp f_X12_tellsMinutes (nx := 38) (v := 6) rfl (by decide) rfl ?_
  refine ev_f f_X12_tellsMinutes (t1 := 67) (t2 := 41) rfl rfl rfl (by decide) ?_
  refine ev_loc f_X12_tellsMinutes (nx := 42) rfl rfl rfl rfl ?_
  refine ev_getR f_X12_tellsMinutes (nx := 45) rfl (hW.s rfl) rfl rfl (hW.r rfl) rfl rfl ?_
  refine ev_bp f_X12_tellsMinutes (nx := 47) (v := 6) rfl (by decide) rfl ?_
  refine ev_loc f_X12_tellsMinutes (nx := 48) rfl rfl rfl rfl ?_
  refine ev_aluvI f_X12_tellsMinutes (nx := 49) (w := 11) rfl rfl rfl (by decide) rfl ?_
  refine ev_loc f_X12_tellsMinutes (nx := 50) rfl rfl rfl rfl ?_
  refine ev_getR f_X12_tellsMinutes (nx := 53) rfl (hW.s rfl) rfl rfl (hW.r rfl) rfl rfl ?_
  refine ev_bp f_X12_tellsMinutes (nx := 55) (v := 82) rfl (by decide) rfl ?_
  refine ev_ic f_X12_tellsMinutes (nx := 56) (v := 3) rfl (by decide) rfl ?_
  refine ev_loc f_X12_tellsMinutes (nx := 57) rfl rfl rfl rfl ?_
  refine ev_aluvI f_X12_tellsMinutes (nx := 58) (w := 15) rfl rfl rfl (by decide) rfl ?_
  refine ev_aluvI f_X12_tellsMinutes (nx := 59) (w := 97) rfl rfl rfl (by decide) rfl ?_
  refine ev_ialdv f_X12_tellsMinutes (nx := 60) (j := 97) (w := 0) rfl (hW.s rfl) (by decide) (by decide) (by decide) (wi_70_97 (gi := gi) hR) rfl ?_
  refine ev_iastv f_X12_tellsMinutes (nx := 61) (j := 11) rfl (hW.s rfl) (by decide) (by decide) (by decide) rfl ?_
  refine ev_incv f_X12_tellsMinutes (nx := 64) (c := 1) (w := 6) (lo' := [(1, .int 6), (0, .ref 69)]) rfl rfl (by decide) (by decide) rfl rfl rfl ?_
  refine ev_jmp f_X12_tellsMinutes (nx := 35) rfl rfl rfl ?_
  refine ev_loc f_X12_tellsMinutes (nx := 36) rfl rfl rfl rfl ?_
  refine ev_bp f_X12_tellsMinutes (nx := 38) (v := 6) rfl (by decide) rfl ?_
  refine ev_t f_X12_tellsMinutes (t1 := 67) (t2 := 41) rfl rfl rfl (by decide) ?_
  refine ev_retK0 f_X12_tellsMinutes rfl rfl rfl ?_
  refine ev_loc f_X12_leastBy (nx := 5) rfl rfl rfl rfl ?_
  refine ev_loc f_X12_leastBy (nx := 6) rfl rfl rfl rfl ?_
  refine ev_inV2 f_X12_leastBy (nx := 9) (lo2 := [(0, .ref 69), (1, .int 0)]) rfl rfl rfl rfl f_X12_orders (hW.s rfl) rfl rfl rfl rfl rfl ?_
  refine ev_loc f_X12_orders (nx := 1) rfl rfl rfl rfl ?_
  refine ev_ic f_X12_orders (nx := 2) (v := 0) rfl (by decide) rfl ?_
  refine ev_putI f_X12_orders (nx := 5) rfl (hW.s rfl) rfl rfl rfl ?_
  refine ev_loc f_X12_orders (nx := 6) rfl rfl rfl rfl ?_
  refine ev_ic f_X12_orders (nx := 7) (v := 0) rfl (by decide) rfl ?_
  refine ev_putI f_X12_orders (nx := 10) rfl (hW.s rfl) rfl rfl rfl ?_
  refine ev_ic f_X12_orders (nx := 11) (v := 0) rfl (by decide) rfl ?_
  refine ev_loc f_X12_orders (nx := 12) (lo' := [(2, .int 0), (0, .ref 69), (1, .int 0)]) rfl rfl rfl rfl ?_
  refine ev_loc f_X12_orders (nx := 13) rfl rfl rfl rfl ?_
  refine ev_loc f_X12_orders (nx := 14) rfl rfl rfl rfl ?_
  refine ev_getR f_X12_orders (nx := 17) rfl (hW.s rfl) rfl rfl (hW.r rfl) rfl rfl ?_
  refine ev_ic f_X12_orders (nx := 18) (v := 1) rfl (by decide) rfl ?_
  refine ev_ialdv f_X12_orders (nx := 19) (j := 1) (w := 0) rfl (hW.s rfl) (by decide) (by decide) (by decide) (wi_70_1 (gi := gi) hR) rfl ?_
  refine ev_t f_X12_orders (t1 := 108) (t2 := 22) rfl rfl rfl (by decide) ?_
  refine ev_ic f_X12_orders (nx := 109) (v := 0) rfl (by decide) rfl ?_
  refine ev_loc f_X12_orders (nx := 110) (lo' := [(2, .int 0), (0, .ref 69), (1, .int 0)]) rfl rfl rfl rfl ?_
  refine ev_loc f_X12_orders (nx := 111) rfl rfl rfl rfl ?_
  refine ev_loc f_X12_orders (nx := 112) rfl rfl rfl rfl ?_
  refine ev_getR f_X12_orders (nx := 115) rfl (hW.s rfl) rfl rfl (hW.r rfl) rfl rfl ?_
  refine ev_ic f_X12_orders (nx := 116) (v := 2) rfl (by decide) rfl ?_
  refine ev_ialdv f_X12_orders (nx := 117) (j := 2) (w := 0) rfl (hW.s rfl) (by decide) (by decide) (by decide) (wi_70_2 (gi := gi) hR) rfl ?_
  refine ev_t f_X12_orders (t1 := 211) (t2 := 120) rfl rfl rfl (by decide) ?_
  refine ev_retK0 f_X12_orders rfl rfl rfl ?_
  refine ev_loc f_X12_leastBy (nx := 10) rfl rfl rfl rfl ?_
  refine ev_loc f_X12_leastBy (nx := 11) rfl rfl rfl rfl ?_
  refine ev_putI f_X12_leastBy (nx := 14) rfl (hW.s rfl) rfl rfl rfl ?_
  refine ev_loc f_X12_leastBy (nx := 15) rfl rfl rfl rfl ?_
  refine ev_cM f_X12_leastBy (nx := 18) (st2 := [.int 0]) rfl rfl rfl rfl rfl rfl (l_rk hW rfl rfl (wi_70_5 (gi := gi) hR) (wz_92 (gi := gi) hR)) rfl rfl ?_
  refine ev_retK1 f_X12_leastBy rfl rfl rfl ?_
  refine ev_ic f_X12_away (nx := 46) (v := -1) rfl (by decide) rfl ?_
  refine ev_f f_X12_away (t1 := 51) (t2 := 49) rfl rfl rfl (by decide) ?_
  refine ev_loc f_X12_away (nx := 50) rfl rfl rfl rfl ?_
  refine ev_loc f_X12_away (nx := 51) (lo' := [(1, .int 0), (2, .int 0), (0, .ref 69)]) rfl rfl rfl rfl ?_
  refine ev_incv f_X12_away (nx := 54) (c := 1) (w := 1) (lo' := [(2, .int 1), (1, .int 0), (0, .ref 69)]) rfl rfl (by decide) (by decide) rfl rfl rfl ?_
  refine ev_jmp f_X12_away (nx := 4) rfl rfl rfl ?_
  refine ev_loc f_X12_away (nx := 5) rfl rfl rfl rfl ?_
  refine ev_ic f_X12_away (nx := 6) (v := 1) rfl (by decide) rfl ?_
  refine ev_loc f_X12_away (nx := 7) rfl rfl rfl rfl ?_
  refine ev_getR f_X12_away (nx := 10) rfl (hW.s rfl) rfl rfl (hW.r rfl) rfl rfl ?_
  refine ev_ic f_X12_away (nx := 11) (v := 1) rfl (by decide) rfl ?_
  refine ev_ialdv f_X12_away (nx := 12) (j := 1) (w := 0) rfl (hW.s rfl) (by decide) (by decide) (by decide) (wi_70_1 (gi := gi) hR) rfl ?_
  refine ev_aluvI f_X12_away (nx := 13) (w := 1) rfl rfl rfl (by decide) rfl ?_
  refine ev_t f_X12_away (t1 := 57) (t2 := 16) rfl rfl rfl (by decide) ?_
  refine ev_loc f_X12_away (nx := 58) rfl rfl rfl rfl ?_
  refine ev_loc f_X12_away (nx := 59) rfl rfl rfl rfl ?_
  refine ev_inV2 f_X12_away (nx := 62) (lo2 := [(0, .ref 69), (1, .int 0)]) rfl rfl rfl rfl f_X12_orNone (hW.s rfl) rfl rfl rfl rfl rfl ?_
  refine ev_loc f_X12_orNone (nx := 1) rfl rfl rfl rfl ?_
  refine ev_ic f_X12_orNone (nx := 2) (v := -1) rfl (by decide) rfl ?_
  refine ev_f f_X12_orNone (t1 := 5) (t2 := 14) rfl rfl rfl (by decide) ?_
  refine ev_loc f_X12_orNone (nx := 15) rfl rfl rfl rfl ?_
  refine ev_loc f_X12_orNone (nx := 16) rfl rfl rfl rfl ?_
  refine ev_inV2 f_X12_orNone (nx := 19) (lo2 := [(0, .ref 69), (1, .int 0)]) rfl rfl rfl rfl f_X12_gives (hW.s rfl) rfl rfl rfl rfl rfl ?_
  refine ev_loc f_X12_gives (nx := 1) rfl rfl rfl rfl ?_
  refine ev_ic f_X12_gives (nx := 2) (v := 0) rfl (by decide) rfl ?_
  refine ev_putI f_X12_gives (nx := 5) rfl (hW.s rfl) rfl rfl rfl ?_
  refine ev_loc f_X12_gives (nx := 6) rfl rfl rfl rfl ?_
  refine ev_retK1 f_X12_gives rfl rfl rfl ?_
  refine ev_retK1 f_X12_orNone rfl rfl rfl ?_
  refine ev_retK1 f_X12_away rfl rfl rfl ?_
  refine ev_t f_L_law (t1 := 1628) (t2 := 1370) rfl rfl rfl (by decide) ?_
  refine ev_incv f_L_law (nx := 1631) (c := 6) (w := 6) (lo' := [(3, .int 6), (2, .ref 69), (1, .ref 0), (0, .retAddr 30)]) rfl rfl (by decide) (by decide) rfl rfl rfl ?_
  refine ev_jmp f_L_law (nx := 18) rfl rfl rfl ?_
  refine ev_loc f_L_law (nx := 19) rfl rfl rfl rfl ?_
  refine ev_loc f_L_law (nx := 20) rfl rfl rfl rfl ?_
  refine ev_alenX f_L_law (nx := 21) rfl hX rfl ?_
  refine ev_bp f_L_law (nx := 23) (v := 6) rfl (by decide) rfl ?_
  refine ev_aluvI f_L_law (nx := 24) (w := 0) rfl rfl rfl (by decide) rfl ?_
  refine ev_t f_L_law (t1 := 1634) (t2 := 27) rfl rfl rfl (by decide) ?_
  refine ev_ic f_L_law (nx := 1635) (v := 1) rfl (by decide) rfl ?_
  refine ev_ret f_L_law rfl rfl rfl ?_
  exact ⟨rfl, hz⟩
set_option maxRecDepth 20000 in
theorem pc_40 (hR : x_R W1 (sh, gi, gl, gr)) (hX : X.1 = 6) : x_Ev X 1000 n_L_law 1451 [(3, .int 0), (2, .ref 69), (1, .ref 0), (0, .retAddr 30)] [] (sh, gi, gl, gr) x_P1 := by
  have hW := W1_WF hR
  have hz := W1_hz hR
  refine ev_loc f_L_law (nx := 1452) rfl rfl rfl rfl ?_
  refine ev_inV1 f_L_law (nx := 1455) (lo2 := [(0, .ref 0)]) rfl rfl rfl rfl f_X11_dearest (hW.s rfl) rfl rfl rfl rfl rfl ?_
  refine ev_loc f_X11_dearest (nx := 1) rfl rfl rfl rfl ?_
  refine ev_getR f_X11_dearest (nx := 4) rfl (hW.s rfl) rfl rfl (hW.r rfl) rfl rfl ?_
  refine ev_loc f_X11_dearest (nx := 5) rfl rfl rfl rfl ?_
  refine ev_getR f_X11_dearest (nx := 8) rfl (hW.s rfl) rfl rfl (wr_0_6 (gr := gr) hR) rfl rfl ?_
  refine ev_inV2 f_X11_dearest (nx := 11) (lo2 := [(0, .ref 28), (1, .ref 3)]) rfl rfl rfl rfl f_X1_takeAll (hW.s rfl) rfl rfl rfl rfl rfl ?_
  refine ev_loc f_X1_takeAll (nx := 1) rfl rfl rfl rfl ?_
  refine ev_loc f_X1_takeAll (nx := 2) rfl rfl rfl rfl ?_
  refine ev_putR f_X1_takeAll (nx := 5) rfl (hW.s rfl) rfl rfl rfl rfl ?_
  replace hW := x_WF_up hW (k := 28) (j := 0) (v := .ref 3) rfl
  refine ev_loc f_X1_takeAll (nx := 6) rfl rfl rfl rfl ?_
  refine ev_loc f_X1_takeAll (nx := 7) rfl rfl rfl rfl ?_
  refine ev_gvI f_X1_takeAll (nx := 10) (w := 5) rfl (hW.s rfl) rfl rfl (wi_3_3 (gi := gi) hR) rfl ?_
  refine ev_putI f_X1_takeAll (nx := 13) rfl (hW.s rfl) rfl rfl rfl ?_
  refine ev_loc f_X1_takeAll (nx := 14) rfl rfl rfl rfl ?_
  refine ev_loc f_X1_takeAll (nx := 15) rfl rfl rfl rfl ?_
  refine ev_ic f_X1_takeAll (nx := 16) (v := 0) rfl (by decide) rfl ?_
  refine ev_ic f_X1_takeAll (nx := 17) (v := -1) rfl (by decide) rfl ?_
  refine ev_ic f_X1_takeAll (nx := 18) (v := 0) rfl (by decide) rfl ?_
  refine ev_inV5 f_X1_takeAll (nx := 21) (lo2 := [(0, .ref 28), (1, .ref 3), (2, .int 0), (3, .int (-1)), (4, .int 0)]) rfl rfl rfl rfl f_X1_takeShips (hW.s rfl) rfl rfl rfl rfl rfl ?_
  refine ev_loc f_X1_takeShips (nx := 1) rfl rfl rfl rfl ?_
  refine ev_getR f_X1_takeShips (nx := 4) rfl (hW.s rfl) rfl rfl (hW.r rfl) rfl rfl ?_
  refine ev_inV1 f_X1_takeShips (nx := 7) (lo2 := [(0, .ref 29)]) rfl rfl rfl rfl f_X4_clear (hW.s rfl) rfl rfl rfl rfl rfl ?_
  refine ev_loc f_X4_clear (nx := 1) rfl rfl rfl rfl ?_
  refine ev_ic f_X4_clear (nx := 2) (v := 0) rfl (by decide) rfl ?_
  refine ev_putI f_X4_clear (nx := 5) rfl (hW.s rfl) rfl rfl rfl ?_
  refine ev_retK0 f_X4_clear rfl rfl rfl ?_
  refine ev_ic f_X1_takeShips (nx := 8) (v := 0) rfl (by decide) rfl ?_
  refine ev_loc f_X1_takeShips (nx := 10) (lo' := [(5, .int 0), (0, .ref 28), (1, .ref 3), (2, .int 0), (3, .int (-1)), (4, .int 0)]) rfl rfl rfl rfl ?_
  refine ev_loc f_X1_takeShips (nx := 12) rfl rfl rfl rfl ?_
  refine ev_loc f_X1_takeShips (nx := 13) rfl rfl rfl rfl ?_
  refine ev_getR f_X1_takeShips (nx := 16) rfl (hW.s rfl) rfl rfl (hW.r rfl) rfl rfl ?_
  refine ev_gvI f_X1_takeShips (nx := 19) (w := 0) rfl (hW.s rfl) rfl rfl (wi_6_0 (gi := gi) hR) rfl ?_
  refine ev_t f_X1_takeShips (t1 := 77) (t2 := 22) rfl rfl rfl (by decide) ?_
  refine ev_retK0 f_X1_takeShips rfl rfl rfl ?_
  refine ev_loc f_X1_takeAll (nx := 22) rfl rfl rfl rfl ?_
  refine ev_loc f_X1_takeAll (nx := 23) rfl rfl rfl rfl ?_
  refine ev_ic f_X1_takeAll (nx := 24) (v := -1) rfl (by decide) rfl ?_
  refine ev_inV3 f_X1_takeAll (nx := 27) (lo2 := [(0, .ref 28), (1, .ref 3), (2, .int (-1))]) rfl rfl rfl rfl f_X1_takeCarts (hW.s rfl) rfl rfl rfl rfl rfl ?_
  refine ev_loc f_X1_takeCarts (nx := 1) rfl rfl rfl rfl ?_
  refine ev_getR f_X1_takeCarts (nx := 4) rfl (hW.s rfl) rfl rfl (hW.r rfl) rfl rfl ?_
  refine ev_inV1 f_X1_takeCarts (nx := 7) (lo2 := [(0, .ref 35)]) rfl rfl rfl rfl f_X4_clear (hW.s rfl) rfl rfl rfl rfl rfl ?_
  refine ev_loc f_X4_clear (nx := 1) rfl rfl rfl rfl ?_
  refine ev_ic f_X4_clear (nx := 2) (v := 0) rfl (by decide) rfl ?_
  refine ev_putI f_X4_clear (nx := 5) rfl (hW.s rfl) rfl rfl rfl ?_
  refine ev_retK0 f_X4_clear rfl rfl rfl ?_
  refine ev_ic f_X1_takeCarts (nx := 8) (v := 0) rfl (by decide) rfl ?_
  refine ev_loc f_X1_takeCarts (nx := 9) (lo' := [(3, .int 0), (0, .ref 28), (1, .ref 3), (2, .int (-1))]) rfl rfl rfl rfl ?_
  refine ev_loc f_X1_takeCarts (nx := 10) rfl rfl rfl rfl ?_
  refine ev_loc f_X1_takeCarts (nx := 11) rfl rfl rfl rfl ?_
  refine ev_getR f_X1_takeCarts (nx := 14) rfl (hW.s rfl) rfl rfl (hW.r rfl) rfl rfl ?_
  refine ev_gvI f_X1_takeCarts (nx := 17) (w := 0) rfl (hW.s rfl) rfl rfl (wi_13_0 (gi := gi) hR) rfl ?_
  refine ev_t f_X1_takeCarts (t1 := 52) (t2 := 20) rfl rfl rfl (by decide) ?_
  refine ev_retK0 f_X1_takeCarts rfl rfl rfl ?_
  refine ev_retK0 f_X1_takeAll rfl rfl rfl ?_
  refine ev_loc f_X11_dearest (nx := 12) rfl rfl rfl rfl ?_
  refine ev_getR f_X11_dearest (nx := 15) rfl (hW.s rfl) rfl rfl (hW.r rfl) rfl rfl ?_
  refine ev_inV1 f_X11_dearest (nx := 18) (lo2 := [(0, .ref 28)]) rfl rfl rfl rfl f_X1_layPlan (hW.s rfl) rfl rfl rfl rfl rfl ?_
  refine ev_loc f_X1_layPlan (nx := 1) rfl rfl rfl rfl ?_
  refine ev_ic f_X1_layPlan (nx := 2) (v := 0) rfl (by decide) rfl ?_
  refine ev_putI f_X1_layPlan (nx := 5) rfl (hW.s rfl) rfl rfl rfl ?_
  refine ev_loc f_X1_layPlan (nx := 6) rfl rfl rfl rfl ?_
  refine ev_inV1 f_X1_layPlan (nx := 9) (lo2 := [(0, .ref 28)]) rfl rfl rfl rfl f_X1_leastWaits (hW.s rfl) rfl rfl rfl rfl rfl ?_
  refine ev_loc f_X1_leastWaits (nx := 1) rfl rfl rfl rfl ?_
  refine ev_ldI f_X1_leastWaits (nx := 3) (v := 1000000000) rfl (by decide) rfl ?_
  refine ev_putI f_X1_leastWaits (nx := 6) rfl (hW.s rfl) rfl rfl rfl ?_
  refine ev_loc f_X1_leastWaits (nx := 7) rfl rfl rfl rfl ?_
  refine ev_ic f_X1_leastWaits (nx := 8) (v := 0) rfl (by decide) rfl ?_
  refine ev_putI f_X1_leastWaits (nx := 11) rfl (hW.s rfl) rfl rfl rfl ?_
  refine ev_loc f_X1_leastWaits (nx := 12) rfl rfl rfl rfl ?_
  refine ev_ic f_X1_leastWaits (nx := 13) (v := 0) rfl (by decide) rfl ?_
  refine ev_ic f_X1_leastWaits (nx := 14) (v := 0) rfl (by decide) rfl ?_
  refine ev_ic f_X1_leastWaits (nx := 15) (v := 0) rfl (by decide) rfl ?_
  refine ev_ic f_X1_leastWaits (nx := 16) (v := 0) rfl (by decide) rfl ?_
  refine ev_ic f_X1_leastWaits (nx := 17) (v := 0) rfl (by decide) rfl ?_
  refine ev_inV6 f_X1_leastWaits (nx := 20) (lo2 := [(0, .ref 28), (1, .int 0), (2, .int 0), (3, .int 0), (4, .int 0), (5, .int 0)]) rfl rfl rfl rfl f_X1_search (hW.s rfl) rfl rfl rfl rfl rfl ?_
  refine ev_loc f_X1_search (nx := 2) rfl rfl rfl rfl ?_
  refine ev_loc f_X1_search (nx := 3) rfl rfl rfl rfl ?_
  refine ev_gvI f_X1_search (nx := 6) (w := 1000000000) rfl (hW.s rfl) rfl rfl rfl rfl ?_
  refine ev_f f_X1_search (t1 := 20) (t2 := 9) rfl rfl rfl (by decide) ?_
  refine ev_loc f_X1_search (nx := 10) rfl rfl rfl rfl ?_
  refine ev_gvI f_X1_search (nx := 13) (w := 1000000000) rfl (hW.s rfl) rfl rfl rfl rfl ?_
  refine ev_loc f_X1_search (nx := 14) rfl rfl rfl rfl ?_
  refine ev_gvI f_X1_search (nx := 17) (w := 0) rfl (hW.s rfl) rfl rfl rfl rfl ?_
  refine ev_t f_X1_search (t1 := 21) (t2 := 20) rfl rfl rfl (by decide) ?_
  refine ev_loc f_X1_search (nx := 22) rfl rfl rfl rfl ?_
  refine ev_loc f_X1_search (nx := 23) rfl rfl rfl rfl ?_
  refine ev_getR f_X1_search (nx := 26) rfl (hW.s rfl) rfl rfl (hW.r rfl) rfl rfl ?_
  refine ev_gvI f_X1_search (nx := 29) (w := 0) rfl (hW.s rfl) rfl rfl rfl rfl ?_
  refine ev_f f_X1_search (t1 := 51) (t2 := 32) rfl rfl rfl (by decide) ?_
  refine ev_loc f_X1_search (nx := 34) rfl rfl rfl rfl ?_
  refine ev_loc f_X1_search (nx := 35) rfl rfl rfl rfl ?_
  refine ev_getR f_X1_search (nx := 38) rfl (hW.s rfl) rfl rfl (hW.r rfl) rfl rfl ?_
  refine ev_gvI f_X1_search (nx := 41) (w := 0) rfl (hW.s rfl) rfl rfl rfl rfl ?_
  refine ev_f f_X1_search (t1 := 51) (t2 := 44) rfl rfl rfl (by decide) ?_
  refine ev_loc f_X1_search (nx := 45) rfl rfl rfl rfl ?_
  refine ev_loc f_X1_search (nx := 47) rfl rfl rfl rfl ?_
  refine ev_putI f_X1_search (nx := 50) rfl (hW.s rfl) rfl rfl rfl ?_
  refine ev_retK0 f_X1_search rfl rfl rfl ?_
  refine ev_loc f_X1_leastWaits (nx := 21) rfl rfl rfl rfl ?_
  refine ev_gvI f_X1_leastWaits (nx := 24) (w := 0) rfl (hW.s rfl) rfl rfl rfl rfl ?_
  refine ev_retK1 f_X1_leastWaits rfl rfl rfl ?_
  refine ev_loc f_X1_layPlan (nx := 10) (lo' := [(1, .int 0), (0, .ref 28)]) rfl rfl rfl rfl ?_
  refine ev_loc f_X1_layPlan (nx := 11) rfl rfl rfl rfl ?_
  refine ev_ldI f_X1_layPlan (nx := 13) (v := 1000000000) rfl (by decide) rfl ?_
  refine ev_t f_X1_layPlan (t1 := 18) (t2 := 16) rfl rfl rfl (by decide) ?_
  refine ev_ic f_X1_layPlan (nx := 19) (v := 0) rfl (by decide) rfl ?_
  refine ev_loc f_X1_layPlan (nx := 20) (lo' := [(2, .int 0), (1, .int 0), (0, .ref 28)]) rfl rfl rfl rfl ?_
  refine ev_ic f_X1_layPlan (nx := 21) (v := 0) rfl (by decide) rfl ?_
  refine ev_loc f_X1_layPlan (nx := 22) (lo' := [(3, .int 0), (2, .int 0), (1, .int 0), (0, .ref 28)]) rfl rfl rfl rfl ?_
  refine ev_ic f_X1_layPlan (nx := 23) (v := 0) rfl (by decide) rfl ?_
  refine ev_loc f_X1_layPlan (nx := 25) (lo' := [(4, .int 0), (3, .int 0), (2, .int 0), (1, .int 0), (0, .ref 28)]) rfl rfl rfl rfl ?_
  refine ev_ic f_X1_layPlan (nx := 26) (v := 0) rfl (by decide) rfl ?_
  refine ev_loc f_X1_layPlan (nx := 28) (lo' := [(5, .int 0), (4, .int 0), (3, .int 0), (2, .int 0), (1, .int 0), (0, .ref 28)]) rfl rfl rfl rfl ?_
  refine ev_ic f_X1_layPlan (nx := 29) (v := 0) rfl (by decide) rfl ?_
  refine ev_loc f_X1_layPlan (nx := 31) (lo' := [(6, .int 0), (5, .int 0), (4, .int 0), (3, .int 0), (2, .int 0), (1, .int 0), (0, .ref 28)]) rfl rfl rfl rfl ?_
  refine ev_loc f_X1_layPlan (nx := 33) rfl rfl rfl rfl ?_
  refine ev_sp f_X1_layPlan (nx := 36) (v := 240) rfl (by decide) rfl ?_
  refine ev_f f_X1_layPlan (t1 := 259) (t2 := 39) rfl rfl rfl (by decide) ?_
  refine ev_loc f_X1_layPlan (nx := 41) rfl rfl rfl rfl ?_
  refine ev_loc f_X1_layPlan (nx := 43) rfl rfl rfl rfl ?_
  refine ev_aluvI f_X1_layPlan (nx := 44) (w := 0) rfl rfl rfl (by decide) rfl ?_
  refine ev_loc f_X1_layPlan (nx := 45) rfl rfl rfl rfl ?_
  refine ev_getR f_X1_layPlan (nx := 48) rfl (hW.s rfl) rfl rfl (hW.r rfl) rfl rfl ?_
  refine ev_gvI f_X1_layPlan (nx := 51) (w := 0) rfl (hW.s rfl) rfl rfl rfl rfl ?_
  refine ev_loc f_X1_layPlan (nx := 52) rfl rfl rfl rfl ?_
  refine ev_getR f_X1_layPlan (nx := 55) rfl (hW.s rfl) rfl rfl (hW.r rfl) rfl rfl ?_
  refine ev_gvI f_X1_layPlan (nx := 58) (w := 0) rfl (hW.s rfl) rfl rfl rfl rfl ?_
  refine ev_aluvI f_X1_layPlan (nx := 59) (w := 0) rfl rfl rfl (by decide) rfl ?_
  refine ev_t f_X1_layPlan (t1 := 259) (t2 := 62) rfl rfl rfl (by decide) ?_
  refine ev_ic f_X1_layPlan (nx := 260) (v := 1) rfl (by decide) rfl ?_
  refine ev_retK1 f_X1_layPlan rfl rfl rfl ?_
  refine ev_f f_X11_dearest (t1 := 35) (t2 := 21) rfl rfl rfl (by decide) ?_
  refine ev_loc f_X11_dearest (nx := 22) rfl rfl rfl rfl ?_
  refine ev_getR f_X11_dearest (nx := 25) rfl (hW.s rfl) rfl rfl (hW.r rfl) rfl rfl ?_
  refine ev_loc f_X11_dearest (nx := 26) rfl rfl rfl rfl ?_
  refine ev_getR f_X11_dearest (nx := 29) rfl (hW.s rfl) rfl rfl (wr_0_6 (gr := gr) hR) rfl rfl ?_
  refine ev_inV2 f_X11_dearest (nx := 32) (lo2 := [(0, .ref 28), (1, .ref 3)]) rfl rfl rfl rfl f_X1_dearestByPlan (hW.s rfl) rfl rfl rfl rfl rfl ?_
  refine ev_ic f_X1_dearestByPlan (nx := 1) (v := 0) rfl (by decide) rfl ?_
  refine ev_loc f_X1_dearestByPlan (nx := 2) (lo' := [(2, .int 0), (0, .ref 28), (1, .ref 3)]) rfl rfl rfl rfl ?_
  refine ev_ic f_X1_dearestByPlan (nx := 3) (v := -1) rfl (by decide) rfl ?_
  refine ev_loc f_X1_dearestByPlan (nx := 4) (lo' := [(3, .int (-1)), (2, .int 0), (0, .ref 28), (1, .ref 3)]) rfl rfl rfl rfl ?_
  refine ev_ic f_X1_dearestByPlan (nx := 5) (v := 0) rfl (by decide) rfl ?_
  refine ev_loc f_X1_dearestByPlan (nx := 7) (lo' := [(4, .int 0), (3, .int (-1)), (2, .int 0), (0, .ref 28), (1, .ref 3)]) rfl rfl rfl rfl ?_
  refine ev_loc f_X1_dearestByPlan (nx := 9) rfl rfl rfl rfl ?_
  refine ev_loc f_X1_dearestByPlan (nx := 10) rfl rfl rfl rfl ?_
  refine ev_getR f_X1_dearestByPlan (nx := 13) rfl (hW.s rfl) rfl rfl (hW.r rfl) rfl rfl ?_
  refine ev_gvI f_X1_dearestByPlan (nx := 16) (w := 0) rfl (hW.s rfl) rfl rfl (wi_6_0 (gi := gi) hR) rfl ?_
  refine ev_t f_X1_dearestByPlan (t1 := 52) (t2 := 19) rfl rfl rfl (by decide) ?_
  refine ev_ic f_X1_dearestByPlan (nx := 53) (v := 0) rfl (by decide) rfl ?_
  refine ev_loc f_X1_dearestByPlan (nx := 55) (lo' := [(4, .int 0), (3, .int (-1)), (2, .int 0), (0, .ref 28), (1, .ref 3)]) rfl rfl rfl rfl ?_
  refine ev_loc f_X1_dearestByPlan (nx := 57) rfl rfl rfl rfl ?_
  refine ev_loc f_X1_dearestByPlan (nx := 58) rfl rfl rfl rfl ?_
  refine ev_getR f_X1_dearestByPlan (nx := 61) rfl (hW.s rfl) rfl rfl (hW.r rfl) rfl rfl ?_
  refine ev_gvI f_X1_dearestByPlan (nx := 64) (w := 0) rfl (hW.s rfl) rfl rfl (wi_13_0 (gi := gi) hR) rfl ?_
  refine ev_t f_X1_dearestByPlan (t1 := 103) (t2 := 67) rfl rfl rfl (by decide) ?_
  refine ev_loc f_X1_dearestByPlan (nx := 104) rfl rfl rfl rfl ?_
  refine ev_retK1 f_X1_dearestByPlan rfl rfl rfl ?_
  refine ev_jmp f_X11_dearest (nx := 36) rfl rfl rfl ?_
  refine ev_loc f_X11_dearest (nx := 37) (lo' := [(1, .int (-1)), (0, .ref 0)]) rfl rfl rfl rfl ?_
  refine ev_loc f_X11_dearest (nx := 38) rfl rfl rfl rfl ?_
  refine ev_ic f_X11_dearest (nx := 39) (v := -1) rfl (by decide) rfl ?_
  refine ev_t f_X11_dearest (t1 := 42) (t2 := 51) rfl rfl rfl (by decide) ?_
  refine ev_loc f_X11_dearest (nx := 43) rfl rfl rfl rfl ?_
  refine ev_bp f_X11_dearest (nx := 45) (v := 6) rfl (by decide) rfl ?_
  refine ev_inV2 f_X11_dearest (nx := 48) (lo2 := [(0, .ref 0), (1, .int 6)]) rfl rfl rfl rfl f_X11_refuse (hW.s rfl) rfl rfl rfl rfl rfl ?_
  refine ev_loc f_X11_refuse (nx := 1) rfl rfl rfl rfl ?_
  refine ev_loc f_X11_refuse (nx := 2) rfl rfl rfl rfl ?_
  refine ev_putI f_X11_refuse (nx := 5) rfl (hW.s rfl) rfl rfl rfl ?_
  refine ev_ic f_X11_refuse (nx := 6) (v := -1) rfl (by decide) rfl ?_
  refine ev_retK1 f_X11_refuse rfl rfl rfl ?_
  refine ev_jmp f_X11_dearest (nx := 56) rfl rfl rfl ?_
  refine ev_retK1 f_X11_dearest rfl rfl rfl ?_
  refine ev_loc f_L_law (nx := 1456) rfl rfl rfl rfl ?_
  refine ev_inV1 f_L_law (nx := 1459) (lo2 := [(0, .ref 69)]) rfl rfl rfl rfl f_X12_dearest (hW.s rfl) rfl rfl rfl rfl rfl ?_
  refine ev_loc f_X12_dearest (nx := 1) rfl rfl rfl rfl ?_
  refine ev_inV1 f_X12_dearest (nx := 4) (lo2 := [(0, .ref 69)]) rfl rfl rfl rfl f_X12_plans (hW.s rfl) rfl rfl rfl rfl rfl ?_
  refine ev_loc f_X12_plans (nx := 1) rfl rfl rfl rfl ?_
  refine ev_ic f_X12_plans (nx := 2) (v := 0) rfl (by decide) rfl ?_
  refine ev_loc f_X12_plans (nx := 3) rfl rfl rfl rfl ?_
  refine ev_getR f_X12_plans (nx := 6) rfl (hW.s rfl) rfl rfl (hW.r rfl) rfl rfl ?_
  refine ev_ic f_X12_plans (nx := 7) (v := 4) rfl (by decide) rfl ?_
  refine ev_ialdv f_X12_plans (nx := 8) (j := 4) (w := 5) rfl (hW.s rfl) (by decide) (by decide) (by decide) (wi_70_4 (gi := gi) hR) rfl ?_
  refine ev_inV3 f_X12_plans (nx := 11) (lo2 := [(0, .ref 69), (1, .int 0), (2, .int 5)]) rfl rfl rfl rfl f_X12_leastBy (hW.s rfl) rfl rfl rfl rfl rfl ?_
  refine ev_loc f_X12_leastBy (nx := 1) rfl rfl rfl rfl ?_
  refine ev_inV1 f_X12_leastBy (nx := 4) (lo2 := [(0, .ref 69)]) rfl rfl rfl rfl f_X12_tellsMinutes (hW.s rfl) rfl rfl rfl rfl rfl ?_
  refine ev_ic f_X12_tellsMinutes (nx := 1) (v := 0) rfl (by decide) rfl ?_
  refine ev_loc f_X12_tellsMinutes (nx := 2) (lo' := [(1, .int 0), (0, .ref 69)]) rfl rfl rfl rfl ?_
  refine ev_loc f_X12_tellsMinutes (nx := 3) rfl rfl rfl rfl ?_
  refine ev_bp f_X12_tellsMinutes (nx := 5) (v := 6) rfl (by decide) rfl ?_
  refine ev_f f_X12_tellsMinutes (t1 := 33) (t2 := 8) rfl rfl rfl (by decide) ?_
  refine ev_loc f_X12_tellsMinutes (nx := 9) rfl rfl rfl rfl ?_
  refine ev_getR f_X12_tellsMinutes (nx := 12) rfl (hW.s rfl) rfl rfl (hW.r rfl) rfl rfl ?_
  refine ev_loc f_X12_tellsMinutes (nx := 13) rfl rfl rfl rfl ?_
  refine ev_loc f_X12_tellsMinutes (nx := 14) rfl rfl rfl rfl ?_
  refine ev_getR f_X12_tellsMinutes (nx := 17) rfl (hW.s rfl) rfl rfl (hW.r rfl) rfl rfl ?_
  refine ev_bp f_X12_tellsMinutes (nx := 19) (v := 52) rfl (by decide) rfl ?_
  refine ev_ic f_X12_tellsMinutes (nx := 20) (v := 5) rfl (by decide) rfl ?_
  refine ev_loc f_X12_tellsMinutes (nx := 21) rfl rfl rfl rfl ?_
  refine ev_aluvI f_X12_tellsMinutes (nx := 22) (w := 0) rfl rfl rfl (by decide) rfl ?_
  refine ev_aluvI f_X12_tellsMinutes (nx := 23) (w := 52) rfl rfl rfl (by decide) rfl ?_
  refine ev_ic f_X12_tellsMinutes (nx := 24) (v := 1) rfl (by decide) rfl ?_
  refine ev_aluvI f_X12_tellsMinutes (nx := 25) (w := 53) rfl rfl rfl (by decide) rfl ?_
  refine ev_ialdv f_X12_tellsMinutes (nx := 26) (j := 53) (w := 0) rfl (hW.s rfl) (by decide) (by decide) (by decide) (wi_70_53 (gi := gi) hR) rfl ?_
  refine ev_iastv f_X12_tellsMinutes (nx := 27) (j := 0) rfl (hW.s rfl) (by decide) (by decide) (by decide) rfl ?_
  refine ev_incv f_X12_tellsMinutes (nx := 30) (c := 1) (w := 1) (lo' := [(1, .int 1), (0, .ref 69)]) rfl rfl (by decide) (by decide) rfl rfl rfl ?_
  refine ev_jmp f_X12_tellsMinutes (nx := 2) rfl rfl rfl ?_
  refine ev_loc f_X12_tellsMinutes (nx := 3) rfl rfl rfl rfl ?_
  refine ev_bp f_X12_tellsMinutes (nx := 5) (v := 6) rfl (by decide) rfl ?_
  refine ev_f f_X12_tellsMinutes (t1 := 33) (t2 := 8) rfl rfl rfl (by decide) ?_
  refine ev_loc f_X12_tellsMinutes (nx := 9) rfl rfl rfl rfl ?_
  refine ev_getR f_X12_tellsMinutes (nx := 12) rfl (hW.s rfl) rfl rfl (hW.r rfl) rfl rfl ?_
  refine ev_loc f_X12_tellsMinutes (nx := 13) rfl rfl rfl rfl ?_
  refine ev_loc f_X12_tellsMinutes (nx := 14) rfl rfl rfl rfl ?_
  refine ev_getR f_X12_tellsMinutes (nx := 17) rfl (hW.s rfl) rfl rfl (hW.r rfl) rfl rfl ?_
  refine ev_bp f_X12_tellsMinutes (nx := 19) (v := 52) rfl (by decide) rfl ?_
  refine ev_ic f_X12_tellsMinutes (nx := 20) (v := 5) rfl (by decide) rfl ?_
  refine ev_loc f_X12_tellsMinutes (nx := 21) rfl rfl rfl rfl ?_
  refine ev_aluvI f_X12_tellsMinutes (nx := 22) (w := 5) rfl rfl rfl (by decide) rfl ?_
  refine ev_aluvI f_X12_tellsMinutes (nx := 23) (w := 57) rfl rfl rfl (by decide) rfl ?_
  refine ev_ic f_X12_tellsMinutes (nx := 24) (v := 1) rfl (by decide) rfl ?_
  refine ev_aluvI f_X12_tellsMinutes (nx := 25) (w := 58) rfl rfl rfl (by decide) rfl ?_
  refine ev_ialdv f_X12_tellsMinutes (nx := 26) (j := 58) (w := 0) rfl (hW.s rfl) (by decide) (by decide) (by decide) (wi_70_58 (gi := gi) hR) rfl ?_
  refine ev_iastv f_X12_tellsMinutes (nx := 27) (j := 1) rfl (hW.s rfl) (by decide) (by decide) (by decide) rfl ?_
  refine ev_incv f_X12_tellsMinutes (nx := 30) (c := 1) (w := 2) (lo' := [(1, .int 2), (0, .ref 69)]) rfl rfl (by decide) (by decide) rfl rfl rfl ?_
  refine ev_jmp f_X12_tellsMinutes (nx := 2) rfl rfl rfl ?_
  refine ev_loc f_X12_tellsMinutes (nx := 3) rfl rfl rfl rfl ?_
  refine ev_bp f_X12_tellsMinutes (nx := 5) (v := 6) rfl (by decide) rfl ?_
  refine ev_f f_X12_tellsMinutes (t1 := 33) (t2 := 8) rfl rfl rfl (by decide) ?_
  refine ev_loc f_X12_tellsMinutes (nx := 9) rfl rfl rfl rfl ?_
  refine ev_getR f_X12_tellsMinutes (nx := 12) rfl (hW.s rfl) rfl rfl (hW.r rfl) rfl rfl ?_
  refine ev_loc f_X12_tellsMinutes (nx := 13) rfl rfl rfl rfl ?_
  refine ev_loc f_X12_tellsMinutes (nx := 14) rfl rfl rfl rfl ?_
  refine ev_getR f_X12_tellsMinutes (nx := 17) rfl (hW.s rfl) rfl rfl (hW.r rfl) rfl rfl ?_
  refine ev_bp f_X12_tellsMinutes (nx := 19) (v := 52) rfl (by decide) rfl ?_
  refine ev_ic f_X12_tellsMinutes (nx := 20) (v := 5) rfl (by decide) rfl ?_
  refine ev_loc f_X12_tellsMinutes (nx := 21) rfl rfl rfl rfl ?_
  refine ev_aluvI f_X12_tellsMinutes (nx := 22) (w := 10) rfl rfl rfl (by decide) rfl ?_
  refine ev_aluvI f_X12_tellsMinutes (nx := 23) (w := 62) rfl rfl rfl (by decide) rfl ?_
  refine ev_ic f_X12_tellsMinutes (nx := 24) (v := 1) rfl (by decide) rfl ?_
  refine ev_aluvI f_X12_tellsMinutes (nx := 25) (w := 63) rfl rfl rfl (by decide) rfl ?_
  refine ev_ialdv f_X12_tellsMinutes (nx := 26) (j := 63) (w := 0) rfl (hW.s rfl) (by decide) (by decide) (by decide) (wi_70_63 (gi := gi) hR) rfl ?_
  refine ev_iastv f_X12_tellsMinutes (nx := 27) (j := 2) rfl (hW.s rfl) (by decide) (by decide) (by decide) rfl ?_
  refine ev_incv f_X12_tellsMinutes (nx := 30) (c := 1) (w := 3) (lo' := [(1, .int 3), (0, .ref 69)]) rfl rfl (by decide) (by decide) rfl rfl rfl ?_
  refine ev_jmp f_X12_tellsMinutes (nx := 2) rfl rfl rfl ?_
  refine ev_loc f_X12_tellsMinutes (nx := 3) rfl rfl rfl rfl ?_
  refine ev_bp f_X12_tellsMinutes (nx := 5) (v := 6) rfl (by decide) rfl ?_
  refine ev_f f_X12_tellsMinutes (t1 := 33) (t2 := 8) rfl rfl rfl (by decide) ?_
  refine ev_loc f_X12_tellsMinutes (nx := 9) rfl rfl rfl rfl ?_
  refine ev_getR f_X12_tellsMinutes (nx := 12) rfl (hW.s rfl) rfl rfl (hW.r rfl) rfl rfl ?_
  refine ev_loc f_X12_tellsMinutes (nx := 13) rfl rfl rfl rfl ?_
  refine ev_loc f_X12_tellsMinutes (nx := 14) rfl rfl rfl rfl ?_
  refine ev_getR f_X12_tellsMinutes (nx := 17) rfl (hW.s rfl) rfl rfl (hW.r rfl) rfl rfl ?_
  refine ev_bp f_X12_tellsMinutes (nx := 19) (v := 52) rfl (by decide) rfl ?_
  refine ev_ic f_X12_tellsMinutes (nx := 20) (v := 5) rfl (by decide) rfl ?_
  refine ev_loc f_X12_tellsMinutes (nx := 21) rfl rfl rfl rfl ?_
  refine ev_aluvI f_X12_tellsMinutes (nx := 22) (w := 15) rfl rfl rfl (by decide) rfl ?_
  refine ev_aluvI f_X12_tellsMinutes (nx := 23) (w := 67) rfl rfl rfl (by decide) rfl ?_
  refine ev_ic f_X12_tellsMinutes (nx := 24) (v := 1) rfl (by decide) rfl ?_
  refine ev_aluvI f_X12_tellsMinutes (nx := 25) (w := 68) rfl rfl rfl (by decide) rfl ?_
  refine ev_ialdv f_X12_tellsMinutes (nx := 26) (j := 68) (w := 0) rfl (hW.s rfl) (by decide) (by decide) (by decide) (wi_70_68 (gi := gi) hR) rfl ?_
  refine ev_iastv f_X12_tellsMinutes (nx := 27) (j := 3) rfl (hW.s rfl) (by decide) (by decide) (by decide) rfl ?_
  refine ev_incv f_X12_tellsMinutes (nx := 30) (c := 1) (w := 4) (lo' := [(1, .int 4), (0, .ref 69)]) rfl rfl (by decide) (by decide) rfl rfl rfl ?_
  refine ev_jmp f_X12_tellsMinutes (nx := 2) rfl rfl rfl ?_
  refine ev_loc f_X12_tellsMinutes (nx := 3) rfl rfl rfl rfl ?_
  refine ev_bp f_X12_tellsMinutes (nx := 5) (v := 6) rfl (by decide) rfl ?_
  refine ev_f f_X12_tellsMinutes (t1 := 33) (t2 := 8) rfl rfl rfl (by decide) ?_
  refine ev_loc f_X12_tellsMinutes (nx := 9) rfl rfl rfl rfl ?_
  refine ev_getR f_X12_tellsMinutes (nx := 12) rfl (hW.s rfl) rfl rfl (hW.r rfl) rfl rfl ?_
  refine ev_loc f_X12_tellsMinutes (nx := 13) rfl rfl rfl rfl ?_
  refine ev_loc f_X12_tellsMinutes (nx := 14) rfl rfl rfl rfl ?_
  refine ev_getR f_X12_tellsMinutes (nx := 17) rfl (hW.s rfl) rfl rfl (hW.r rfl) rfl rfl ?_
  refine ev_bp f_X12_tellsMinutes (nx := 19) (v := 52) rfl (by decide) rfl ?_
  refine ev_ic f_X12_tellsMinutes (nx := 20) (v := 5) rfl (by decide) rfl ?_
  refine ev_loc f_X12_tellsMinutes (nx := 21) rfl rfl rfl rfl ?_
  refine ev_aluvI f_X12_tellsMinutes (nx := 22) (w := 20) rfl rfl rfl (by decide) rfl ?_
  refine ev_aluvI f_X12_tellsMinutes (nx := 23) (w := 72) rfl rfl rfl (by decide) rfl ?_
  refine ev_ic f_X12_tellsMinutes (nx := 24) (v := 1) rfl (by decide) rfl ?_
  refine ev_aluvI f_X12_tellsMinutes (nx := 25) (w := 73) rfl rfl rfl (by decide) rfl ?_
  refine ev_ialdv f_X12_tellsMinutes (nx := 26) (j := 73) (w := 0) rfl (hW.s rfl) (by decide) (by decide) (by decide) (wi_70_73 (gi := gi) hR) rfl ?_
  refine ev_iastv f_X12_tellsMinutes (nx := 27) (j := 4) rfl (hW.s rfl) (by decide) (by decide) (by decide) rfl ?_
  refine ev_incv f_X12_tellsMinutes (nx := 30) (c := 1) (w := 5) (lo' := [(1, .int 5), (0, .ref 69)]) rfl rfl (by decide) (by decide) rfl rfl rfl ?_
  refine ev_jmp f_X12_tellsMinutes (nx := 2) rfl rfl rfl ?_
  refine ev_loc f_X12_tellsMinutes (nx := 3) rfl rfl rfl rfl ?_
  refine ev_bp f_X12_tellsMinutes (nx := 5) (v := 6) rfl (by decide) rfl ?_
  refine ev_f f_X12_tellsMinutes (t1 := 33) (t2 := 8) rfl rfl rfl (by decide) ?_
  refine ev_loc f_X12_tellsMinutes (nx := 9) rfl rfl rfl rfl ?_
  refine ev_getR f_X12_tellsMinutes (nx := 12) rfl (hW.s rfl) rfl rfl (hW.r rfl) rfl rfl ?_
  refine ev_loc f_X12_tellsMinutes (nx := 13) rfl rfl rfl rfl ?_
  refine ev_loc f_X12_tellsMinutes (nx := 14) rfl rfl rfl rfl ?_
  refine ev_getR f_X12_tellsMinutes (nx := 17) rfl (hW.s rfl) rfl rfl (hW.r rfl) rfl rfl ?_
  refine ev_bp f_X12_tellsMinutes (nx := 19) (v := 52) rfl (by decide) rfl ?_
  refine ev_ic f_X12_tellsMinutes (nx := 20) (v := 5) rfl (by decide) rfl ?_
  refine ev_loc f_X12_tellsMinutes (nx := 21) rfl rfl rfl rfl ?_
  refine ev_aluvI f_X12_tellsMinutes (nx := 22) (w := 25) rfl rfl rfl (by decide) rfl ?_
  refine ev_aluvI f_X12_tellsMinutes (nx := 23) (w := 77) rfl rfl rfl (by decide) rfl ?_
  refine ev_ic f_X12_tellsMinutes (nx := 24) (v := 1) rfl (by decide) rfl ?_
  refine ev_aluvI f_X12_tellsMinutes (nx := 25) (w := 78) rfl rfl rfl (by decide) rfl ?_
  refine ev_ialdv f_X12_tellsMinutes (nx := 26) (j := 78) (w := 0) rfl (hW.s rfl) (by decide) (by decide) (by decide) (wi_70_78 (gi := gi) hR) rfl ?_
  refine ev_iastv f_X12_tellsMinutes (nx := 27) (j := 5) rfl (hW.s rfl) (by decide) (by decide) (by decide) rfl ?_
  refine ev_incv f_X12_tellsMinutes (nx := 30) (c := 1) (w := 6) (lo' := [(1, .int 6), (0, .ref 69)]) rfl rfl (by decide) (by decide) rfl rfl rfl ?_
  refine ev_jmp f_X12_tellsMinutes (nx := 2) rfl rfl rfl ?_
  refine ev_loc f_X12_tellsMinutes (nx := 3) rfl rfl rfl rfl ?_
  refine ev_bp f_X12_tellsMinutes (nx := 5) (v := 6) rfl (by decide) rfl ?_
  refine ev_t f_X12_tellsMinutes (t1 := 33) (t2 := 8) rfl rfl rfl (by decide) ?_
  refine ev_ic f_X12_tellsMinutes (nx := 34) (v := 0) rfl (by decide) rfl ?_
  refine ev_loc f_X12_tellsMinutes (nx := 35) (lo' := [(1, .int 0), (0, .ref 69)]) rfl rfl rfl rfl ?_
  refine ev_loc f_X12_tellsMinutes (nx := 36) rfl rfl rfl rfl ?_
  refine ev_bp f_X12_tellsMinutes (nx := 38) (v := 6) rfl (by decide) rfl ?_
  refine ev_f f_X12_tellsMinutes (t1 := 67) (t2 := 41) rfl rfl rfl (by decide) ?_
  refine ev_loc f_X12_tellsMinutes (nx := 42) rfl rfl rfl rfl ?_
  refine ev_getR f_X12_tellsMinutes (nx := 45) rfl (hW.s rfl) rfl rfl (hW.r rfl) rfl rfl ?_
  refine ev_bp f_X12_tellsMinutes (nx := 47) (v := 6) rfl (by decide) rfl ?_
  refine ev_loc f_X12_tellsMinutes (nx := 48) rfl rfl rfl rfl ?_
  refine ev_aluvI f_X12_tellsMinutes (nx := 49) (w := 6) rfl rfl rfl (by decide) rfl ?_
  refine ev_loc f_X12_tellsMinutes (nx := 50) rfl rfl rfl rfl ?_
  refine ev_getR f_X12_tellsMinutes (nx := 53) rfl (hW.s rfl) rfl rfl (hW.r rfl) rfl rfl ?_
  refine ev_bp f_X12_tellsMinutes (nx := 55) (v := 82) rfl (by decide) rfl ?_
  refine ev_ic f_X12_tellsMinutes (nx := 56) (v := 3) rfl (by decide) rfl ?_
  refine ev_loc f_X12_tellsMinutes (nx := 57) rfl rfl rfl rfl ?_
  refine ev_aluvI f_X12_tellsMinutes (nx := 58) (w := 0) rfl rfl rfl (by decide) rfl ?_
  refine ev_aluvI f_X12_tellsMinutes (nx := 59) (w := 82) rfl rfl rfl (by decide) rfl ?_
  refine ev_ialdv f_X12_tellsMinutes (nx := 60) (j := 82) (w := 0) rfl (hW.s rfl) (by decide) (by decide) (by decide) (wi_70_82 (gi := gi) hR) rfl ?_
  refine ev_iastv f_X12_tellsMinutes (nx := 61) (j := 6) rfl (hW.s rfl) (by decide) (by decide) (by decide) rfl ?_
  refine ev_incv f_X12_tellsMinutes (nx := 64) (c := 1) (w := 1) (lo' := [(1, .int 1), (0, .ref 69)]) rfl rfl (by decide) (by decide) rfl rfl rfl ?_
  refine ev_jmp f_X12_tellsMinutes (nx := 35) rfl rfl rfl ?_
  refine ev_loc f_X12_tellsMinutes (nx := 36) rfl rfl rfl rfl ?_
  refine ev_bp f_X12_tellsMinutes (nx := 38) (v := 6) rfl (by decide) rfl ?_
  refine ev_f f_X12_tellsMinutes (t1 := 67) (t2 := 41) rfl rfl rfl (by decide) ?_
  refine ev_loc f_X12_tellsMinutes (nx := 42) rfl rfl rfl rfl ?_
  refine ev_getR f_X12_tellsMinutes (nx := 45) rfl (hW.s rfl) rfl rfl (hW.r rfl) rfl rfl ?_
  refine ev_bp f_X12_tellsMinutes (nx := 47) (v := 6) rfl (by decide) rfl ?_
  refine ev_loc f_X12_tellsMinutes (nx := 48) rfl rfl rfl rfl ?_
  refine ev_aluvI f_X12_tellsMinutes (nx := 49) (w := 7) rfl rfl rfl (by decide) rfl ?_
  refine ev_loc f_X12_tellsMinutes (nx := 50) rfl rfl rfl rfl ?_
  refine ev_getR f_X12_tellsMinutes (nx := 53) rfl (hW.s rfl) rfl rfl (hW.r rfl) rfl rfl ?_
  refine ev_bp f_X12_tellsMinutes (nx := 55) (v := 82) rfl (by decide) rfl ?_
  refine ev_ic f_X12_tellsMinutes (nx := 56) (v := 3) rfl (by decide) rfl ?_
  refine ev_loc f_X12_tellsMinutes (nx := 57) rfl rfl rfl rfl ?_
  refine ev_aluvI f_X12_tellsMinutes (nx := 58) (w := 3) rfl rfl rfl (by decide) rfl ?_
  refine ev_aluvI f_X12_tellsMinutes (nx := 59) (w := 85) rfl rfl rfl (by decide) rfl ?_
  refine ev_ialdv f_X12_tellsMinutes (nx := 60) (j := 85) (w := 0) rfl (hW.s rfl) (by decide) (by decide) (by decide) (wi_70_85 (gi := gi) hR) rfl ?_
  refine ev_iastv f_X12_tellsMinutes (nx := 61) (j := 7) rfl (hW.s rfl) (by decide) (by decide) (by decide) rfl ?_
  refine ev_incv f_X12_tellsMinutes (nx := 64) (c := 1) (w := 2) (lo' := [(1, .int 2), (0, .ref 69)]) rfl rfl (by decide) (by decide) rfl rfl rfl ?_
  refine ev_jmp f_X12_tellsMinutes (nx := 35) rfl rfl rfl ?_
  refine ev_loc f_X12_tellsMinutes (nx := 36) rfl rfl rfl rfl ?_
  refine ev_bp f_X12_tellsMinutes (nx := 38) (v := 6) rfl (by decide) rfl ?_
  refine ev_f f_X12_tellsMinutes (t1 := 67) (t2 := 41) rfl rfl rfl (by decide) ?_
  refine ev_loc f_X12_tellsMinutes (nx := 42) rfl rfl rfl rfl ?_
  refine ev_getR f_X12_tellsMinutes (nx := 45) rfl (hW.s rfl) rfl rfl (hW.r rfl) rfl rfl ?_
  refine ev_bp f_X12_tellsMinutes (nx := 47) (v := 6) rfl (by decide) rfl ?_
  refine ev_loc f_X12_tellsMinutes (nx := 48) rfl rfl rfl rfl ?_
  refine ev_aluvI f_X12_tellsMinutes (nx := 49) (w := 8) rfl rfl rfl (by decide) rfl ?_
  refine ev_loc f_X12_tellsMinutes (nx := 50) rfl rfl rfl rfl ?_
  refine ev_getR f_X12_tellsMinutes (nx := 53) rfl (hW.s rfl) rfl rfl (hW.r rfl) rfl rfl ?_
  refine ev_bp f_X12_tellsMinutes (nx := 55) (v := 82) rfl (by decide) rfl ?_
  refine ev_ic f_X12_tellsMinutes (nx := 56) (v := 3) rfl (by decide) rfl ?_
  refine ev_loc f_X12_tellsMinutes (nx := 57) rfl rfl rfl rfl ?_
  refine ev_aluvI f_X12_tellsMinutes (nx := 58) (w := 6) rfl rfl rfl (by decide) rfl ?_
  refine ev_aluvI f_X12_tellsMinutes (nx := 59) (w := 88) rfl rfl rfl (by decide) rfl ?_
  refine ev_ialdv f_X12_tellsMinutes (nx := 60) (j := 88) (w := 0) rfl (hW.s rfl) (by decide) (by decide) (by decide) (wi_70_88 (gi := gi) hR) rfl ?_
  refine ev_iastv f_X12_tellsMinutes (nx := 61) (j := 8) rfl (hW.s rfl) (by decide) (by decide) (by decide) rfl ?_
  refine ev_incv f_X12_tellsMinutes (nx := 64) (c := 1) (w := 3) (lo' := [(1, .int 3), (0, .ref 69)]) rfl rfl (by decide) (by decide) rfl rfl rfl ?_
  refine ev_jmp f_X12_tellsMinutes (nx := 35) rfl rfl rfl ?_
  refine ev_loc f_X12_tellsMinutes (nx := 36) rfl rfl rfl rfl ?_
  refine ev_bp f_X12_tellsMinutes (nx := 38) (v := 6) rfl (by decide) rfl ?_
  refine ev_f f_X12_tellsMinutes (t1 := 67) (t2 := 41) rfl rfl rfl (by decide) ?_
  refine ev_loc f_X12_tellsMinutes (nx := 42) rfl rfl rfl rfl ?_
  refine ev_getR f_X12_tellsMinutes (nx := 45) rfl (hW.s rfl) rfl rfl (hW.r rfl) rfl rfl ?_
  refine ev_bp f_X12_tellsMinutes (nx := 47) (v := 6) rfl (by decide) rfl ?_
  refine ev_loc f_X12_tellsMinutes (nx := 48) rfl rfl rfl rfl ?_
  refine ev_aluvI f_X12_tellsMinutes (nx := 49) (w := 9) rfl rfl rfl (by decide) rfl ?_
  refine ev_loc f_X12_tellsMinutes (nx := 50) rfl rfl rfl rfl ?_
  refine ev_getR f_X12_tellsMinutes (nx := 53) rfl (hW.s rfl) rfl rfl (hW.r rfl) rfl rfl ?_
  refine ev_bp f_X12_tellsMinutes (nx := 55) (v := 82) rfl (by decide) rfl ?_
  refine ev_ic f_X12_tellsMinutes (nx := 56) (v := 3) rfl (by decide) rfl ?_
  refine ev_loc f_X12_tellsMinutes (nx := 57) rfl rfl rfl rfl ?_
  refine ev_aluvI f_X12_tellsMinutes (nx := 58) (w := 9) rfl rfl rfl (by decide) rfl ?_
  refine ev_aluvI f_X12_tellsMinutes (nx := 59) (w := 91) rfl rfl rfl (by decide) rfl ?_
  refine ev_ialdv f_X12_tellsMinutes (nx := 60) (j := 91) (w := 0) rfl (hW.s rfl) (by decide) (by decide) (by decide) (wi_70_91 (gi := gi) hR) rfl ?_
  refine ev_iastv f_X12_tellsMinutes (nx := 61) (j := 9) rfl (hW.s rfl) (by decide) (by decide) (by decide) rfl ?_
  refine ev_incv f_X12_tellsMinutes (nx := 64) (c := 1) (w := 4) (lo' := [(1, .int 4), (0, .ref 69)]) rfl rfl (by decide) (by decide) rfl rfl rfl ?_
  refine ev_jmp f_X12_tellsMinutes (nx := 35) rfl rfl rfl ?_
  refine ev_loc f_X12_tellsMinutes (nx := 36) rfl rfl rfl rfl ?_
  refine ev_bp f_X12_tellsMinutes (nx := 38) (v := 6) rfl (by decide) rfl ?_
  refine ev_f f_X12_tellsMinutes (t1 := 67) (t2 := 41) rfl rfl rfl (by decide) ?_
  refine ev_loc f_X12_tellsMinutes (nx := 42) rfl rfl rfl rfl ?_
  refine ev_getR f_X12_tellsMinutes (nx := 45) rfl (hW.s rfl) rfl rfl (hW.r rfl) rfl rfl ?_
  refine ev_bp f_X12_tellsMinutes (nx := 47) (v := 6) rfl (by decide) rfl ?_
  refine ev_loc f_X12_tellsMinutes (nx := 48) rfl rfl rfl rfl ?_
  refine ev_aluvI f_X12_tellsMinutes (nx := 49) (w := 10) rfl rfl rfl (by decide) rfl ?_
  refine ev_loc f_X12_tellsMinutes (nx := 50) rfl rfl rfl rfl ?_
  refine ev_getR f_X12_tellsMinutes (nx := 53) rfl (hW.s rfl) rfl rfl (hW.r rfl) rfl rfl ?_
  refine ev_bp f_X12_tellsMinutes (nx := 55) (v := 82) rfl (by decide) rfl ?_
  refine ev_ic f_X12_tellsMinutes (nx := 56) (v := 3) rfl (by decide) rfl ?_
  refine ev_loc f_X12_tellsMinutes (nx := 57) rfl rfl rfl rfl ?_
  refine ev_aluvI f_X12_tellsMinutes (nx := 58) (w := 12) rfl rfl rfl (by decide) rfl ?_
  refine ev_aluvI f_X12_tellsMinutes (nx := 59) (w := 94) rfl rfl rfl (by decide) rfl ?_
  refine ev_ialdv f_X12_tellsMinutes (nx := 60) (j := 94) (w := 0) rfl (hW.s rfl) (by decide) (by decide) (by decide) (wi_70_94 (gi := gi) hR) rfl ?_
  refine ev_iastv f_X12_tellsMinutes (nx := 61) (j := 10) rfl (hW.s rfl) (by decide) (by decide) (by decide) rfl ?_
  refine ev_incv f_X12_tellsMinutes (nx := 64) (c := 1) (w := 5) (lo' := [(1, .int 5), (0, .ref 69)]) rfl rfl (by decide) (by decide) rfl rfl rfl ?_
  refine ev_jmp f_X12_tellsMinutes (nx := 35) rfl rfl rfl ?_
  refine ev_loc f_X12_tellsMinutes (nx := 36) rfl rfl rfl rfl ?_
  refine ev_bp f_X12_tellsMinutes (nx := 38) (v := 6) rfl (by decide) rfl ?_
  refine ev_f f_X12_tellsMinutes (t1 := 67) (t2 := 41) rfl rfl rfl (by decide) ?_
  refine ev_loc f_X12_tellsMinutes (nx := 42) rfl rfl rfl rfl ?_
  refine ev_getR f_X12_tellsMinutes (nx := 45) rfl (hW.s rfl) rfl rfl (hW.r rfl) rfl rfl ?_
  refine ev_bp f_X12_tellsMinutes (nx := 47) (v := 6) rfl (by decide) rfl ?_
  refine ev_loc f_X12_tellsMinutes (nx := 48) rfl rfl rfl rfl ?_
  refine ev_aluvI f_X12_tellsMinutes (nx := 49) (w := 11) rfl rfl rfl (by decide) rfl ?_
  refine ev_loc f_X12_tellsMinutes (nx := 50) rfl rfl rfl rfl ?_
  refine ev_getR f_X12_tellsMinutes (nx := 53) rfl (hW.s rfl) rfl rfl (hW.r rfl) rfl rfl ?_
  refine ev_bp f_X12_tellsMinutes (nx := 55) (v := 82) rfl (by decide) rfl ?_
  refine ev_ic f_X12_tellsMinutes (nx := 56) (v := 3) rfl (by decide) rfl ?_
  refine ev_loc f_X12_tellsMinutes (nx := 57) rfl rfl rfl rfl ?_
  refine ev_aluvI f_X12_tellsMinutes (nx := 58) (w := 15) rfl rfl rfl (by decide) rfl ?_
  refine ev_aluvI f_X12_tellsMinutes (nx := 59) (w := 97) rfl rfl rfl (by decide) rfl ?_
  refine ev_ialdv f_X12_tellsMinutes (nx := 60) (j := 97) (w := 0) rfl (hW.s rfl) (by decide) (by decide) (by decide) (wi_70_97 (gi := gi) hR) rfl ?_
  refine ev_iastv f_X12_tellsMinutes (nx := 61) (j := 11) rfl (hW.s rfl) (by decide) (by decide) (by decide) rfl ?_
  refine ev_incv f_X12_tellsMinutes (nx := 64) (c := 1) (w := 6) (lo' := [(1, .int 6), (0, .ref 69)]) rfl rfl (by decide) (by decide) rfl rfl rfl ?_
  refine ev_jmp f_X12_tellsMinutes (nx := 35) rfl rfl rfl ?_
  refine ev_loc f_X12_tellsMinutes (nx := 36) rfl rfl rfl rfl ?_
  refine ev_bp f_X12_tellsMinutes (nx := 38) (v := 6) rfl (by decide) rfl ?_
  refine ev_t f_X12_tellsMinutes (t1 := 67) (t2 := 41) rfl rfl rfl (by decide) ?_
  refine ev_retK0 f_X12_tellsMinutes rfl rfl rfl ?_
  refine ev_loc f_X12_leastBy (nx := 5) rfl rfl rfl rfl ?_
  refine ev_loc f_X12_leastBy (nx := 6) rfl rfl rfl rfl ?_
  refine ev_inV2 f_X12_leastBy (nx := 9) (lo2 := [(0, .ref 69), (1, .int 0)]) rfl rfl rfl rfl f_X12_orders (hW.s rfl) rfl rfl rfl rfl rfl ?_
  refine ev_loc f_X12_orders (nx := 1) rfl rfl rfl rfl ?_
  refine ev_ic f_X12_orders (nx := 2) (v := 0) rfl (by decide) rfl ?_
  refine ev_putI f_X12_orders (nx := 5) rfl (hW.s rfl) rfl rfl rfl ?_
  refine ev_loc f_X12_orders (nx := 6) rfl rfl rfl rfl ?_
  refine ev_ic f_X12_orders (nx := 7) (v := 0) rfl (by decide) rfl ?_
  refine ev_putI f_X12_orders (nx := 10) rfl (hW.s rfl) rfl rfl rfl ?_
  refine ev_ic f_X12_orders (nx := 11) (v := 0) rfl (by decide) rfl ?_
  refine ev_loc f_X12_orders (nx := 12) (lo' := [(2, .int 0), (0, .ref 69), (1, .int 0)]) rfl rfl rfl rfl ?_
  refine ev_loc f_X12_orders (nx := 13) rfl rfl rfl rfl ?_
  refine ev_loc f_X12_orders (nx := 14) rfl rfl rfl rfl ?_
  refine ev_getR f_X12_orders (nx := 17) rfl (hW.s rfl) rfl rfl (hW.r rfl) rfl rfl ?_
  refine ev_ic f_X12_orders (nx := 18) (v := 1) rfl (by decide) rfl ?_
  refine ev_ialdv f_X12_orders (nx := 19) (j := 1) (w := 0) rfl (hW.s rfl) (by decide) (by decide) (by decide) (wi_70_1 (gi := gi) hR) rfl ?_
  refine ev_t f_X12_orders (t1 := 108) (t2 := 22) rfl rfl rfl (by decide) ?_
  refine ev_ic f_X12_orders (nx := 109) (v := 0) rfl (by decide) rfl ?_
  refine ev_loc f_X12_orders (nx := 110) (lo' := [(2, .int 0), (0, .ref 69), (1, .int 0)]) rfl rfl rfl rfl ?_
  refine ev_loc f_X12_orders (nx := 111) rfl rfl rfl rfl ?_
  refine ev_loc f_X12_orders (nx := 112) rfl rfl rfl rfl ?_
  refine ev_getR f_X12_orders (nx := 115) rfl (hW.s rfl) rfl rfl (hW.r rfl) rfl rfl ?_
  refine ev_ic f_X12_orders (nx := 116) (v := 2) rfl (by decide) rfl ?_
  refine ev_ialdv f_X12_orders (nx := 117) (j := 2) (w := 0) rfl (hW.s rfl) (by decide) (by decide) (by decide) (wi_70_2 (gi := gi) hR) rfl ?_
  refine ev_t f_X12_orders (t1 := 211) (t2 := 120) rfl rfl rfl (by decide) ?_
  refine ev_retK0 f_X12_orders rfl rfl rfl ?_
  refine ev_loc f_X12_leastBy (nx := 10) rfl rfl rfl rfl ?_
  refine ev_loc f_X12_leastBy (nx := 11) rfl rfl rfl rfl ?_
  refine ev_putI f_X12_leastBy (nx := 14) rfl (hW.s rfl) rfl rfl rfl ?_
  refine ev_loc f_X12_leastBy (nx := 15) rfl rfl rfl rfl ?_
  refine ev_cM f_X12_leastBy (nx := 18) (st2 := [.int 0]) rfl rfl rfl rfl rfl rfl (l_rk hW rfl rfl (wi_70_5 (gi := gi) hR) (wz_92 (gi := gi) hR)) rfl rfl ?_
  refine ev_retK1 f_X12_leastBy rfl rfl rfl ?_
  refine ev_ic f_X12_plans (nx := 12) (v := -1) rfl (by decide) rfl ?_
  refine ev_f f_X12_plans (t1 := 15) (t2 := 17) rfl rfl rfl (by decide) ?_
  refine ev_loc f_X12_plans (nx := 18) rfl rfl rfl rfl ?_
  refine ev_ic f_X12_plans (nx := 19) (v := 0) rfl (by decide) rfl ?_
  refine ev_putI f_X12_plans (nx := 22) rfl (hW.s rfl) rfl rfl rfl ?_
  refine ev_loc f_X12_plans (nx := 23) rfl rfl rfl rfl ?_
  refine ev_ic f_X12_plans (nx := 24) (v := 0) rfl (by decide) rfl ?_
  refine ev_putI f_X12_plans (nx := 27) rfl (hW.s rfl) rfl rfl rfl ?_
  refine ev_ic f_X12_plans (nx := 28) (v := 0) rfl (by decide) rfl ?_
  refine ev_loc f_X12_plans (nx := 29) (lo' := [(1, .int 0), (0, .ref 69)]) rfl rfl rfl rfl ?_
  refine ev_ic f_X12_plans (nx := 30) (v := 0) rfl (by decide) rfl ?_
  refine ev_loc f_X12_plans (nx := 31) (lo' := [(2, .int 0), (1, .int 0), (0, .ref 69)]) rfl rfl rfl rfl ?_
  refine ev_ic f_X12_plans (nx := 32) (v := 0) rfl (by decide) rfl ?_
  refine ev_loc f_X12_plans (nx := 33) (lo' := [(3, .int 0), (2, .int 0), (1, .int 0), (0, .ref 69)]) rfl rfl rfl rfl ?_
  refine ev_ic f_X12_plans (nx := 34) (v := 0) rfl (by decide) rfl ?_
  refine ev_loc f_X12_plans (nx := 36) (lo' := [(4, .int 0), (3, .int 0), (2, .int 0), (1, .int 0), (0, .ref 69)]) rfl rfl rfl rfl ?_
  refine ev_loc f_X12_plans (nx := 37) rfl rfl rfl rfl ?_
  refine ev_loc f_X12_plans (nx := 38) rfl rfl rfl rfl ?_
  refine ev_gvI f_X12_plans (nx := 41) (w := 0) rfl (hW.s rfl) rfl rfl rfl rfl ?_
  refine ev_f f_X12_plans (t1 := 53) (t2 := 44) rfl rfl rfl (by decide) ?_
  refine ev_loc f_X12_plans (nx := 46) rfl rfl rfl rfl ?_
  refine ev_loc f_X12_plans (nx := 47) rfl rfl rfl rfl ?_
  refine ev_gvI f_X12_plans (nx := 50) (w := 0) rfl (hW.s rfl) rfl rfl rfl rfl ?_
  refine ev_t f_X12_plans (t1 := 225) (t2 := 53) rfl rfl rfl (by decide) ?_
  refine ev_loc f_X12_plans (nx := 226) rfl rfl rfl rfl ?_
  refine ev_loc f_X12_plans (nx := 227) rfl rfl rfl rfl ?_
  refine ev_putI f_X12_plans (nx := 230) rfl (hW.s rfl) rfl rfl rfl ?_
  refine ev_ic f_X12_plans (nx := 231) (v := 1) rfl (by decide) rfl ?_
  refine ev_retK1 f_X12_plans rfl rfl rfl ?_
  refine ev_f f_X12_dearest (t1 := 7) (t2 := 14) rfl rfl rfl (by decide) ?_
  refine ev_ic f_X12_dearest (nx := 15) (v := -1) rfl (by decide) rfl ?_
  refine ev_loc f_X12_dearest (nx := 16) (lo' := [(1, .int (-1)), (0, .ref 69)]) rfl rfl rfl rfl ?_
  refine ev_ic f_X12_dearest (nx := 17) (v := 0) rfl (by decide) rfl ?_
  refine ev_loc f_X12_dearest (nx := 18) (lo' := [(2, .int 0), (1, .int (-1)), (0, .ref 69)]) rfl rfl rfl rfl ?_
  refine ev_ic f_X12_dearest (nx := 19) (v := 0) rfl (by decide) rfl ?_
  refine ev_loc f_X12_dearest (nx := 20) (lo' := [(3, .int 0), (2, .int 0), (1, .int (-1)), (0, .ref 69)]) rfl rfl rfl rfl ?_
  refine ev_loc f_X12_dearest (nx := 21) rfl rfl rfl rfl ?_
  refine ev_loc f_X12_dearest (nx := 22) rfl rfl rfl rfl ?_
  refine ev_gvI f_X12_dearest (nx := 25) (w := 0) rfl (hW.s rfl) rfl rfl rfl rfl ?_
  refine ev_t f_X12_dearest (t1 := 128) (t2 := 28) rfl rfl rfl (by decide) ?_
  refine ev_loc f_X12_dearest (nx := 129) rfl rfl rfl rfl ?_
  refine ev_loc f_X12_dearest (nx := 130) rfl rfl rfl rfl ?_
  refine ev_inV2 f_X12_dearest (nx := 133) (lo2 := [(0, .ref 69), (1, .int (-1))]) rfl rfl rfl rfl f_X12_orNone (hW.s rfl) rfl rfl rfl rfl rfl ?_
  refine ev_loc f_X12_orNone (nx := 1) rfl rfl rfl rfl ?_
  refine ev_ic f_X12_orNone (nx := 2) (v := -1) rfl (by decide) rfl ?_
  refine ev_t f_X12_orNone (t1 := 5) (t2 := 14) rfl rfl rfl (by decide) ?_
  refine ev_loc f_X12_orNone (nx := 6) rfl rfl rfl rfl ?_
  refine ev_bp f_X12_orNone (nx := 8) (v := 6) rfl (by decide) rfl ?_
  refine ev_inV2 f_X12_orNone (nx := 11) (lo2 := [(0, .ref 69), (1, .int 6)]) rfl rfl rfl rfl f_X12_refuse (hW.s rfl) rfl rfl rfl rfl rfl ?_
  refine ev_loc f_X12_refuse (nx := 1) rfl rfl rfl rfl ?_
  refine ev_loc f_X12_refuse (nx := 2) rfl rfl rfl rfl ?_
  refine ev_putI f_X12_refuse (nx := 5) rfl (hW.s rfl) rfl rfl rfl ?_
  refine ev_ic f_X12_refuse (nx := 6) (v := -1) rfl (by decide) rfl ?_
  refine ev_retK1 f_X12_refuse rfl rfl rfl ?_
  refine ev_jmp f_X12_orNone (nx := 19) rfl rfl rfl ?_
  refine ev_retK1 f_X12_orNone rfl rfl rfl ?_
  refine ev_retK1 f_X12_dearest rfl rfl rfl ?_
  refine ev_t f_L_law (t1 := 1628) (t2 := 1462) rfl rfl rfl (by decide) ?_
  refine ev_incv f_L_law (nx := 1631) (c := 6) (w := 6) (lo' := [(3, .int 6), (2, .ref 69), (1, .ref 0), (0, .retAddr 30)]) rfl rfl (by decide) (by decide) rfl rfl rfl ?_
  refine ev_jmp f_L_law (nx := 18) rfl rfl rfl ?_
  refine ev_loc f_L_law (nx := 19) rfl rfl rfl rfl ?_
  refine ev_loc f_L_law (nx := 20) rfl rfl rfl rfl ?_
  refine ev_alenX f_L_law (nx := 21) rfl hX rfl ?_
  refine ev_bp f_L_law (nx := 23) (v := 6) rfl (by decide) rfl ?_
  refine ev_aluvI f_L_law (nx := 24) (w := 0) rfl rfl rfl (by decide) rfl ?_
  refine ev_t f_L_law (t1 := 1634) (t2 := 27) rfl rfl rfl (by decide) ?_
  refine ev_ic f_L_law (nx := 1635) (v := 1) rfl (by decide) rfl ?_
  refine ev_ret f_L_law rfl rfl rfl ?_
  exact ⟨rfl, hz⟩
end XC
