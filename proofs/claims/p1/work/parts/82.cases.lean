/-! ===== printed by gen65.py: calls walked in place ===== -/
section XC
variable {X : x_Ext} {sh : List (Nat ⊕ (Nat × Nat))} {gi : Nat → Nat → Int32} {gl : Nat → Nat → Int64} {gr : Nat → Nat → Value}
set_option maxRecDepth 20000 in
theorem pc_35 (hR : x_R W1 (sh, gi, gl, gr)) (hX : X.1 = 6) : x_Ev X 1000 n_L_law 1336 [(3, .int 0), (2, .ref 69), (1, .ref 0), (0, .retAddr 30)] [] (sh, gi, gl, gr) x_P1 := by
  have hW := W1_WF hR
  have hz := W1_hz hR
  refine ev_loc f_L_law (nx := 1337) rfl rfl rfl rfl ?_
  refine ev_loc f_L_law (nx := 1338) rfl rfl rfl rfl ?_
  refine ev_loc f_L_law (nx := 1339) rfl rfl rfl rfl ?_
  refine ev_ic f_L_law (nx := 1340) (v := 1) rfl (by decide) rfl ?_
  refine ev_aluvI f_L_law (nx := 1341) (w := 1) rfl rfl rfl (by decide) rfl ?_
  refine ev_scr f_L_law (nx := 1342) (j := 1) rfl hX (by decide) (by decide) (by decide) rfl ?_
  refine ev_inV2 f_L_law (nx := 1345) (lo2 := [(0, .ref 0), (1, .int ((X.2 1)))]) rfl rfl rfl rfl f_X11_quicker (hW.s rfl) rfl rfl rfl rfl rfl ?_
  refine ev_loc f_X11_quicker (nx := 1) rfl rfl rfl rfl ?_
  refine ev_ic f_X11_quicker (nx := 2) (v := 1) rfl (by decide) rfl ?_
  refine ev_if f_X11_quicker (t1 := 11) (t2 := 5) rfl rfl rfl (fun h10 => ?_) (fun h10 => ?_)
  · have q10 := h10; rw [Int32.lt_iff_toInt_lt, (by decide : (1 : Int32).toInt = 1)] at q10
    refine ev_loc f_X11_quicker (nx := 12) rfl rfl rfl rfl ?_
    refine ev_ic f_X11_quicker (nx := 13) (v := 1) rfl (by decide) rfl ?_
    refine ev_inV2 f_X11_quicker (nx := 16) (lo2 := [(0, .ref 0), (1, .int 1)]) rfl rfl rfl rfl f_X11_refuse (hW.s rfl) rfl rfl rfl rfl rfl ?_
    refine ev_loc f_X11_refuse (nx := 1) rfl rfl rfl rfl ?_
    refine ev_loc f_X11_refuse (nx := 2) rfl rfl rfl rfl ?_
    refine ev_putI f_X11_refuse (nx := 5) rfl (hW.s rfl) rfl rfl rfl ?_
    refine ev_ic f_X11_refuse (nx := 6) (v := -1) rfl (by decide) rfl ?_
    refine ev_retK1 f_X11_refuse rfl rfl rfl ?_
    refine ev_retK1 f_X11_quicker rfl rfl rfl ?_
    refine ev_loc f_L_law (nx := 1346) rfl rfl rfl rfl ?_
    refine ev_loc f_L_law (nx := 1347) rfl rfl rfl rfl ?_
    refine ev_loc f_L_law (nx := 1348) rfl rfl rfl rfl ?_
    refine ev_ic f_L_law (nx := 1349) (v := 1) rfl (by decide) rfl ?_
    refine ev_aluvI f_L_law (nx := 1350) (w := 1) rfl rfl rfl (by decide) rfl ?_
    refine ev_scr f_L_law (nx := 1351) (j := 1) rfl hX (by decide) (by decide) (by decide) rfl ?_
    refine ev_inV2 f_L_law (nx := 1354) (lo2 := [(0, .ref 69), (1, .int ((X.2 1)))]) rfl rfl rfl rfl f_X12_quicker (hW.s rfl) rfl rfl rfl rfl rfl ?_
    refine ev_loc f_X12_quicker (nx := 1) rfl rfl rfl rfl ?_
    refine ev_alu f_X12_quicker (nx := 2) rfl rfl rfl rfl ?_
    refine ev_lc f_X12_quicker (nx := 3) (v := 1) rfl (by decide) rfl ?_
    refine ev_ldL f_X12_quicker (nx := 6) (v := 20) rfl (by decide) rfl ?_
    refine ev_inS3 f_X12_quicker (nx := 9) (lo2 := [(0, .long (((X.2 1) : Int32).toInt64)), (2, .long 1), (4, .long 20)]) rfl rfl rfl rfl f_X12_isFrom rfl rfl rfl rfl ?_
    refine ev_loc f_X12_isFrom (nx := 1) rfl rfl rfl rfl ?_
    refine ev_loc f_X12_isFrom (nx := 2) rfl rfl rfl rfl ?_
    refine ev_alu f_X12_isFrom (nx := 3) rfl rfl rfl rfl ?_
    refine ev_t f_X12_isFrom (t1 := 17) (t2 := 6) rfl rfl rfl (by rw [lgc_lt (n := 1) (by decide)]; omega) ?_
    refine ev_ic f_X12_isFrom (nx := 18) (v := 0) rfl (by decide) rfl ?_
    refine ev_retK1 f_X12_isFrom rfl rfl rfl ?_
    refine ev_t f_X12_quicker (t1 := 25) (t2 := 12) rfl rfl rfl (by decide) ?_
    refine ev_loc f_X12_quicker (nx := 26) rfl rfl rfl rfl ?_
    refine ev_ic f_X12_quicker (nx := 27) (v := 1) rfl (by decide) rfl ?_
    refine ev_inV2 f_X12_quicker (nx := 30) (lo2 := [(0, .ref 69), (1, .int 1)]) rfl rfl rfl rfl f_X12_refuse (hW.s rfl) rfl rfl rfl rfl rfl ?_
    refine ev_loc f_X12_refuse (nx := 1) rfl rfl rfl rfl ?_
    refine ev_loc f_X12_refuse (nx := 2) rfl rfl rfl rfl ?_
    refine ev_putI f_X12_refuse (nx := 5) rfl (hW.s rfl) rfl rfl rfl ?_
    refine ev_ic f_X12_refuse (nx := 6) (v := -1) rfl (by decide) rfl ?_
    refine ev_retK1 f_X12_refuse rfl rfl rfl ?_
    refine ev_retK1 f_X12_quicker rfl rfl rfl ?_
    refine ev_t f_L_law (t1 := 1628) (t2 := 1357) rfl rfl rfl (by decide) ?_
    refine ev_incv f_L_law (nx := 1631) (c := 6) (w := 6) (lo' := [(3, .int 6), (2, .ref 69), (1, .ref 0), (0, .retAddr 30)]) rfl rfl (by decide) (by decide) rfl rfl rfl ?_
    refine ev_jmp f_L_law (nx := 18) rfl rfl rfl ?_
    refine ev_loc f_L_law (nx := 19) rfl rfl rfl rfl ?_
    refine ev_loc f_L_law (nx := 20) rfl rfl rfl rfl ?_
    refine ev_alenX f_L_law (nx := 21) rfl hX rfl ?_
    refine ev_bp f_L_law (nx := 23) (v := 6) rfl (by decide) rfl ?_
    refine ev_aluvI f_L_law (nx := 24) (w := 0) rfl rfl rfl (by decide) rfl ?_
    refine ev_t f_L_law (t1 := 1634) (t2 := 27) rfl rfl rfl (by decide) ?_
    refine ev_ic f_L_law (nx := 1635) (v := 1) rfl (by decide) rfl ?_
    refine ev_ret f_L_law rfl rfl rfl ?_
    exact ⟨rfl, hz⟩
  · have q10 := h10; rw [Int32.lt_iff_toInt_lt, (by decide : (1 : Int32).toInt = 1)] at q10
    refine ev_loc f_X11_quicker (nx := 6) rfl rfl rfl rfl ?_
    refine ev_bp f_X11_quicker (nx := 8) (v := 20) rfl (by decide) rfl ?_
    refine ev_if f_X11_quicker (t1 := 17) (t2 := 11) rfl rfl rfl (fun h61 => ?_) (fun h61 => ?_)
    · have q61 := h61; rw [Int32.le_iff_toInt_le, (by decide : (20 : Int32).toInt = 20)] at q61
      refine ev_loc f_X11_quicker (nx := 18) rfl rfl rfl rfl ?_
      refine ev_getR f_X11_quicker (nx := 21) rfl (hW.s rfl) rfl rfl (hW.r rfl) rfl rfl ?_
      refine ev_loc f_X11_quicker (nx := 22) rfl rfl rfl rfl ?_
      refine ev_getR f_X11_quicker (nx := 25) rfl (hW.s rfl) rfl rfl (wr_0_6 (gr := gr) hR) rfl rfl ?_
      refine ev_inV2 f_X11_quicker (nx := 28) (lo2 := [(0, .ref 28), (1, .ref 3)]) rfl rfl rfl rfl f_X1_takeAll (hW.s rfl) rfl rfl rfl rfl rfl ?_
      refine ev_loc f_X1_takeAll (nx := 1) rfl rfl rfl rfl ?_
      refine ev_loc f_X1_takeAll (nx := 2) rfl rfl rfl rfl ?_
      refine ev_putR f_X1_takeAll (nx := 5) rfl (hW.s rfl) rfl rfl rfl rfl ?_
      replace hW := x_WF_up hW (k := 28) (j := 0) (v := .ref 3) rfl
      refine ev_loc f_X1_takeAll (nx := 6) rfl rfl rfl rfl ?_
      refine ev_loc f_X1_takeAll (nx := 7) rfl rfl rfl rfl ?_
      refine ev_gvI f_X1_takeAll (nx := 10) (w := 5) rfl (hW.s rfl) rfl rfl (wi_3_3 (gi := gi) hR) rfl ?_
      refine ev_putI f_X1_takeAll (nx := 13) rfl (hW.s rfl) rfl rfl rfl ?_
      refine ev_loc f_X1_takeAll (nx := 14) rfl rfl rfl rfl ?_
      refine ev_loc f_X1_takeAll (nx := 15) rfl rfl rfl rfl ?_
      refine ev_ic f_X1_takeAll (nx := 16) (v := 0) rfl (by decide) rfl ?_
      refine ev_ic f_X1_takeAll (nx := 17) (v := -1) rfl (by decide) rfl ?_
      refine ev_ic f_X1_takeAll (nx := 18) (v := 0) rfl (by decide) rfl ?_
      refine ev_inV5 f_X1_takeAll (nx := 21) (lo2 := [(0, .ref 28), (1, .ref 3), (2, .int 0), (3, .int (-1)), (4, .int 0)]) rfl rfl rfl rfl f_X1_takeShips (hW.s rfl) rfl rfl rfl rfl rfl ?_
      refine ev_loc f_X1_takeShips (nx := 1) rfl rfl rfl rfl ?_
      refine ev_getR f_X1_takeShips (nx := 4) rfl (hW.s rfl) rfl rfl (hW.r rfl) rfl rfl ?_
      refine ev_inV1 f_X1_takeShips (nx := 7) (lo2 := [(0, .ref 29)]) rfl rfl rfl rfl f_X4_clear (hW.s rfl) rfl rfl rfl rfl rfl ?_
      refine ev_loc f_X4_clear (nx := 1) rfl rfl rfl rfl ?_
      refine ev_ic f_X4_clear (nx := 2) (v := 0) rfl (by decide) rfl ?_
      refine ev_putI f_X4_clear (nx := 5) rfl (hW.s rfl) rfl rfl rfl ?_
      refine ev_retK0 f_X4_clear rfl rfl rfl ?_
      refine ev_ic f_X1_takeShips (nx := 8) (v := 0) rfl (by decide) rfl ?_
      refine ev_loc f_X1_takeShips (nx := 10) (lo' := [(5, .int 0), (0, .ref 28), (1, .ref 3), (2, .int 0), (3, .int (-1)), (4, .int 0)]) rfl rfl rfl rfl ?_
      refine ev_loc f_X1_takeShips (nx := 12) rfl rfl rfl rfl ?_
      refine ev_loc f_X1_takeShips (nx := 13) rfl rfl rfl rfl ?_
      refine ev_getR f_X1_takeShips (nx := 16) rfl (hW.s rfl) rfl rfl (hW.r rfl) rfl rfl ?_
      refine ev_gvI f_X1_takeShips (nx := 19) (w := 0) rfl (hW.s rfl) rfl rfl (wi_6_0 (gi := gi) hR) rfl ?_
      refine ev_t f_X1_takeShips (t1 := 77) (t2 := 22) rfl rfl rfl (by decide) ?_
      refine ev_retK0 f_X1_takeShips rfl rfl rfl ?_
      refine ev_loc f_X1_takeAll (nx := 22) rfl rfl rfl rfl ?_
      refine ev_loc f_X1_takeAll (nx := 23) rfl rfl rfl rfl ?_
      refine ev_ic f_X1_takeAll (nx := 24) (v := -1) rfl (by decide) rfl ?_
      refine ev_inV3 f_X1_takeAll (nx := 27) (lo2 := [(0, .ref 28), (1, .ref 3), (2, .int (-1))]) rfl rfl rfl rfl f_X1_takeCarts (hW.s rfl) rfl rfl rfl rfl rfl ?_
      refine ev_loc f_X1_takeCarts (nx := 1) rfl rfl rfl rfl ?_
      refine ev_getR f_X1_takeCarts (nx := 4) rfl (hW.s rfl) rfl rfl (hW.r rfl) rfl rfl ?_
      refine ev_inV1 f_X1_takeCarts (nx := 7) (lo2 := [(0, .ref 35)]) rfl rfl rfl rfl f_X4_clear (hW.s rfl) rfl rfl rfl rfl rfl ?_
      refine ev_loc f_X4_clear (nx := 1) rfl rfl rfl rfl ?_
      refine ev_ic f_X4_clear (nx := 2) (v := 0) rfl (by decide) rfl ?_
      refine ev_putI f_X4_clear (nx := 5) rfl (hW.s rfl) rfl rfl rfl ?_
      refine ev_retK0 f_X4_clear rfl rfl rfl ?_
      refine ev_ic f_X1_takeCarts (nx := 8) (v := 0) rfl (by decide) rfl ?_
      refine ev_loc f_X1_takeCarts (nx := 9) (lo' := [(3, .int 0), (0, .ref 28), (1, .ref 3), (2, .int (-1))]) rfl rfl rfl rfl ?_
      refine ev_loc f_X1_takeCarts (nx := 10) rfl rfl rfl rfl ?_
      refine ev_loc f_X1_takeCarts (nx := 11) rfl rfl rfl rfl ?_
      refine ev_getR f_X1_takeCarts (nx := 14) rfl (hW.s rfl) rfl rfl (hW.r rfl) rfl rfl ?_
      refine ev_gvI f_X1_takeCarts (nx := 17) (w := 0) rfl (hW.s rfl) rfl rfl (wi_13_0 (gi := gi) hR) rfl ?_
      refine ev_t f_X1_takeCarts (t1 := 52) (t2 := 20) rfl rfl rfl (by decide) ?_
      refine ev_retK0 f_X1_takeCarts rfl rfl rfl ?_
      refine ev_retK0 f_X1_takeAll rfl rfl rfl ?_
      refine ev_loc f_X11_quicker (nx := 29) rfl rfl rfl rfl ?_
      refine ev_getR f_X11_quicker (nx := 32) rfl (hW.s rfl) rfl rfl (hW.r rfl) rfl rfl ?_
      refine ev_loc f_X11_quicker (nx := 33) rfl rfl rfl rfl ?_
      refine ev_putI f_X11_quicker (nx := 36) rfl (hW.s rfl) rfl rfl rfl ?_
      refine ev_loc f_X11_quicker (nx := 37) rfl rfl rfl rfl ?_
      refine ev_loc f_X11_quicker (nx := 38) rfl rfl rfl rfl ?_
      refine ev_getR f_X11_quicker (nx := 41) rfl (hW.s rfl) rfl rfl (hW.r rfl) rfl rfl ?_
      refine ev_inV1 f_X11_quicker (nx := 44) (lo2 := [(0, .ref 28)]) rfl rfl rfl rfl f_X1_leastWaits (hW.s rfl) rfl rfl rfl rfl rfl ?_
      refine ev_loc f_X1_leastWaits (nx := 1) rfl rfl rfl rfl ?_
      refine ev_ldI f_X1_leastWaits (nx := 3) (v := 1000000000) rfl (by decide) rfl ?_
      refine ev_putI f_X1_leastWaits (nx := 6) rfl (hW.s rfl) rfl rfl rfl ?_
      refine ev_loc f_X1_leastWaits (nx := 7) rfl rfl rfl rfl ?_
      refine ev_ic f_X1_leastWaits (nx := 8) (v := 0) rfl (by decide) rfl ?_
      refine ev_putI f_X1_leastWaits (nx := 11) rfl (hW.s rfl) rfl rfl rfl ?_
      refine ev_loc f_X1_leastWaits (nx := 12) rfl rfl rfl rfl ?_
      refine ev_ic f_X1_leastWaits (nx := 13) (v := 0) rfl (by decide) rfl ?_
      refine ev_ic f_X1_leastWaits (nx := 14) (v := 0) rfl (by decide) rfl ?_
      refine ev_ic f_X1_leastWaits (nx := 15) (v := 0) rfl (by decide) rfl ?_
      refine ev_ic f_X1_leastWaits (nx := 16) (v := 0) rfl (by decide) rfl ?_
      refine ev_ic f_X1_leastWaits (nx := 17) (v := 0) rfl (by decide) rfl ?_
      refine ev_inV6 f_X1_leastWaits (nx := 20) (lo2 := [(0, .ref 28), (1, .int 0), (2, .int 0), (3, .int 0), (4, .int 0), (5, .int 0)]) rfl rfl rfl rfl f_X1_search (hW.s rfl) rfl rfl rfl rfl rfl ?_
      refine ev_loc f_X1_search (nx := 2) rfl rfl rfl rfl ?_
      refine ev_loc f_X1_search (nx := 3) rfl rfl rfl rfl ?_
      refine ev_gvI f_X1_search (nx := 6) (w := 1000000000) rfl (hW.s rfl) rfl rfl rfl rfl ?_
      refine ev_f f_X1_search (t1 := 20) (t2 := 9) rfl rfl rfl (by decide) ?_
      refine ev_loc f_X1_search (nx := 10) rfl rfl rfl rfl ?_
      refine ev_gvI f_X1_search (nx := 13) (w := 1000000000) rfl (hW.s rfl) rfl rfl rfl rfl ?_
      refine ev_loc f_X1_search (nx := 14) rfl rfl rfl rfl ?_
      refine ev_gvI f_X1_search (nx := 17) (w := 0) rfl (hW.s rfl) rfl rfl rfl rfl ?_
      refine ev_t f_X1_search (t1 := 21) (t2 := 20) rfl rfl rfl (by decide) ?_
      refine ev_loc f_X1_search (nx := 22) rfl rfl rfl rfl ?_
      refine ev_loc f_X1_search (nx := 23) rfl rfl rfl rfl ?_
      refine ev_getR f_X1_search (nx := 26) rfl (hW.s rfl) rfl rfl (hW.r rfl) rfl rfl ?_
      refine ev_gvI f_X1_search (nx := 29) (w := 0) rfl (hW.s rfl) rfl rfl rfl rfl ?_
      refine ev_f f_X1_search (t1 := 51) (t2 := 32) rfl rfl rfl (by decide) ?_
      refine ev_loc f_X1_search (nx := 34) rfl rfl rfl rfl ?_
      refine ev_loc f_X1_search (nx := 35) rfl rfl rfl rfl ?_
      refine ev_getR f_X1_search (nx := 38) rfl (hW.s rfl) rfl rfl (hW.r rfl) rfl rfl ?_
      refine ev_gvI f_X1_search (nx := 41) (w := 0) rfl (hW.s rfl) rfl rfl rfl rfl ?_
      refine ev_f f_X1_search (t1 := 51) (t2 := 44) rfl rfl rfl (by decide) ?_
      refine ev_loc f_X1_search (nx := 45) rfl rfl rfl rfl ?_
      refine ev_loc f_X1_search (nx := 47) rfl rfl rfl rfl ?_
      refine ev_putI f_X1_search (nx := 50) rfl (hW.s rfl) rfl rfl rfl ?_
      refine ev_retK0 f_X1_search rfl rfl rfl ?_
      refine ev_loc f_X1_leastWaits (nx := 21) rfl rfl rfl rfl ?_
      refine ev_gvI f_X1_leastWaits (nx := 24) (w := 0) rfl (hW.s rfl) rfl rfl rfl rfl ?_
      refine ev_retK1 f_X1_leastWaits rfl rfl rfl ?_
      refine ev_inV2 f_X11_quicker (nx := 47) (lo2 := [(0, .ref 0), (1, .int 0)]) rfl rfl rfl rfl f_X11_answerWaits (hW.s rfl) rfl rfl rfl rfl rfl ?_
      refine ev_loc f_X11_answerWaits (nx := 1) rfl rfl rfl rfl ?_
      refine ev_ldW f_X11_answerWaits (nx := 4) (v := 1000000000) rfl (by decide) rfl ?_
      refine ev_t f_X11_answerWaits (t1 := 16) (t2 := 7) rfl rfl rfl (by decide) ?_
      refine ev_loc f_X11_answerWaits (nx := 17) rfl rfl rfl rfl ?_
      refine ev_loc f_X11_answerWaits (nx := 18) rfl rfl rfl rfl ?_
      refine ev_inV2 f_X11_answerWaits (nx := 21) (lo2 := [(0, .ref 0), (1, .int 0)]) rfl rfl rfl rfl f_X11_answer (hW.s rfl) rfl rfl rfl rfl rfl ?_
      refine ev_loc f_X11_answer (nx := 1) rfl rfl rfl rfl ?_
      refine ev_ic f_X11_answer (nx := 2) (v := 0) rfl (by decide) rfl ?_
      refine ev_putI f_X11_answer (nx := 5) rfl (hW.s rfl) rfl rfl rfl ?_
      refine ev_loc f_X11_answer (nx := 6) rfl rfl rfl rfl ?_
      refine ev_retK1 f_X11_answer rfl rfl rfl ?_
      refine ev_retK1 f_X11_answerWaits rfl rfl rfl ?_
      refine ev_retK1 f_X11_quicker rfl rfl rfl ?_
      refine ev_loc f_L_law (nx := 1346) rfl rfl rfl rfl ?_
      refine ev_loc f_L_law (nx := 1347) rfl rfl rfl rfl ?_
      refine ev_loc f_L_law (nx := 1348) rfl rfl rfl rfl ?_
      refine ev_ic f_L_law (nx := 1349) (v := 1) rfl (by decide) rfl ?_
      refine ev_aluvI f_L_law (nx := 1350) (w := 1) rfl rfl rfl (by decide) rfl ?_
      refine ev_scr f_L_law (nx := 1351) (j := 1) rfl hX (by decide) (by decide) (by decide) rfl ?_
      refine ev_inV2 f_L_law (nx := 1354) (lo2 := [(0, .ref 69), (1, .int ((X.2 1)))]) rfl rfl rfl rfl f_X12_quicker (hW.s rfl) rfl rfl rfl rfl rfl ?_
      refine ev_loc f_X12_quicker (nx := 1) rfl rfl rfl rfl ?_
      refine ev_alu f_X12_quicker (nx := 2) rfl rfl rfl rfl ?_
      refine ev_lc f_X12_quicker (nx := 3) (v := 1) rfl (by decide) rfl ?_
      refine ev_ldL f_X12_quicker (nx := 6) (v := 20) rfl (by decide) rfl ?_
      refine ev_inS3 f_X12_quicker (nx := 9) (lo2 := [(0, .long (((X.2 1) : Int32).toInt64)), (2, .long 1), (4, .long 20)]) rfl rfl rfl rfl f_X12_isFrom rfl rfl rfl rfl ?_
      refine ev_loc f_X12_isFrom (nx := 1) rfl rfl rfl rfl ?_
      refine ev_loc f_X12_isFrom (nx := 2) rfl rfl rfl rfl ?_
      refine ev_alu f_X12_isFrom (nx := 3) rfl rfl rfl rfl ?_
      refine ev_f f_X12_isFrom (t1 := 17) (t2 := 6) rfl rfl rfl (by rw [lgc_lt (n := 1) (by decide)]; omega) ?_
      refine ev_loc f_X12_isFrom (nx := 7) rfl rfl rfl rfl ?_
      refine ev_loc f_X12_isFrom (nx := 9) rfl rfl rfl rfl ?_
      refine ev_alu f_X12_isFrom (nx := 10) rfl rfl rfl rfl ?_
      refine ev_f f_X12_isFrom (t1 := 17) (t2 := 13) rfl rfl rfl (by rw [lgc_gt (n := 20) (by decide)]; omega) ?_
      refine ev_ic f_X12_isFrom (nx := 14) (v := 1) rfl (by decide) rfl ?_
      refine ev_jmp f_X12_isFrom (nx := 18) rfl rfl rfl ?_
      refine ev_retK1 f_X12_isFrom rfl rfl rfl ?_
      refine ev_f f_X12_quicker (t1 := 25) (t2 := 12) rfl rfl rfl (by decide) ?_
      refine ev_loc f_X12_quicker (nx := 13) rfl rfl rfl rfl ?_
      refine ev_loc f_X12_quicker (nx := 14) rfl rfl rfl rfl ?_
      refine ev_ic f_X12_quicker (nx := 15) (v := 0) rfl (by decide) rfl ?_
      refine ev_loc f_X12_quicker (nx := 16) rfl rfl rfl rfl ?_
      refine ev_inV3 f_X12_quicker (nx := 19) (lo2 := [(0, .ref 69), (1, .int 0), (2, .int ((X.2 1)))]) rfl rfl rfl rfl f_X12_leastBy (hW.s rfl) rfl rfl rfl rfl rfl ?_
      refine ev_loc f_X12_leastBy (nx := 1) rfl rfl rfl rfl ?_
      refine ev_inV1 f_X12_leastBy (nx := 4) (lo2 := [(0, .ref 69)]) rfl rfl rfl rfl f_X12_tellsMinutes (hW.s rfl) rfl rfl rfl rfl rfl ?_
      refine ev_ic f_X12_tellsMinutes (nx := 1) (v := 0) rfl (by decide) rfl ?_
      refine ev_loc f_X12_tellsMinutes (nx := 2) (lo' := [(1, .int 0), (0, .ref 69)]) rfl rfl rfl rfl ?_
      refine ev_loc f_X12_tellsMinutes (nx := 3) rfl rfl rfl rfl ?_
      refine ev_bp f_X12_tellsMinutes (nx := 5) (v := 6) rfl (by decide) rfl ?_
      refine ev_f f_X12_tellsMinutes (t1 := 33) (t2 := 8) rfl rfl rfl (by decide) ?_
      refine ev_loc f_X12_tellsMinutes (nx := 9) rfl rfl rfl rfl ?_
      refine ev_getR f_X12_tellsMinutes (nx := 12) rfl (hW.s rfl) rfl rfl (hW.r rfl) rfl rfl ?_
      refine ev_loc f_X12_tellsMinutes (nx := 13) rfl rfl rfl rfl ?_
      refine ev_loc f_X12_tellsMinutes (nx := 14) rfl rfl rfl rfl ?_
      refine ev_getR f_X12_tellsMinutes (nx := 17) rfl (hW.s rfl) rfl rfl (hW.r rfl) rfl rfl ?_
      refine ev_bp f_X12_tellsMinutes (nx := 19) (v := 52) rfl (by decide) rfl ?_
      refine ev_ic f_X12_tellsMinutes (nx := 20) (v := 5) rfl (by decide) rfl ?_
      refine ev_loc f_X12_tellsMinutes (nx := 21) rfl rfl rfl rfl ?_
      refine ev_aluvI f_X12_tellsMinutes (nx := 22) (w := 0) rfl rfl rfl (by decide) rfl ?_
      refine ev_aluvI f_X12_tellsMinutes (nx := 23) (w := 52) rfl rfl rfl (by decide) rfl ?_
      refine ev_ic f_X12_tellsMinutes (nx := 24) (v := 1) rfl (by decide) rfl ?_
      refine ev_aluvI f_X12_tellsMinutes (nx := 25) (w := 53) rfl rfl rfl (by decide) rfl ?_
      refine ev_ialdv f_X12_tellsMinutes (nx := 26) (j := 53) (w := 0) rfl (hW.s rfl) (by decide) (by decide) (by decide) (wi_70_53 (gi := gi) hR) rfl ?_
      refine ev_iastv f_X12_tellsMinutes (nx := 27) (j := 0) rfl (hW.s rfl) (by decide) (by decide) (by decide) rfl ?_
      refine ev_incv f_X12_tellsMinutes (nx := 30) (c := 1) (w := 1) (lo' := [(1, .int 1), (0, .ref 69)]) rfl rfl (by decide) (by decide) rfl rfl rfl ?_
      refine ev_jmp f_X12_tellsMinutes (nx := 2) rfl rfl rfl ?_
      refine ev_loc f_X12_tellsMinutes (nx := 3) rfl rfl rfl rfl ?_
      refine ev_bp f_X12_tellsMinutes (nx := 5) (v := 6) rfl (by decide) rfl ?_
      refine ev_f f_X12_tellsMinutes (t1 := 33) (t2 := 8) rfl rfl rfl (by decide) ?_
      refine ev_loc f_X12_tellsMinutes (nx := 9) rfl rfl rfl rfl ?_
      refine ev_getR f_X12_tellsMinutes (nx := 12) rfl (hW.s rfl) rfl rfl (hW.r rfl) rfl rfl ?_
      refine ev_loc f_X12_tellsMinutes (nx := 13) rfl rfl rfl rfl ?_
      refine ev_loc f_X12_tellsMinutes (nx := 14) rfl rfl rfl rfl ?_
      refine ev_getR f_X12_tellsMinutes (nx := 17) rfl (hW.s rfl) rfl rfl (hW.r rfl) rfl rfl ?_
      refine ev_bp f_X12_tellsMinutes (nx := 19) (v := 52) rfl (by decide) rfl ?_
      refine ev_ic f_X12_tellsMinutes (nx := 20) (v := 5) rfl (by decide) rfl ?_
      refine ev_loc f_X12_tellsMinutes (nx := 21) rfl rfl rfl rfl ?_
      refine ev_aluvI f_X12_tellsMinutes (nx := 22) (w := 5) rfl rfl rfl (by decide) rfl ?_
      refine ev_aluvI f_X12_tellsMinutes (nx := 23) (w := 57) rfl rfl rfl (by decide) rfl ?_
      refine ev_ic f_X12_tellsMinutes (nx := 24) (v := 1) rfl (by decide) rfl ?_
      refine ev_aluvI f_X12_tellsMinutes (nx := 25) (w := 58) rfl rfl rfl (by decide) rfl ?_
      refine ev_ialdv f_X12_tellsMinutes (nx := 26) (j := 58) (w := 0) rfl (hW.s rfl) (by decide) (by decide) (by decide) (wi_70_58 (gi := gi) hR) rfl ?_
      refine ev_iastv f_X12_tellsMinutes (nx := 27) (j := 1) rfl (hW.s rfl) (by decide) (by decide) (by decide) rfl ?_
      refine ev_incv f_X12_tellsMinutes (nx := 30) (c := 1) (w := 2) (lo' := [(1, .int 2), (0, .ref 69)]) rfl rfl (by decide) (by decide) rfl rfl rfl ?_
      refine ev_jmp f_X12_tellsMinutes (nx := 2) rfl rfl rfl ?_
      refine ev_loc f_X12_tellsMinutes (nx := 3) rfl rfl rfl rfl ?_
      refine ev_bp f_X12_tellsMinutes (nx := 5) (v := 6) rfl (by decide) rfl ?_
      refine ev_f f_X12_tellsMinutes (t1 := 33) (t2 := 8) rfl rfl rfl (by decide) ?_
      refine ev_loc f_X12_tellsMinutes (nx := 9) rfl rfl rfl rfl ?_
      refine ev_getR f_X12_tellsMinutes (nx := 12) rfl (hW.s rfl) rfl rfl (hW.r rfl) rfl rfl ?_
      refine ev_loc f_X12_tellsMinutes (nx := 13) rfl rfl rfl rfl ?_
      refine ev_loc f_X12_tellsMinutes (nx := 14) rfl rfl rfl rfl ?_
      refine ev_getR f_X12_tellsMinutes (nx := 17) rfl (hW.s rfl) rfl rfl (hW.r rfl) rfl rfl ?_
      refine ev_bp f_X12_tellsMinutes (nx := 19) (v := 52) rfl (by decide) rfl ?_
      refine ev_ic f_X12_tellsMinutes (nx := 20) (v := 5) rfl (by decide) rfl ?_
      refine ev_loc f_X12_tellsMinutes (nx := 21) rfl rfl rfl rfl ?_
      refine ev_aluvI f_X12_tellsMinutes (nx := 22) (w := 10) rfl rfl rfl (by decide) rfl ?_
      refine ev_aluvI f_X12_tellsMinutes (nx := 23) (w := 62) rfl rfl rfl (by decide) rfl ?_
      refine ev_ic f_X12_tellsMinutes (nx := 24) (v := 1) rfl (by decide) rfl ?_
      refine ev_aluvI f_X12_tellsMinutes (nx := 25) (w := 63) rfl rfl rfl (by decide) rfl ?_
      refine ev_ialdv f_X12_tellsMinutes (nx := 26) (j := 63) (w := 0) rfl (hW.s rfl) (by decide) (by decide) (by decide) (wi_70_63 (gi := gi) hR) rfl ?_
      refine ev_iastv f_X12_tellsMinutes (nx := 27) (j := 2) rfl (hW.s rfl) (by decide) (by decide) (by decide) rfl ?_
      refine ev_incv f_X12_tellsMinutes (nx := 30) (c := 1) (w := 3) (lo' := [(1, .int 3), (0, .ref 69)]) rfl rfl (by decide) (by decide) rfl rfl rfl ?_
      refine ev_jmp f_X12_tellsMinutes (nx := 2) rfl rfl rfl ?_
      refine ev_loc f_X12_tellsMinutes (nx := 3) rfl rfl rfl rfl ?_
      refine ev_bp f_X12_tellsMinutes (nx := 5) (v := 6) rfl (by decide) rfl ?_
      refine ev_f f_X12_tellsMinutes (t1 := 33) (t2 := 8) rfl rfl rfl (by decide) ?_
      refine ev_loc f_X12_tellsMinutes (nx := 9) rfl rfl rfl rfl ?_
      refine ev_getR f_X12_tellsMinutes (nx := 12) rfl (hW.s rfl) rfl rfl (hW.r rfl) rfl rfl ?_
      refine ev_loc f_X12_tellsMinutes (nx := 13) rfl rfl rfl rfl ?_
      refine ev_loc f_X12_tellsMinutes (nx := 14) rfl rfl rfl rfl ?_
      refine ev_getR f_X12_tellsMinutes (nx := 17) rfl (hW.s rfl) rfl rfl (hW.r rfl) rfl rfl ?_
      refine ev_bp f_X12_tellsMinutes (nx := 19) (v := 52) rfl (by decide) rfl ?_
      refine ev_ic f_X12_tellsMinutes (nx := 20) (v := 5) rfl (by decide) rfl ?_
      refine ev_loc f_X12_tellsMinutes (nx := 21) rfl rfl rfl rfl ?_
      refine ev_aluvI f_X12_tellsMinutes (nx := 22) (w := 15) rfl rfl rfl (by decide) rfl ?_
      refine ev_aluvI f_X12_tellsMinutes (nx := 23) (w := 67) rfl rfl rfl (by decide) rfl ?_
      refine ev_ic f_X12_tellsMinutes (nx := 24) (v := 1) rfl (by decide) rfl ?_
      refine ev_aluvI f_X12_tellsMinutes (nx := 25) (w := 68) rfl rfl rfl (by decide) rfl ?_
      refine ev_ialdv f_X12_tellsMinutes (nx := 26) (j := 68) (w := 0) rfl (hW.s rfl) (by decide) (by decide) (by decide) (wi_70_68 (gi := gi) hR) rfl ?_
      refine ev_iastv f_X12_tellsMinutes (nx := 27) (j := 3) rfl (hW.s rfl) (by decide) (by decide) (by decide) rfl ?_
      refine ev_incv f_X12_tellsMinutes (nx := 30) (c := 1) (w := 4) (lo' := [(1, .int 4), (0, .ref 69)]) rfl rfl (by decide) (by decide) rfl rfl rfl ?_
      refine ev_jmp f_X12_tellsMinutes (nx := 2) rfl rfl rfl ?_
      refine ev_loc f_X12_tellsMinutes (nx := 3) rfl rfl rfl rfl ?_
      refine ev_bp f_X12_tellsMinutes (nx := 5) (v := 6) rfl (by decide) rfl ?_
      refine ev_f f_X12_tellsMinutes (t1 := 33) (t2 := 8) rfl rfl rfl (by decide) ?_
      refine ev_loc f_X12_tellsMinutes (nx := 9) rfl rfl rfl rfl ?_
      refine ev_getR f_X12_tellsMinutes (nx := 12) rfl (hW.s rfl) rfl rfl (hW.r rfl) rfl rfl ?_
      refine ev_loc f_X12_tellsMinutes (nx := 13) rfl rfl rfl rfl ?_
      refine ev_loc f_X12_tellsMinutes (nx := 14) rfl rfl rfl rfl ?_
      refine ev_getR f_X12_tellsMinutes (nx := 17) rfl (hW.s rfl) rfl rfl (hW.r rfl) rfl rfl ?_
      refine ev_bp f_X12_tellsMinutes (nx := 19) (v := 52) rfl (by decide) rfl ?_
      refine ev_ic f_X12_tellsMinutes (nx := 20) (v := 5) rfl (by decide) rfl ?_
      refine ev_loc f_X12_tellsMinutes (nx := 21) rfl rfl rfl rfl ?_
      refine ev_aluvI f_X12_tellsMinutes (nx := 22) (w := 20) rfl rfl rfl (by decide) rfl ?_
      refine ev_aluvI f_X12_tellsMinutes (nx := 23) (w := 72) rfl rfl rfl (by decide) rfl ?_
      refine ev_ic f_X12_tellsMinutes (nx := 24) (v := 1) rfl (by decide) rfl ?_
      refine ev_aluvI f_X12_tellsMinutes (nx := 25) (w := 73) rfl rfl rfl (by decide) rfl ?_
      refine ev_ialdv f_X12_tellsMinutes (nx := 26) (j := 73) (w := 0) rfl (hW.s rfl) (by decide) (by decide) (by decide) (wi_70_73 (gi := gi) hR) rfl ?_
      refine ev_iastv f_X12_tellsMinutes (nx := 27) (j := 4) rfl (hW.s rfl) (by decide) (by decide) (by decide) rfl ?_
      refine ev_incv f_X12_tellsMinutes (nx := 30) (c := 1) (w := 5) (lo' := [(1, .int 5), (0, .ref 69)]) rfl rfl (by decide) (by decide) rfl rfl rfl ?_
      refine ev_jmp f_X12_tellsMinutes (nx := 2) rfl rfl rfl ?_
      refine ev_loc f_X12_tellsMinutes (nx := 3) rfl rfl rfl rfl ?_
      refine ev_bp f_X12_tellsMinutes (nx := 5) (v := 6) rfl (by decide) rfl ?_
      refine ev_f f_X12_tellsMinutes (t1 := 33) (t2 := 8) rfl rfl rfl (by decide) ?_
      refine ev_loc f_X12_tellsMinutes (nx := 9) rfl rfl rfl rfl ?_
      refine ev_getR f_X12_tellsMinutes (nx := 12) rfl (hW.s rfl) rfl rfl (hW.r rfl) rfl rfl ?_
      refine ev_loc f_X12_tellsMinutes (nx := 13) rfl rfl rfl rfl ?_
      refine ev_loc f_X12_tellsMinutes (nx := 14) rfl rfl rfl rfl ?_
      refine ev_getR f_X12_tellsMinutes (nx := 17) rfl (hW.s rfl) rfl rfl (hW.r rfl) rfl rfl ?_
      refine ev_bp f_X12_tellsMinutes (nx := 19) (v := 52) rfl (by decide) rfl ?_
      refine ev_ic f_X12_tellsMinutes (nx := 20) (v := 5) rfl (by decide) rfl ?_
      refine ev_loc f_X12_tellsMinutes (nx := 21) rfl rfl rfl rfl ?_
      refine ev_aluvI f_X12_tellsMinutes (nx := 22) (w := 25) rfl rfl rfl (by decide) rfl ?_
      refine ev_aluvI f_X12_tellsMinutes (nx := 23) (w := 77) rfl rfl rfl (by decide) rfl ?_
      refine ev_ic f_X12_tellsMinutes (nx := 24) (v := 1) rfl (by decide) rfl ?_
      refine ev_aluvI f_X12_tellsMinutes (nx := 25) (w := 78) rfl rfl rfl (by decide) rfl ?_
      refine ev_ialdv f_X12_tellsMinutes (nx := 26) (j := 78) (w := 0) rfl (hW.s rfl) (by decide) (by decide) (by decide) (wi_70_78 (gi := gi) hR) rfl ?_
      refine ev_iastv f_X12_tellsMinutes (nx := 27) (j := 5) rfl (hW.s rfl) (by decide) (by decide) (by decide) rfl ?_
      refine ev_incv f_X12_tellsMinutes (nx := 30) (c := 1) (w := 6) (lo' := [(1, .int 6), (0, .ref 69)]) rfl rfl (by decide) (by decide) rfl rfl rfl ?_
      refine ev_jmp f_X12_tellsMinutes (nx := 2) rfl rfl rfl ?_
      refine ev_loc f_X12_tellsMinutes (nx := 3) rfl rfl rfl rfl ?_
      refine ev_bp f_X12_tellsMinutes (nx := 5) (v := 6) rfl (by decide) rfl ?_
      refine ev_t f_X12_tellsMinutes (t1 := 33) (t2 := 8) rfl rfl rfl (by decide) ?_
      refine ev_ic f_X12_tellsMinutes (nx := 34) (v := 0) rfl (by decide) rfl ?_
      refine ev_loc f_X12_tellsMinutes (nx := 35) (lo' := [(1, .int 0), (0, .ref 69)]) rfl rfl rfl rfl ?_
      refine ev_loc f_X12_tellsMinutes (nx := 36) rfl rfl rfl rfl ?_
      refine ev_bp f_X12_tellsMinutes (nx := 38) (v := 6) rfl (by decide) rfl ?_
      refine ev_f f_X12_tellsMinutes (t1 := 67) (t2 := 41) rfl rfl rfl (by decide) ?_
      refine ev_loc f_X12_tellsMinutes (nx := 42) rfl rfl rfl rfl ?_
      refine ev_getR f_X12_tellsMinutes (nx := 45) rfl (hW.s rfl) rfl rfl (hW.r rfl) rfl rfl ?_
      refine ev_bp f_X12_tellsMinutes (nx := 47) (v := 6) rfl (by decide) rfl ?_
      refine ev_loc f_X12_tellsMinutes (nx := 48) rfl rfl rfl rfl ?_
      refine ev_aluvI f_X12_tellsMinutes (nx := 49) (w := 6) rfl rfl rfl (by decide) rfl ?_
      refine ev_loc f_X12_tellsMinutes (nx := 50) rfl rfl rfl rfl ?_
      refine ev_getR f_X12_tellsMinutes (nx := 53) rfl (hW.s rfl) rfl rfl (hW.r rfl) rfl rfl ?_
      refine ev_bp f_X12_tellsMinutes (nx := 55) (v := 82) rfl (by decide) rfl ?_
      refine ev_ic f_X12_tellsMinutes (nx := 56) (v := 3) rfl (by decide) rfl ?_
      refine ev_loc f_X12_tellsMinutes (nx := 57) rfl rfl rfl rfl ?_
      refine ev_aluvI f_X12_tellsMinutes (nx := 58) (w := 0) rfl rfl rfl (by decide) rfl ?_
      refine ev_aluvI f_X12_tellsMinutes (nx := 59) (w := 82) rfl rfl rfl (by decide) rfl ?_
      refine ev_ialdv f_X12_tellsMinutes (nx := 60) (j := 82) (w := 0) rfl (hW.s rfl) (by decide) (by decide) (by decide) (wi_70_82 (gi := gi) hR) rfl ?_
      refine ev_iastv f_X12_tellsMinutes (nx := 61) (j := 6) rfl (hW.s rfl) (by decide) (by decide) (by decide) rfl ?_
      refine ev_incv f_X12_tellsMinutes (nx := 64) (c := 1) (w := 1) (lo' := [(1, .int 1), (0, .ref 69)]) rfl rfl (by decide) (by decide) rfl rfl rfl ?_
      refine ev_jmp f_X12_tellsMinutes (nx := 35) rfl rfl rfl ?_
      refine ev_loc f_X12_tellsMinutes (nx := 36) rfl rfl rfl rfl ?_
      refine ev_bp f_X12_tellsMinutes (nx := 38) (v := 6) rfl (by decide) rfl ?_
      refine ev_f f_X12_tellsMinutes (t1 := 67) (t2 := 41) rfl rfl rfl (by decide) ?_
      refine ev_loc f_X12_tellsMinutes (nx := 42) rfl rfl rfl rfl ?_
      refine ev_getR f_X12_tellsMinutes (nx := 45) rfl (hW.s rfl) rfl rfl (hW.r rfl) rfl rfl ?_
      refine ev_bp f_X12_tellsMinutes (nx := 47) (v := 6) rfl (by decide) rfl ?_
      refine ev_loc f_X12_tellsMinutes (nx := 48) rfl rfl rfl rfl ?_
      refine ev_aluvI f_X12_tellsMinutes (nx := 49) (w := 7) rfl rfl rfl (by decide) rfl ?_
      refine ev_loc f_X12_tellsMinutes (nx := 50) rfl rfl rfl rfl ?_
      refine ev_getR f_X12_tellsMinutes (nx := 53) rfl (hW.s rfl) rfl rfl (hW.r rfl) rfl rfl ?_
      refine ev_bp f_X12_tellsMinutes (nx := 55) (v := 82) rfl (by decide) rfl ?_
      refine ev_ic f_X12_tellsMinutes (nx := 56) (v := 3) rfl (by decide) rfl ?_
      refine ev_loc f_X12_tellsMinutes (nx := 57) rfl rfl rfl rfl ?_
      refine ev_aluvI f_X12_tellsMinutes (nx := 58) (w := 3) rfl rfl rfl (by decide) rfl ?_
      refine ev_aluvI f_X12_tellsMinutes (nx := 59) (w := 85) rfl rfl rfl (by decide) rfl ?_
      refine ev_ialdv f_X12_tellsMinutes (nx := 60) (j := 85) (w := 0) rfl (hW.s rfl) (by decide) (by decide) (by decide) (wi_70_85 (gi := gi) hR) rfl ?_
      refine ev_iastv f_X12_tellsMinutes (nx := 61) (j := 7) rfl (hW.s rfl) (by decide) (by decide) (by decide) rfl ?_
      refine ev_incv f_X12_tellsMinutes (nx := 64) (c := 1) (w := 2) (lo' := [(1, .int 2), (0, .ref 69)]) rfl rfl (by decide) (by decide) rfl rfl rfl ?_
      refine ev_jmp f_X12_tellsMinutes (nx := 35) rfl rfl rfl ?_
      refine ev_loc f_X12_tellsMinutes (nx := 36) rfl rfl rfl rfl ?_
      refine ev_bp f_X12_tellsMinutes (nx := 38) (v := 6) rfl (by decide) rfl ?_
      refine ev_f f_X12_tellsMinutes (t1 := 67) (t2 := 41) rfl rfl rfl (by decide) ?_
      refine ev_loc f_X12_tellsMinutes (nx := 42) rfl rfl rfl rfl ?_
      refine ev_getR f_X12_tellsMinutes (nx := 45) rfl (hW.s rfl) rfl rfl (hW.r rfl) rfl rfl ?_
      refine ev_bp f_X12_tellsMinutes (nx := 47) (v := 6) rfl (by decide) rfl ?_
      refine ev_loc f_X12_tellsMinutes (nx := 48) rfl rfl rfl rfl ?_
      refine ev_aluvI f_X12_tellsMinutes (nx := 49) (w := 8) rfl rfl rfl (by decide) rfl ?_
      refine ev_loc f_X12_tellsMinutes (nx := 50) rfl rfl rfl rfl ?_
      refine ev_getR f_X12_tellsMinutes (nx := 53) rfl (hW.s rfl) rfl rfl (hW.r rfl) rfl rfl ?_
      refine ev_bp f_X12_tellsMinutes (nx := 55) (v := 82) rfl (by decide) rfl ?_
      refine ev_ic f_X12_tellsMinutes (nx := 56) (v := 3) rfl (by decide) rfl ?_
      refine ev_loc f_X12_tellsMinutes (nx := 57) rfl rfl rfl rfl ?_
      refine ev_aluvI f_X12_tellsMinutes (nx := 58) (w := 6) rfl rfl rfl (by decide) rfl ?_
      refine ev_aluvI f_X12_tellsMinutes (nx := 59) (w := 88) rfl rfl rfl (by decide) rfl ?_
      refine ev_ialdv f_X12_tellsMinutes (nx := 60) (j := 88) (w := 0) rfl (hW.s rfl) (by decide) (by decide) (by decide) (wi_70_88 (gi := gi) hR) rfl ?_
      refine ev_iastv f_X12_tellsMinutes (nx := 61) (j := 8) rfl (hW.s rfl) (by decide) (by decide) (by decide) rfl ?_
      refine ev_incv f_X12_tellsMinutes (nx := 64) (c := 1) (w := 3) (lo' := [(1, .int 3), (0, .ref 69)]) rfl rfl (by decide) (by decide) rfl rfl rfl ?_
      refine ev_jmp f_X12_tellsMinutes (nx := 35) rfl rfl rfl ?_
      refine ev_loc f_X12_tellsMinutes (nx := 36) rfl rfl rfl rfl ?_
      refine ev_bp f_X12_tellsMinutes (nx := 38) (v := 6) rfl (by decide) rfl ?_
      refine ev_f f_X12_tellsMinutes (t1 := 67) (t2 := 41) rfl rfl rfl (by decide) ?_
      refine ev_loc f_X12_tellsMinutes (nx := 42) rfl rfl rfl rfl ?_
      refine ev_getR f_X12_tellsMinutes (nx := 45) rfl (hW.s rfl) rfl rfl (hW.r rfl) rfl rfl ?_
      refine ev_bp f_X12_tellsMinutes (nx := 47) (v := 6) rfl (by decide) rfl ?_
      refine ev_loc f_X12_tellsMinutes (nx := 48) rfl rfl rfl rfl ?_
      refine ev_aluvI f_X12_tellsMinutes (nx := 49) (w := 9) rfl rfl rfl (by decide) rfl ?_
      refine ev_loc f_X12_tellsMinutes (nx := 50) rfl rfl rfl rfl ?_
      refine ev_getR f_X12_tellsMinutes (nx := 53) rfl (hW.s rfl) rfl rfl (hW.r rfl) rfl rfl ?_
      refine ev_bp f_X12_tellsMinutes (nx := 55) (v := 82) rfl (by decide) rfl ?_
      refine ev_ic f_X12_tellsMinutes (nx := 56) (v := 3) rfl (by decide) rfl ?_
      refine ev_loc f_X12_tellsMinutes (nx := 57) rfl rfl rfl rfl ?_
      refine ev_aluvI f_X12_tellsMinutes (nx := 58) (w := 9) rfl rfl rfl (by decide) rfl ?_
      refine ev_aluvI f_X12_tellsMinutes (nx := 59) (w := 91) rfl rfl rfl (by decide) rfl ?_
      refine ev_ialdv f_X12_tellsMinutes (nx := 60) (j := 91) (w := 0) rfl (hW.s rfl) (by decide) (by decide) (by decide) (wi_70_91 (gi := gi) hR) rfl ?_
      refine ev_iastv f_X12_tellsMinutes (nx := 61) (j := 9) rfl (hW.s rfl) (by decide) (by decide) (by decide) rfl ?_
      refine ev_incv f_X12_tellsMinutes (nx := 64) (c := 1) (w := 4) (lo' := [(1, .int 4), (0, .ref 69)]) rfl rfl (by decide) (by decide) rfl rfl rfl ?_
      refine ev_jmp f_X12_tellsMinutes (nx := 35) rfl rfl rfl ?_
      refine ev_loc f_X12_tellsMinutes (nx := 36) rfl rfl rfl rfl ?_
      refine ev_bp f_X12_tellsMinutes (nx := 38) (v := 6) rfl (by decide) rfl ?_
      refine ev_f f_X12_tellsMinutes (t1 := 67) (t2 := 41) rfl rfl rfl (by decide) ?_
      refine ev_loc f_X12_tellsMinutes (nx := 42) rfl rfl rfl rfl ?_
      refine ev_getR f_X12_tellsMinutes (nx := 45) rfl (hW.s rfl) rfl rfl (hW.r rfl) rfl rfl ?_
      refine ev_bp f_X12_tellsMinutes (nx := 47) (v := 6) rfl (by decide) rfl ?_
      refine ev_loc f_X12_tellsMinutes (nx := 48) rfl rfl rfl rfl ?_
      refine ev_aluvI f_X12_tellsMinutes (nx := 49) (w := 10) rfl rfl rfl (by decide) rfl ?_
      refine ev_loc f_X12_tellsMinutes (nx := 50) rfl rfl rfl rfl ?_
      refine ev_getR f_X12_tellsMinutes (nx := 53) rfl (hW.s rfl) rfl rfl (hW.r rfl) rfl rfl ?_
      refine ev_bp f_X12_tellsMinutes (nx := 55) (v := 82) rfl (by decide) rfl ?_
      refine ev_ic f_X12_tellsMinutes (nx := 56) (v := 3) rfl (by decide) rfl ?_
      refine ev_loc f_X12_tellsMinutes (nx := 57) rfl rfl rfl rfl ?_
      refine ev_aluvI f_X12_tellsMinutes (nx := 58) (w := 12) rfl rfl rfl (by decide) rfl ?_
      refine ev_aluvI f_X12_tellsMinutes (nx := 59) (w := 94) rfl rfl rfl (by decide) rfl ?_
      refine ev_ialdv f_X12_tellsMinutes (nx := 60) (j := 94) (w := 0) rfl (hW.s rfl) (by decide) (by decide) (by decide) (wi_70_94 (gi := gi) hR) rfl ?_
      refine ev_iastv f_X12_tellsMinutes (nx := 61) (j := 10) rfl (hW.s rfl) (by decide) (by decide) (by decide) rfl ?_
      refine ev_incv f_X12_tellsMinutes (nx := 64) (c := 1) (w := 5) (lo' := [(1, .int 5), (0, .ref 69)]) rfl rfl (by decide) (by decide) rfl rfl rfl ?_
      refine ev_jmp f_X12_tellsMinutes (nx := 35) rfl rfl rfl ?_
      refine ev_loc f_X12_tellsMinutes (nx := 36) rfl rfl rfl rfl ?_
      refine ev_bp f_X12_tellsMinutes (nx := 38) (v := 6) rfl (by decide) rfl ?_
      refine ev_f f_X12_tellsMinutes (t1 := 67) (t2 := 41) rfl rfl rfl (by decide) ?_
      refine ev_loc f_X12_tellsMinutes (nx := 42) rfl rfl rfl rfl ?_
      refine ev_getR f_X12_tellsMinutes (nx := 45) rfl (hW.s rfl) rfl rfl (hW.r rfl) rfl rfl ?_
      refine ev_bp f_X12_tellsMinutes (nx := 47) (v := 6) rfl (by decide) rfl ?_
      refine ev_loc f_X12_tellsMinutes (nx := 48) rfl rfl rfl rfl ?_
      refine ev_aluvI f_X12_tellsMinutes (nx := 49) (w := 11) rfl rfl rfl (by decide) rfl ?_
      refine ev_loc f_X12_tellsMinutes (nx := 50) rfl rfl rfl rfl ?_
      refine ev_getR f_X12_tellsMinutes (nx := 53) rfl (hW.s rfl) rfl rfl (hW.r rfl) rfl rfl ?_
      refine ev_bp f_X12_tellsMinutes (nx := 55) (v := 82) rfl (by decide) rfl ?_
      refine ev_ic f_X12_tellsMinutes (nx := 56) (v := 3) rfl (by decide) rfl ?_
      refine ev_loc f_X12_tellsMinutes (nx := 57) rfl rfl rfl rfl ?_
      refine ev_aluvI f_X12_tellsMinutes (nx := 58) (w := 15) rfl rfl rfl (by decide) rfl ?_
      refine ev_aluvI f_X12_tellsMinutes (nx := 59) (w := 97) rfl rfl rfl (by decide) rfl ?_
      refine ev_ialdv f_X12_tellsMinutes (nx := 60) (j := 97) (w := 0) rfl (hW.s rfl) (by decide) (by decide) (by decide) (wi_70_97 (gi := gi) hR) rfl ?_
      refine ev_iastv f_X12_tellsMinutes (nx := 61) (j := 11) rfl (hW.s rfl) (by decide) (by decide) (by decide) rfl ?_
      refine ev_incv f_X12_tellsMinutes (nx := 64) (c := 1) (w := 6) (lo' := [(1, .int 6), (0, .ref 69)]) rfl rfl (by decide) (by decide) rfl rfl rfl ?_
      refine ev_jmp f_X12_tellsMinutes (nx := 35) rfl rfl rfl ?_
      refine ev_loc f_X12_tellsMinutes (nx := 36) rfl rfl rfl rfl ?_
      refine ev_bp f_X12_tellsMinutes (nx := 38) (v := 6) rfl (by decide) rfl ?_
      refine ev_t f_X12_tellsMinutes (t1 := 67) (t2 := 41) rfl rfl rfl (by decide) ?_
      refine ev_retK0 f_X12_tellsMinutes rfl rfl rfl ?_
      refine ev_loc f_X12_leastBy (nx := 5) rfl rfl rfl rfl ?_
      refine ev_loc f_X12_leastBy (nx := 6) rfl rfl rfl rfl ?_
      refine ev_inV2 f_X12_leastBy (nx := 9) (lo2 := [(0, .ref 69), (1, .int 0)]) rfl rfl rfl rfl f_X12_orders (hW.s rfl) rfl rfl rfl rfl rfl ?_
      refine ev_loc f_X12_orders (nx := 1) rfl rfl rfl rfl ?_
      refine ev_ic f_X12_orders (nx := 2) (v := 0) rfl (by decide) rfl ?_
      refine ev_putI f_X12_orders (nx := 5) rfl (hW.s rfl) rfl rfl rfl ?_
      refine ev_loc f_X12_orders (nx := 6) rfl rfl rfl rfl ?_
      refine ev_ic f_X12_orders (nx := 7) (v := 0) rfl (by decide) rfl ?_
      refine ev_putI f_X12_orders (nx := 10) rfl (hW.s rfl) rfl rfl rfl ?_
      refine ev_ic f_X12_orders (nx := 11) (v := 0) rfl (by decide) rfl ?_
      refine ev_loc f_X12_orders (nx := 12) (lo' := [(2, .int 0), (0, .ref 69), (1, .int 0)]) rfl rfl rfl rfl ?_
      refine ev_loc f_X12_orders (nx := 13) rfl rfl rfl rfl ?_
      refine ev_loc f_X12_orders (nx := 14) rfl rfl rfl rfl ?_
      refine ev_getR f_X12_orders (nx := 17) rfl (hW.s rfl) rfl rfl (hW.r rfl) rfl rfl ?_
      refine ev_ic f_X12_orders (nx := 18) (v := 1) rfl (by decide) rfl ?_
      refine ev_ialdv f_X12_orders (nx := 19) (j := 1) (w := 0) rfl (hW.s rfl) (by decide) (by decide) (by decide) (wi_70_1 (gi := gi) hR) rfl ?_
      refine ev_t f_X12_orders (t1 := 108) (t2 := 22) rfl rfl rfl (by decide) ?_
      refine ev_ic f_X12_orders (nx := 109) (v := 0) rfl (by decide) rfl ?_
      refine ev_loc f_X12_orders (nx := 110) (lo' := [(2, .int 0), (0, .ref 69), (1, .int 0)]) rfl rfl rfl rfl ?_
      refine ev_loc f_X12_orders (nx := 111) rfl rfl rfl rfl ?_
      refine ev_loc f_X12_orders (nx := 112) rfl rfl rfl rfl ?_
      refine ev_getR f_X12_orders (nx := 115) rfl (hW.s rfl) rfl rfl (hW.r rfl) rfl rfl ?_
      refine ev_ic f_X12_orders (nx := 116) (v := 2) rfl (by decide) rfl ?_
      refine ev_ialdv f_X12_orders (nx := 117) (j := 2) (w := 0) rfl (hW.s rfl) (by decide) (by decide) (by decide) (wi_70_2 (gi := gi) hR) rfl ?_
      refine ev_t f_X12_orders (t1 := 211) (t2 := 120) rfl rfl rfl (by decide) ?_
      refine ev_retK0 f_X12_orders rfl rfl rfl ?_
      refine ev_loc f_X12_leastBy (nx := 10) rfl rfl rfl rfl ?_
      refine ev_loc f_X12_leastBy (nx := 11) rfl rfl rfl rfl ?_
      refine ev_putI f_X12_leastBy (nx := 14) rfl (hW.s rfl) rfl rfl rfl ?_
      refine ev_loc f_X12_leastBy (nx := 15) rfl rfl rfl rfl ?_
      refine ev_cM f_X12_leastBy (nx := 18) (st2 := [.int 0]) rfl rfl rfl rfl rfl rfl (l_rk hW rfl rfl (wi_70_5 (gi := gi) hR) (wz_92 (gi := gi) hR)) rfl rfl ?_
      refine ev_retK1 f_X12_leastBy rfl rfl rfl ?_
      refine ev_inV2 f_X12_quicker (nx := 22) (lo2 := [(0, .ref 69), (1, .int 0)]) rfl rfl rfl rfl f_X12_orNone (hW.s rfl) rfl rfl rfl rfl rfl ?_
      refine ev_loc f_X12_orNone (nx := 1) rfl rfl rfl rfl ?_
      refine ev_ic f_X12_orNone (nx := 2) (v := -1) rfl (by decide) rfl ?_
      refine ev_f f_X12_orNone (t1 := 5) (t2 := 14) rfl rfl rfl (by decide) ?_
      refine ev_loc f_X12_orNone (nx := 15) rfl rfl rfl rfl ?_
      refine ev_loc f_X12_orNone (nx := 16) rfl rfl rfl rfl ?_
      refine ev_inV2 f_X12_orNone (nx := 19) (lo2 := [(0, .ref 69), (1, .int 0)]) rfl rfl rfl rfl f_X12_gives (hW.s rfl) rfl rfl rfl rfl rfl ?_
      refine ev_loc f_X12_gives (nx := 1) rfl rfl rfl rfl ?_
      refine ev_ic f_X12_gives (nx := 2) (v := 0) rfl (by decide) rfl ?_
      refine ev_putI f_X12_gives (nx := 5) rfl (hW.s rfl) rfl rfl rfl ?_
      refine ev_loc f_X12_gives (nx := 6) rfl rfl rfl rfl ?_
      refine ev_retK1 f_X12_gives rfl rfl rfl ?_
      refine ev_retK1 f_X12_orNone rfl rfl rfl ?_
      refine ev_jmp f_X12_quicker (nx := 30) rfl rfl rfl ?_
      refine ev_retK1 f_X12_quicker rfl rfl rfl ?_
      refine ev_t f_L_law (t1 := 1628) (t2 := 1357) rfl rfl rfl (by decide) ?_
      refine ev_incv f_L_law (nx := 1631) (c := 6) (w := 6) (lo' := [(3, .int 6), (2, .ref 69), (1, .ref 0), (0, .retAddr 30)]) rfl rfl (by decide) (by decide) rfl rfl rfl ?_
      refine ev_jmp f_L_law (nx := 18) rfl rfl rfl ?_
      refine ev_loc f_L_law (nx := 19) rfl rfl rfl rfl ?_
      refine ev_loc f_L_law (nx := 20) rfl rfl rfl rfl ?_
      refine ev_alenX f_L_law (nx := 21) rfl hX rfl ?_
      refine ev_bp f_L_law (nx := 23) (v := 6) rfl (by decide) rfl ?_
      refine ev_aluvI f_L_law (nx := 24) (w := 0) rfl rfl rfl (by decide) rfl ?_
      refine ev_t f_L_law (t1 := 1634) (t2 := 27) rfl rfl rfl (by decide) ?_
      refine ev_ic f_L_law (nx := 1635) (v := 1) rfl (by decide) rfl ?_
      refine ev_ret f_L_law rfl rfl rfl ?_
      exact ⟨rfl, hz⟩
    · have q61 := h61; rw [Int32.le_iff_toInt_le, (by decide : (20 : Int32).toInt = 20)] at q61
      refine ev_loc f_X11_quicker (nx := 12) rfl rfl rfl rfl ?_
      refine ev_ic f_X11_quicker (nx := 13) (v := 1) rfl (by decide) rfl ?_
      refine ev_inV2 f_X11_quicker (nx := 16) (lo2 := [(0, .ref 0), (1, .int 1)]) rfl rfl rfl rfl f_X11_refuse (hW.s rfl) rfl rfl rfl rfl rfl ?_
      refine ev_loc f_X11_refuse (nx := 1) rfl rfl rfl rfl ?_
      refine ev_loc f_X11_refuse (nx := 2) rfl rfl rfl rfl ?_
      refine ev_putI f_X11_refuse (nx := 5) rfl (hW.s rfl) rfl rfl rfl ?_
      refine ev_ic f_X11_refuse (nx := 6) (v := -1) rfl (by decide) rfl ?_
      refine ev_retK1 f_X11_refuse rfl rfl rfl ?_
      refine ev_retK1 f_X11_quicker rfl rfl rfl ?_
      refine ev_loc f_L_law (nx := 1346) rfl rfl rfl rfl ?_
      refine ev_loc f_L_law (nx := 1347) rfl rfl rfl rfl ?_
      refine ev_loc f_L_law (nx := 1348) rfl rfl rfl rfl ?_
      refine ev_ic f_L_law (nx := 1349) (v := 1) rfl (by decide) rfl ?_
      refine ev_aluvI f_L_law (nx := 1350) (w := 1) rfl rfl rfl (by decide) rfl ?_
      refine ev_scr f_L_law (nx := 1351) (j := 1) rfl hX (by decide) (by decide) (by decide) rfl ?_
      refine ev_inV2 f_L_law (nx := 1354) (lo2 := [(0, .ref 69), (1, .int ((X.2 1)))]) rfl rfl rfl rfl f_X12_quicker (hW.s rfl) rfl rfl rfl rfl rfl ?_
      refine ev_loc f_X12_quicker (nx := 1) rfl rfl rfl rfl ?_
      refine ev_alu f_X12_quicker (nx := 2) rfl rfl rfl rfl ?_
      refine ev_lc f_X12_quicker (nx := 3) (v := 1) rfl (by decide) rfl ?_
      refine ev_ldL f_X12_quicker (nx := 6) (v := 20) rfl (by decide) rfl ?_
      refine ev_inS3 f_X12_quicker (nx := 9) (lo2 := [(0, .long (((X.2 1) : Int32).toInt64)), (2, .long 1), (4, .long 20)]) rfl rfl rfl rfl f_X12_isFrom rfl rfl rfl rfl ?_
      refine ev_loc f_X12_isFrom (nx := 1) rfl rfl rfl rfl ?_
      refine ev_loc f_X12_isFrom (nx := 2) rfl rfl rfl rfl ?_
      refine ev_alu f_X12_isFrom (nx := 3) rfl rfl rfl rfl ?_
      refine ev_f f_X12_isFrom (t1 := 17) (t2 := 6) rfl rfl rfl (by rw [lgc_lt (n := 1) (by decide)]; omega) ?_
      refine ev_loc f_X12_isFrom (nx := 7) rfl rfl rfl rfl ?_
      refine ev_loc f_X12_isFrom (nx := 9) rfl rfl rfl rfl ?_
      refine ev_alu f_X12_isFrom (nx := 10) rfl rfl rfl rfl ?_
      refine ev_t f_X12_isFrom (t1 := 17) (t2 := 13) rfl rfl rfl (by rw [lgc_gt (n := 20) (by decide)]; omega) ?_
      refine ev_ic f_X12_isFrom (nx := 18) (v := 0) rfl (by decide) rfl ?_
      refine ev_retK1 f_X12_isFrom rfl rfl rfl ?_
      refine ev_t f_X12_quicker (t1 := 25) (t2 := 12) rfl rfl rfl (by decide) ?_
      refine ev_loc f_X12_quicker (nx := 26) rfl rfl rfl rfl ?_
      refine ev_ic f_X12_quicker (nx := 27) (v := 1) rfl (by decide) rfl ?_
      refine ev_inV2 f_X12_quicker (nx := 30) (lo2 := [(0, .ref 69), (1, .int 1)]) rfl rfl rfl rfl f_X12_refuse (hW.s rfl) rfl rfl rfl rfl rfl ?_
      refine ev_loc f_X12_refuse (nx := 1) rfl rfl rfl rfl ?_
      refine ev_loc f_X12_refuse (nx := 2) rfl rfl rfl rfl ?_
      refine ev_putI f_X12_refuse (nx := 5) rfl (hW.s rfl) rfl rfl rfl ?_
      refine ev_ic f_X12_refuse (nx := 6) (v := -1) rfl (by decide) rfl ?_
      refine ev_retK1 f_X12_refuse rfl rfl rfl ?_
      refine ev_retK1 f_X12_quicker rfl rfl rfl ?_
      refine ev_t f_L_law (t1 := 1628) (t2 := 1357) rfl rfl rfl (by decide) ?_
      refine ev_incv f_L_law (nx := 1631) (c := 6) (w := 6) (lo' := [(3, .int 6), (2, .ref 69), (1, .ref 0), (0, .retAddr 30)]) rfl rfl (by decide) (by decide) rfl rfl rfl ?_
      refine ev_jmp f_L_law (nx := 18) rfl rfl rfl ?_
      refine ev_loc f_L_law (nx := 19) rfl rfl rfl rfl ?_
      refine ev_loc f_L_law (nx := 20) rfl rfl rfl rfl ?_
      refine ev_alenX f_L_law (nx := 21) rfl hX rfl ?_
      refine ev_bp f_L_law (nx := 23) (v := 6) rfl (by decide) rfl ?_
      refine ev_aluvI f_L_law (nx := 24) (w := 0) rfl rfl rfl (by decide) rfl ?_
      refine ev_t f_L_law (t1 := 1634) (t2 := 27) rfl rfl rfl (by decide) ?_
      refine ev_ic f_L_law (nx := 1635) (v := 1) rfl (by decide) rfl ?_
      refine ev_ret f_L_law rfl rfl rfl ?_
      exact ⟨rfl, hz⟩
set_option maxRecDepth 20000 in
theorem pc_11_0 (hR : x_R W1 (sh, gi, gl, gr)) (hX : X.1 = 6) (e1 : X.2 1 = 0) : x_Ev X 1000 n_L_law 630 [(3, .int 0), (2, .ref 69), (1, .ref 0), (0, .retAddr 30)] [] (sh, gi, gl, gr) x_P1 := by
  have hW := W1_WF hR
  have hz := W1_hz hR
  refine ev_loc f_L_law (nx := 631) rfl rfl rfl rfl ?_
  refine ev_loc f_L_law (nx := 632) rfl rfl rfl rfl ?_
  refine ev_loc f_L_law (nx := 633) rfl rfl rfl rfl ?_
  refine ev_ic f_L_law (nx := 634) (v := 1) rfl (by decide) rfl ?_
  refine ev_aluvI f_L_law (nx := 635) (w := 1) rfl rfl rfl (by decide) rfl ?_
  refine ev_scrv f_L_law (nx := 636) (j := 1) (w := 0) rfl hX (by decide) (by decide) (by decide) e1 rfl ?_
  refine ev_inV2 f_L_law (nx := 639) (lo2 := [(0, .ref 0), (1, .int 0)]) rfl rfl rfl rfl f_X11_told (hW.s rfl) rfl rfl rfl rfl rfl ?_
  refine ev_loc f_X11_told (nx := 1) rfl rfl rfl rfl ?_
  refine ev_jmp f_X11_told (nx := 48) rfl rfl rfl ?_
  refine ev_loc f_X11_told (nx := 49) rfl rfl rfl rfl ?_
  refine ev_loc f_X11_told (nx := 50) rfl rfl rfl rfl ?_
  refine ev_getR f_X11_told (nx := 53) rfl (hW.s rfl) rfl rfl (wr_0_6 (gr := gr) hR) rfl rfl ?_
  refine ev_gvI f_X11_told (nx := 56) (w := 0) rfl (hW.s rfl) rfl rfl (wi_3_0 (gi := gi) hR) rfl ?_
  refine ev_inV2 f_X11_told (nx := 59) (lo2 := [(0, .ref 0), (1, .int 0)]) rfl rfl rfl rfl f_X11_answer (hW.s rfl) rfl rfl rfl rfl rfl ?_
  refine ev_loc f_X11_answer (nx := 1) rfl rfl rfl rfl ?_
  refine ev_ic f_X11_answer (nx := 2) (v := 0) rfl (by decide) rfl ?_
  refine ev_putI f_X11_answer (nx := 5) rfl (hW.s rfl) rfl rfl rfl ?_
  refine ev_loc f_X11_answer (nx := 6) rfl rfl rfl rfl ?_
  refine ev_retK1 f_X11_answer rfl rfl rfl ?_
  refine ev_retK1 f_X11_told rfl rfl rfl ?_
  refine ev_loc f_L_law (nx := 640) rfl rfl rfl rfl ?_
  refine ev_loc f_L_law (nx := 641) rfl rfl rfl rfl ?_
  refine ev_loc f_L_law (nx := 642) rfl rfl rfl rfl ?_
  refine ev_ic f_L_law (nx := 643) (v := 1) rfl (by decide) rfl ?_
  refine ev_aluvI f_L_law (nx := 644) (w := 1) rfl rfl rfl (by decide) rfl ?_
  refine ev_scrv f_L_law (nx := 645) (j := 1) (w := 0) rfl hX (by decide) (by decide) (by decide) e1 rfl ?_
  refine ev_inV2 f_L_law (nx := 648) (lo2 := [(0, .ref 69), (1, .int 0)]) rfl rfl rfl rfl f_X12_told (hW.s rfl) rfl rfl rfl rfl rfl ?_
  refine ev_loc f_X12_told (nx := 1) rfl rfl rfl rfl ?_
  refine ev_f f_X12_told (t1 := 10) (t2 := 4) rfl rfl rfl (by decide) ?_
  refine ev_loc f_X12_told (nx := 5) rfl rfl rfl rfl ?_
  refine ev_bp f_X12_told (nx := 7) (v := 7) rfl (by decide) rfl ?_
  refine ev_t f_X12_told (t1 := 18) (t2 := 10) rfl rfl rfl (by decide) ?_
  refine ev_loc f_X12_told (nx := 19) rfl rfl rfl rfl ?_
  refine ev_loc f_X12_told (nx := 20) rfl rfl rfl rfl ?_
  refine ev_getR f_X12_told (nx := 23) rfl (hW.s rfl) rfl rfl (hW.r rfl) rfl rfl ?_
  refine ev_loc f_X12_told (nx := 24) rfl rfl rfl rfl ?_
  refine ev_ialdv f_X12_told (nx := 25) (j := 0) (w := 0) rfl (hW.s rfl) (by decide) (by decide) (by decide) (wi_70_0 (gi := gi) hR) rfl ?_
  refine ev_inV2 f_X12_told (nx := 28) (lo2 := [(0, .ref 69), (1, .int 0)]) rfl rfl rfl rfl f_X12_gives (hW.s rfl) rfl rfl rfl rfl rfl ?_
  refine ev_loc f_X12_gives (nx := 1) rfl rfl rfl rfl ?_
  refine ev_ic f_X12_gives (nx := 2) (v := 0) rfl (by decide) rfl ?_
  refine ev_putI f_X12_gives (nx := 5) rfl (hW.s rfl) rfl rfl rfl ?_
  refine ev_loc f_X12_gives (nx := 6) rfl rfl rfl rfl ?_
  refine ev_retK1 f_X12_gives rfl rfl rfl ?_
  refine ev_retK1 f_X12_told rfl rfl rfl ?_
  refine ev_t f_L_law (t1 := 1628) (t2 := 651) rfl rfl rfl (by decide) ?_
  refine ev_incv f_L_law (nx := 1631) (c := 6) (w := 6) (lo' := [(3, .int 6), (2, .ref 69), (1, .ref 0), (0, .retAddr 30)]) rfl rfl (by decide) (by decide) rfl rfl rfl ?_
  refine ev_jmp f_L_law (nx := 18) rfl rfl rfl ?_
  refine ev_loc f_L_law (nx := 19) rfl rfl rfl rfl ?_
  refine ev_loc f_L_law (nx := 20) rfl rfl rfl rfl ?_
  refine ev_alenX f_L_law (nx := 21) rfl hX rfl ?_
  refine ev_bp f_L_law (nx := 23) (v := 6) rfl (by decide) rfl ?_
  refine ev_aluvI f_L_law (nx := 24) (w := 0) rfl rfl rfl (by decide) rfl ?_
  refine ev_t f_L_law (t1 := 1634) (t2 := 27) rfl rfl rfl (by decide) ?_
  refine ev_ic f_L_law (nx := 1635) (v := 1) rfl (by decide) rfl ?_
  refine ev_ret f_L_law rfl rfl rfl ?_
  exact ⟨rfl, hz⟩
set_option maxRecDepth 20000 in
theorem pc_11_1 (hR : x_R W1 (sh, gi, gl, gr)) (hX : X.1 = 6) (e1 : X.2 1 = 1) : x_Ev X 1000 n_L_law 630 [(3, .int 0), (2, .ref 69), (1, .ref 0), (0, .retAddr 30)] [] (sh, gi, gl, gr) x_P1 := by
  have hW := W1_WF hR
  have hz := W1_hz hR
  refine ev_loc f_L_law (nx := 631) rfl rfl rfl rfl ?_
  refine ev_loc f_L_law (nx := 632) rfl rfl rfl rfl ?_
  refine ev_loc f_L_law (nx := 633) rfl rfl rfl rfl ?_
  refine ev_ic f_L_law (nx := 634) (v := 1) rfl (by decide) rfl ?_
  refine ev_aluvI f_L_law (nx := 635) (w := 1) rfl rfl rfl (by decide) rfl ?_
  refine ev_scrv f_L_law (nx := 636) (j := 1) (w := 1) rfl hX (by decide) (by decide) (by decide) e1 rfl ?_
  refine ev_inV2 f_L_law (nx := 639) (lo2 := [(0, .ref 0), (1, .int 1)]) rfl rfl rfl rfl f_X11_told (hW.s rfl) rfl rfl rfl rfl rfl ?_
  refine ev_loc f_X11_told (nx := 1) rfl rfl rfl rfl ?_
  refine ev_jmp f_X11_told (nx := 60) rfl rfl rfl ?_
  refine ev_loc f_X11_told (nx := 61) rfl rfl rfl rfl ?_
  refine ev_loc f_X11_told (nx := 62) rfl rfl rfl rfl ?_
  refine ev_getR f_X11_told (nx := 65) rfl (hW.s rfl) rfl rfl (wr_0_6 (gr := gr) hR) rfl rfl ?_
  refine ev_getR f_X11_told (nx := 68) rfl (hW.s rfl) rfl rfl (hW.r rfl) rfl rfl ?_
  refine ev_gvI f_X11_told (nx := 71) (w := 0) rfl (hW.s rfl) rfl rfl (wi_6_0 (gi := gi) hR) rfl ?_
  refine ev_inV2 f_X11_told (nx := 74) (lo2 := [(0, .ref 0), (1, .int 0)]) rfl rfl rfl rfl f_X11_answer (hW.s rfl) rfl rfl rfl rfl rfl ?_
  refine ev_loc f_X11_answer (nx := 1) rfl rfl rfl rfl ?_
  refine ev_ic f_X11_answer (nx := 2) (v := 0) rfl (by decide) rfl ?_
  refine ev_putI f_X11_answer (nx := 5) rfl (hW.s rfl) rfl rfl rfl ?_
  refine ev_loc f_X11_answer (nx := 6) rfl rfl rfl rfl ?_
  refine ev_retK1 f_X11_answer rfl rfl rfl ?_
  refine ev_retK1 f_X11_told rfl rfl rfl ?_
  refine ev_loc f_L_law (nx := 640) rfl rfl rfl rfl ?_
  refine ev_loc f_L_law (nx := 641) rfl rfl rfl rfl ?_
  refine ev_loc f_L_law (nx := 642) rfl rfl rfl rfl ?_
  refine ev_ic f_L_law (nx := 643) (v := 1) rfl (by decide) rfl ?_
  refine ev_aluvI f_L_law (nx := 644) (w := 1) rfl rfl rfl (by decide) rfl ?_
  refine ev_scrv f_L_law (nx := 645) (j := 1) (w := 1) rfl hX (by decide) (by decide) (by decide) e1 rfl ?_
  refine ev_inV2 f_L_law (nx := 648) (lo2 := [(0, .ref 69), (1, .int 1)]) rfl rfl rfl rfl f_X12_told (hW.s rfl) rfl rfl rfl rfl rfl ?_
  refine ev_loc f_X12_told (nx := 1) rfl rfl rfl rfl ?_
  refine ev_f f_X12_told (t1 := 10) (t2 := 4) rfl rfl rfl (by decide) ?_
  refine ev_loc f_X12_told (nx := 5) rfl rfl rfl rfl ?_
  refine ev_bp f_X12_told (nx := 7) (v := 7) rfl (by decide) rfl ?_
  refine ev_t f_X12_told (t1 := 18) (t2 := 10) rfl rfl rfl (by decide) ?_
  refine ev_loc f_X12_told (nx := 19) rfl rfl rfl rfl ?_
  refine ev_loc f_X12_told (nx := 20) rfl rfl rfl rfl ?_
  refine ev_getR f_X12_told (nx := 23) rfl (hW.s rfl) rfl rfl (hW.r rfl) rfl rfl ?_
  refine ev_loc f_X12_told (nx := 24) rfl rfl rfl rfl ?_
  refine ev_ialdv f_X12_told (nx := 25) (j := 1) (w := 0) rfl (hW.s rfl) (by decide) (by decide) (by decide) (wi_70_1 (gi := gi) hR) rfl ?_
  refine ev_inV2 f_X12_told (nx := 28) (lo2 := [(0, .ref 69), (1, .int 0)]) rfl rfl rfl rfl f_X12_gives (hW.s rfl) rfl rfl rfl rfl rfl ?_
  refine ev_loc f_X12_gives (nx := 1) rfl rfl rfl rfl ?_
  refine ev_ic f_X12_gives (nx := 2) (v := 0) rfl (by decide) rfl ?_
  refine ev_putI f_X12_gives (nx := 5) rfl (hW.s rfl) rfl rfl rfl ?_
  refine ev_loc f_X12_gives (nx := 6) rfl rfl rfl rfl ?_
  refine ev_retK1 f_X12_gives rfl rfl rfl ?_
  refine ev_retK1 f_X12_told rfl rfl rfl ?_
  refine ev_t f_L_law (t1 := 1628) (t2 := 651) rfl rfl rfl (by decide) ?_
  refine ev_incv f_L_law (nx := 1631) (c := 6) (w := 6) (lo' := [(3, .int 6), (2, .ref 69), (1, .ref 0), (0, .retAddr 30)]) rfl rfl (by decide) (by decide) rfl rfl rfl ?_
  refine ev_jmp f_L_law (nx := 18) rfl rfl rfl ?_
  refine ev_loc f_L_law (nx := 19) rfl rfl rfl rfl ?_
  refine ev_loc f_L_law (nx := 20) rfl rfl rfl rfl ?_
  refine ev_alenX f_L_law (nx := 21) rfl hX rfl ?_
  refine ev_bp f_L_law (nx := 23) (v := 6) rfl (by decide) rfl ?_
  refine ev_aluvI f_L_law (nx := 24) (w := 0) rfl rfl rfl (by decide) rfl ?_
  refine ev_t f_L_law (t1 := 1634) (t2 := 27) rfl rfl rfl (by decide) ?_
  refine ev_ic f_L_law (nx := 1635) (v := 1) rfl (by decide) rfl ?_
  refine ev_ret f_L_law rfl rfl rfl ?_
  exact ⟨rfl, hz⟩
set_option maxRecDepth 20000 in
theorem pc_11_2 (hR : x_R W1 (sh, gi, gl, gr)) (hX : X.1 = 6) (e1 : X.2 1 = 2) : x_Ev X 1000 n_L_law 630 [(3, .int 0), (2, .ref 69), (1, .ref 0), (0, .retAddr 30)] [] (sh, gi, gl, gr) x_P1 := by
  have hW := W1_WF hR
  have hz := W1_hz hR
  refine ev_loc f_L_law (nx := 631) rfl rfl rfl rfl ?_
  refine ev_loc f_L_law (nx := 632) rfl rfl rfl rfl ?_
  refine ev_loc f_L_law (nx := 633) rfl rfl rfl rfl ?_
  refine ev_ic f_L_law (nx := 634) (v := 1) rfl (by decide) rfl ?_
  refine ev_aluvI f_L_law (nx := 635) (w := 1) rfl rfl rfl (by decide) rfl ?_
  refine ev_scrv f_L_law (nx := 636) (j := 1) (w := 2) rfl hX (by decide) (by decide) (by decide) e1 rfl ?_
  refine ev_inV2 f_L_law (nx := 639) (lo2 := [(0, .ref 0), (1, .int 2)]) rfl rfl rfl rfl f_X11_told (hW.s rfl) rfl rfl rfl rfl rfl ?_
  refine ev_loc f_X11_told (nx := 1) rfl rfl rfl rfl ?_
  refine ev_jmp f_X11_told (nx := 75) rfl rfl rfl ?_
  refine ev_loc f_X11_told (nx := 76) rfl rfl rfl rfl ?_
  refine ev_loc f_X11_told (nx := 77) rfl rfl rfl rfl ?_
  refine ev_getR f_X11_told (nx := 80) rfl (hW.s rfl) rfl rfl (wr_0_6 (gr := gr) hR) rfl rfl ?_
  refine ev_getR f_X11_told (nx := 83) rfl (hW.s rfl) rfl rfl (hW.r rfl) rfl rfl ?_
  refine ev_gvI f_X11_told (nx := 86) (w := 0) rfl (hW.s rfl) rfl rfl (wi_13_0 (gi := gi) hR) rfl ?_
  refine ev_inV2 f_X11_told (nx := 89) (lo2 := [(0, .ref 0), (1, .int 0)]) rfl rfl rfl rfl f_X11_answer (hW.s rfl) rfl rfl rfl rfl rfl ?_
  refine ev_loc f_X11_answer (nx := 1) rfl rfl rfl rfl ?_
  refine ev_ic f_X11_answer (nx := 2) (v := 0) rfl (by decide) rfl ?_
  refine ev_putI f_X11_answer (nx := 5) rfl (hW.s rfl) rfl rfl rfl ?_
  refine ev_loc f_X11_answer (nx := 6) rfl rfl rfl rfl ?_
  refine ev_retK1 f_X11_answer rfl rfl rfl ?_
  refine ev_retK1 f_X11_told rfl rfl rfl ?_
  refine ev_loc f_L_law (nx := 640) rfl rfl rfl rfl ?_
  refine ev_loc f_L_law (nx := 641) rfl rfl rfl rfl ?_
  refine ev_loc f_L_law (nx := 642) rfl rfl rfl rfl ?_
  refine ev_ic f_L_law (nx := 643) (v := 1) rfl (by decide) rfl ?_
  refine ev_aluvI f_L_law (nx := 644) (w := 1) rfl rfl rfl (by decide) rfl ?_
  refine ev_scrv f_L_law (nx := 645) (j := 1) (w := 2) rfl hX (by decide) (by decide) (by decide) e1 rfl ?_
  refine ev_inV2 f_L_law (nx := 648) (lo2 := [(0, .ref 69), (1, .int 2)]) rfl rfl rfl rfl f_X12_told (hW.s rfl) rfl rfl rfl rfl rfl ?_
  refine ev_loc f_X12_told (nx := 1) rfl rfl rfl rfl ?_
  refine ev_f f_X12_told (t1 := 10) (t2 := 4) rfl rfl rfl (by decide) ?_
  refine ev_loc f_X12_told (nx := 5) rfl rfl rfl rfl ?_
  refine ev_bp f_X12_told (nx := 7) (v := 7) rfl (by decide) rfl ?_
  refine ev_t f_X12_told (t1 := 18) (t2 := 10) rfl rfl rfl (by decide) ?_
  refine ev_loc f_X12_told (nx := 19) rfl rfl rfl rfl ?_
  refine ev_loc f_X12_told (nx := 20) rfl rfl rfl rfl ?_
  refine ev_getR f_X12_told (nx := 23) rfl (hW.s rfl) rfl rfl (hW.r rfl) rfl rfl ?_
  refine ev_loc f_X12_told (nx := 24) rfl rfl rfl rfl ?_
  refine ev_ialdv f_X12_told (nx := 25) (j := 2) (w := 0) rfl (hW.s rfl) (by decide) (by decide) (by decide) (wi_70_2 (gi := gi) hR) rfl ?_
  refine ev_inV2 f_X12_told (nx := 28) (lo2 := [(0, .ref 69), (1, .int 0)]) rfl rfl rfl rfl f_X12_gives (hW.s rfl) rfl rfl rfl rfl rfl ?_
  refine ev_loc f_X12_gives (nx := 1) rfl rfl rfl rfl ?_
  refine ev_ic f_X12_gives (nx := 2) (v := 0) rfl (by decide) rfl ?_
  refine ev_putI f_X12_gives (nx := 5) rfl (hW.s rfl) rfl rfl rfl ?_
  refine ev_loc f_X12_gives (nx := 6) rfl rfl rfl rfl ?_
  refine ev_retK1 f_X12_gives rfl rfl rfl ?_
  refine ev_retK1 f_X12_told rfl rfl rfl ?_
  refine ev_t f_L_law (t1 := 1628) (t2 := 651) rfl rfl rfl (by decide) ?_
  refine ev_incv f_L_law (nx := 1631) (c := 6) (w := 6) (lo' := [(3, .int 6), (2, .ref 69), (1, .ref 0), (0, .retAddr 30)]) rfl rfl (by decide) (by decide) rfl rfl rfl ?_
  refine ev_jmp f_L_law (nx := 18) rfl rfl rfl ?_
  refine ev_loc f_L_law (nx := 19) rfl rfl rfl rfl ?_
  refine ev_loc f_L_law (nx := 20) rfl rfl rfl rfl ?_
  refine ev_alenX f_L_law (nx := 21) rfl hX rfl ?_
  refine ev_bp f_L_law (nx := 23) (v := 6) rfl (by decide) rfl ?_
  refine ev_aluvI f_L_law (nx := 24) (w := 0) rfl rfl rfl (by decide) rfl ?_
  refine ev_t f_L_law (t1 := 1634) (t2 := 27) rfl rfl rfl (by decide) ?_
  refine ev_ic f_L_law (nx := 1635) (v := 1) rfl (by decide) rfl ?_
  refine ev_ret f_L_law rfl rfl rfl ?_
  exact ⟨rfl, hz⟩
set_option maxRecDepth 20000 in
theorem pc_11_3 (hR : x_R W1 (sh, gi, gl, gr)) (hX : X.1 = 6) (e1 : X.2 1 = 3) : x_Ev X 1000 n_L_law 630 [(3, .int 0), (2, .ref 69), (1, .ref 0), (0, .retAddr 30)] [] (sh, gi, gl, gr) x_P1 := by
  have hW := W1_WF hR
  have hz := W1_hz hR
  refine ev_loc f_L_law (nx := 631) rfl rfl rfl rfl ?_
  refine ev_loc f_L_law (nx := 632) rfl rfl rfl rfl ?_
  refine ev_loc f_L_law (nx := 633) rfl rfl rfl rfl ?_
  refine ev_ic f_L_law (nx := 634) (v := 1) rfl (by decide) rfl ?_
  refine ev_aluvI f_L_law (nx := 635) (w := 1) rfl rfl rfl (by decide) rfl ?_
  refine ev_scrv f_L_law (nx := 636) (j := 1) (w := 3) rfl hX (by decide) (by decide) (by decide) e1 rfl ?_
  refine ev_inV2 f_L_law (nx := 639) (lo2 := [(0, .ref 0), (1, .int 3)]) rfl rfl rfl rfl f_X11_told (hW.s rfl) rfl rfl rfl rfl rfl ?_
  refine ev_loc f_X11_told (nx := 1) rfl rfl rfl rfl ?_
  refine ev_jmp f_X11_told (nx := 90) rfl rfl rfl ?_
  refine ev_loc f_X11_told (nx := 91) rfl rfl rfl rfl ?_
  refine ev_loc f_X11_told (nx := 92) rfl rfl rfl rfl ?_
  refine ev_getR f_X11_told (nx := 95) rfl (hW.s rfl) rfl rfl (wr_0_7 (gr := gr) hR) rfl rfl ?_
  refine ev_jmp f_X11_told (nx := 98) rfl rfl rfl ?_
  refine ev_ic f_X11_told (nx := 99) (v := 0) rfl (by decide) rfl ?_
  refine ev_jmp f_X11_told (nx := 109) rfl rfl rfl ?_
  refine ev_inV2 f_X11_told (nx := 112) (lo2 := [(0, .ref 0), (1, .int 0)]) rfl rfl rfl rfl f_X11_answer (hW.s rfl) rfl rfl rfl rfl rfl ?_
  refine ev_loc f_X11_answer (nx := 1) rfl rfl rfl rfl ?_
  refine ev_ic f_X11_answer (nx := 2) (v := 0) rfl (by decide) rfl ?_
  refine ev_putI f_X11_answer (nx := 5) rfl (hW.s rfl) rfl rfl rfl ?_
  refine ev_loc f_X11_answer (nx := 6) rfl rfl rfl rfl ?_
  refine ev_retK1 f_X11_answer rfl rfl rfl ?_
  refine ev_retK1 f_X11_told rfl rfl rfl ?_
  refine ev_loc f_L_law (nx := 640) rfl rfl rfl rfl ?_
  refine ev_loc f_L_law (nx := 641) rfl rfl rfl rfl ?_
  refine ev_loc f_L_law (nx := 642) rfl rfl rfl rfl ?_
  refine ev_ic f_L_law (nx := 643) (v := 1) rfl (by decide) rfl ?_
  refine ev_aluvI f_L_law (nx := 644) (w := 1) rfl rfl rfl (by decide) rfl ?_
  refine ev_scrv f_L_law (nx := 645) (j := 1) (w := 3) rfl hX (by decide) (by decide) (by decide) e1 rfl ?_
  refine ev_inV2 f_L_law (nx := 648) (lo2 := [(0, .ref 69), (1, .int 3)]) rfl rfl rfl rfl f_X12_told (hW.s rfl) rfl rfl rfl rfl rfl ?_
  refine ev_loc f_X12_told (nx := 1) rfl rfl rfl rfl ?_
  refine ev_f f_X12_told (t1 := 10) (t2 := 4) rfl rfl rfl (by decide) ?_
  refine ev_loc f_X12_told (nx := 5) rfl rfl rfl rfl ?_
  refine ev_bp f_X12_told (nx := 7) (v := 7) rfl (by decide) rfl ?_
  refine ev_t f_X12_told (t1 := 18) (t2 := 10) rfl rfl rfl (by decide) ?_
  refine ev_loc f_X12_told (nx := 19) rfl rfl rfl rfl ?_
  refine ev_loc f_X12_told (nx := 20) rfl rfl rfl rfl ?_
  refine ev_getR f_X12_told (nx := 23) rfl (hW.s rfl) rfl rfl (hW.r rfl) rfl rfl ?_
  refine ev_loc f_X12_told (nx := 24) rfl rfl rfl rfl ?_
  refine ev_ialdv f_X12_told (nx := 25) (j := 3) (w := 0) rfl (hW.s rfl) (by decide) (by decide) (by decide) (wi_70_3 (gi := gi) hR) rfl ?_
  refine ev_inV2 f_X12_told (nx := 28) (lo2 := [(0, .ref 69), (1, .int 0)]) rfl rfl rfl rfl f_X12_gives (hW.s rfl) rfl rfl rfl rfl rfl ?_
  refine ev_loc f_X12_gives (nx := 1) rfl rfl rfl rfl ?_
  refine ev_ic f_X12_gives (nx := 2) (v := 0) rfl (by decide) rfl ?_
  refine ev_putI f_X12_gives (nx := 5) rfl (hW.s rfl) rfl rfl rfl ?_
  refine ev_loc f_X12_gives (nx := 6) rfl rfl rfl rfl ?_
  refine ev_retK1 f_X12_gives rfl rfl rfl ?_
  refine ev_retK1 f_X12_told rfl rfl rfl ?_
  refine ev_t f_L_law (t1 := 1628) (t2 := 651) rfl rfl rfl (by decide) ?_
  refine ev_incv f_L_law (nx := 1631) (c := 6) (w := 6) (lo' := [(3, .int 6), (2, .ref 69), (1, .ref 0), (0, .retAddr 30)]) rfl rfl (by decide) (by decide) rfl rfl rfl ?_
  refine ev_jmp f_L_law (nx := 18) rfl rfl rfl ?_
  refine ev_loc f_L_law (nx := 19) rfl rfl rfl rfl ?_
  refine ev_loc f_L_law (nx := 20) rfl rfl rfl rfl ?_
  refine ev_alenX f_L_law (nx := 21) rfl hX rfl ?_
  refine ev_bp f_L_law (nx := 23) (v := 6) rfl (by decide) rfl ?_
  refine ev_aluvI f_L_law (nx := 24) (w := 0) rfl rfl rfl (by decide) rfl ?_
  refine ev_t f_L_law (t1 := 1634) (t2 := 27) rfl rfl rfl (by decide) ?_
  refine ev_ic f_L_law (nx := 1635) (v := 1) rfl (by decide) rfl ?_
  refine ev_ret f_L_law rfl rfl rfl ?_
  exact ⟨rfl, hz⟩
set_option maxRecDepth 20000 in
theorem pc_11_4 (hR : x_R W1 (sh, gi, gl, gr)) (hX : X.1 = 6) (e1 : X.2 1 = 4) : x_Ev X 1000 n_L_law 630 [(3, .int 0), (2, .ref 69), (1, .ref 0), (0, .retAddr 30)] [] (sh, gi, gl, gr) x_P1 := by
  have hW := W1_WF hR
  have hz := W1_hz hR
  refine ev_loc f_L_law (nx := 631) rfl rfl rfl rfl ?_
  refine ev_loc f_L_law (nx := 632) rfl rfl rfl rfl ?_
  refine ev_loc f_L_law (nx := 633) rfl rfl rfl rfl ?_
  refine ev_ic f_L_law (nx := 634) (v := 1) rfl (by decide) rfl ?_
  refine ev_aluvI f_L_law (nx := 635) (w := 1) rfl rfl rfl (by decide) rfl ?_
  refine ev_scrv f_L_law (nx := 636) (j := 1) (w := 4) rfl hX (by decide) (by decide) (by decide) e1 rfl ?_
  refine ev_inV2 f_L_law (nx := 639) (lo2 := [(0, .ref 0), (1, .int 4)]) rfl rfl rfl rfl f_X11_told (hW.s rfl) rfl rfl rfl rfl rfl ?_
  refine ev_loc f_X11_told (nx := 1) rfl rfl rfl rfl ?_
  refine ev_jmp f_X11_told (nx := 113) rfl rfl rfl ?_
  refine ev_loc f_X11_told (nx := 114) rfl rfl rfl rfl ?_
  refine ev_loc f_X11_told (nx := 115) rfl rfl rfl rfl ?_
  refine ev_getR f_X11_told (nx := 118) rfl (hW.s rfl) rfl rfl (wr_0_6 (gr := gr) hR) rfl rfl ?_
  refine ev_gvI f_X11_told (nx := 121) (w := 5) rfl (hW.s rfl) rfl rfl (wi_3_3 (gi := gi) hR) rfl ?_
  refine ev_inV2 f_X11_told (nx := 124) (lo2 := [(0, .ref 0), (1, .int 5)]) rfl rfl rfl rfl f_X11_answer (hW.s rfl) rfl rfl rfl rfl rfl ?_
  refine ev_loc f_X11_answer (nx := 1) rfl rfl rfl rfl ?_
  refine ev_ic f_X11_answer (nx := 2) (v := 0) rfl (by decide) rfl ?_
  refine ev_putI f_X11_answer (nx := 5) rfl (hW.s rfl) rfl rfl rfl ?_
  refine ev_loc f_X11_answer (nx := 6) rfl rfl rfl rfl ?_
  refine ev_retK1 f_X11_answer rfl rfl rfl ?_
  refine ev_retK1 f_X11_told rfl rfl rfl ?_
  refine ev_loc f_L_law (nx := 640) rfl rfl rfl rfl ?_
  refine ev_loc f_L_law (nx := 641) rfl rfl rfl rfl ?_
  refine ev_loc f_L_law (nx := 642) rfl rfl rfl rfl ?_
  refine ev_ic f_L_law (nx := 643) (v := 1) rfl (by decide) rfl ?_
  refine ev_aluvI f_L_law (nx := 644) (w := 1) rfl rfl rfl (by decide) rfl ?_
  refine ev_scrv f_L_law (nx := 645) (j := 1) (w := 4) rfl hX (by decide) (by decide) (by decide) e1 rfl ?_
  refine ev_inV2 f_L_law (nx := 648) (lo2 := [(0, .ref 69), (1, .int 4)]) rfl rfl rfl rfl f_X12_told (hW.s rfl) rfl rfl rfl rfl rfl ?_
  refine ev_loc f_X12_told (nx := 1) rfl rfl rfl rfl ?_
  refine ev_f f_X12_told (t1 := 10) (t2 := 4) rfl rfl rfl (by decide) ?_
  refine ev_loc f_X12_told (nx := 5) rfl rfl rfl rfl ?_
  refine ev_bp f_X12_told (nx := 7) (v := 7) rfl (by decide) rfl ?_
  refine ev_t f_X12_told (t1 := 18) (t2 := 10) rfl rfl rfl (by decide) ?_
  refine ev_loc f_X12_told (nx := 19) rfl rfl rfl rfl ?_
  refine ev_loc f_X12_told (nx := 20) rfl rfl rfl rfl ?_
  refine ev_getR f_X12_told (nx := 23) rfl (hW.s rfl) rfl rfl (hW.r rfl) rfl rfl ?_
  refine ev_loc f_X12_told (nx := 24) rfl rfl rfl rfl ?_
  refine ev_ialdv f_X12_told (nx := 25) (j := 4) (w := 5) rfl (hW.s rfl) (by decide) (by decide) (by decide) (wi_70_4 (gi := gi) hR) rfl ?_
  refine ev_inV2 f_X12_told (nx := 28) (lo2 := [(0, .ref 69), (1, .int 5)]) rfl rfl rfl rfl f_X12_gives (hW.s rfl) rfl rfl rfl rfl rfl ?_
  refine ev_loc f_X12_gives (nx := 1) rfl rfl rfl rfl ?_
  refine ev_ic f_X12_gives (nx := 2) (v := 0) rfl (by decide) rfl ?_
  refine ev_putI f_X12_gives (nx := 5) rfl (hW.s rfl) rfl rfl rfl ?_
  refine ev_loc f_X12_gives (nx := 6) rfl rfl rfl rfl ?_
  refine ev_retK1 f_X12_gives rfl rfl rfl ?_
  refine ev_retK1 f_X12_told rfl rfl rfl ?_
  refine ev_t f_L_law (t1 := 1628) (t2 := 651) rfl rfl rfl (by decide) ?_
  refine ev_incv f_L_law (nx := 1631) (c := 6) (w := 6) (lo' := [(3, .int 6), (2, .ref 69), (1, .ref 0), (0, .retAddr 30)]) rfl rfl (by decide) (by decide) rfl rfl rfl ?_
  refine ev_jmp f_L_law (nx := 18) rfl rfl rfl ?_
  refine ev_loc f_L_law (nx := 19) rfl rfl rfl rfl ?_
  refine ev_loc f_L_law (nx := 20) rfl rfl rfl rfl ?_
  refine ev_alenX f_L_law (nx := 21) rfl hX rfl ?_
  refine ev_bp f_L_law (nx := 23) (v := 6) rfl (by decide) rfl ?_
  refine ev_aluvI f_L_law (nx := 24) (w := 0) rfl rfl rfl (by decide) rfl ?_
  refine ev_t f_L_law (t1 := 1634) (t2 := 27) rfl rfl rfl (by decide) ?_
  refine ev_ic f_L_law (nx := 1635) (v := 1) rfl (by decide) rfl ?_
  refine ev_ret f_L_law rfl rfl rfl ?_
  exact ⟨rfl, hz⟩
set_option maxRecDepth 20000 in
theorem pc_11_5 (hR : x_R W1 (sh, gi, gl, gr)) (hX : X.1 = 6) (e1 : X.2 1 = 5) : x_Ev X 1000 n_L_law 630 [(3, .int 0), (2, .ref 69), (1, .ref 0), (0, .retAddr 30)] [] (sh, gi, gl, gr) x_P1 := by
  have hW := W1_WF hR
  have hz := W1_hz hR
  refine ev_loc f_L_law (nx := 631) rfl rfl rfl rfl ?_
  refine ev_loc f_L_law (nx := 632) rfl rfl rfl rfl ?_
  refine ev_loc f_L_law (nx := 633) rfl rfl rfl rfl ?_
  refine ev_ic f_L_law (nx := 634) (v := 1) rfl (by decide) rfl ?_
  refine ev_aluvI f_L_law (nx := 635) (w := 1) rfl rfl rfl (by decide) rfl ?_
  refine ev_scrv f_L_law (nx := 636) (j := 1) (w := 5) rfl hX (by decide) (by decide) (by decide) e1 rfl ?_
  refine ev_inV2 f_L_law (nx := 639) (lo2 := [(0, .ref 0), (1, .int 5)]) rfl rfl rfl rfl f_X11_told (hW.s rfl) rfl rfl rfl rfl rfl ?_
  refine ev_loc f_X11_told (nx := 1) rfl rfl rfl rfl ?_
  refine ev_jmp f_X11_told (nx := 125) rfl rfl rfl ?_
  refine ev_loc f_X11_told (nx := 126) rfl rfl rfl rfl ?_
  refine ev_loc f_X11_told (nx := 127) rfl rfl rfl rfl ?_
  refine ev_getR f_X11_told (nx := 130) rfl (hW.s rfl) rfl rfl (wr_0_6 (gr := gr) hR) rfl rfl ?_
  refine ev_gvI f_X11_told (nx := 133) (w := 0) rfl (hW.s rfl) rfl rfl (wi_3_4 (gi := gi) hR) rfl ?_
  refine ev_inV2 f_X11_told (nx := 136) (lo2 := [(0, .ref 0), (1, .int 0)]) rfl rfl rfl rfl f_X11_answer (hW.s rfl) rfl rfl rfl rfl rfl ?_
  refine ev_loc f_X11_answer (nx := 1) rfl rfl rfl rfl ?_
  refine ev_ic f_X11_answer (nx := 2) (v := 0) rfl (by decide) rfl ?_
  refine ev_putI f_X11_answer (nx := 5) rfl (hW.s rfl) rfl rfl rfl ?_
  refine ev_loc f_X11_answer (nx := 6) rfl rfl rfl rfl ?_
  refine ev_retK1 f_X11_answer rfl rfl rfl ?_
  refine ev_retK1 f_X11_told rfl rfl rfl ?_
  refine ev_loc f_L_law (nx := 640) rfl rfl rfl rfl ?_
  refine ev_loc f_L_law (nx := 641) rfl rfl rfl rfl ?_
  refine ev_loc f_L_law (nx := 642) rfl rfl rfl rfl ?_
  refine ev_ic f_L_law (nx := 643) (v := 1) rfl (by decide) rfl ?_
  refine ev_aluvI f_L_law (nx := 644) (w := 1) rfl rfl rfl (by decide) rfl ?_
  refine ev_scrv f_L_law (nx := 645) (j := 1) (w := 5) rfl hX (by decide) (by decide) (by decide) e1 rfl ?_
  refine ev_inV2 f_L_law (nx := 648) (lo2 := [(0, .ref 69), (1, .int 5)]) rfl rfl rfl rfl f_X12_told (hW.s rfl) rfl rfl rfl rfl rfl ?_
  refine ev_loc f_X12_told (nx := 1) rfl rfl rfl rfl ?_
  refine ev_f f_X12_told (t1 := 10) (t2 := 4) rfl rfl rfl (by decide) ?_
  refine ev_loc f_X12_told (nx := 5) rfl rfl rfl rfl ?_
  refine ev_bp f_X12_told (nx := 7) (v := 7) rfl (by decide) rfl ?_
  refine ev_t f_X12_told (t1 := 18) (t2 := 10) rfl rfl rfl (by decide) ?_
  refine ev_loc f_X12_told (nx := 19) rfl rfl rfl rfl ?_
  refine ev_loc f_X12_told (nx := 20) rfl rfl rfl rfl ?_
  refine ev_getR f_X12_told (nx := 23) rfl (hW.s rfl) rfl rfl (hW.r rfl) rfl rfl ?_
  refine ev_loc f_X12_told (nx := 24) rfl rfl rfl rfl ?_
  refine ev_ialdv f_X12_told (nx := 25) (j := 5) (w := 0) rfl (hW.s rfl) (by decide) (by decide) (by decide) (wi_70_5 (gi := gi) hR) rfl ?_
  refine ev_inV2 f_X12_told (nx := 28) (lo2 := [(0, .ref 69), (1, .int 0)]) rfl rfl rfl rfl f_X12_gives (hW.s rfl) rfl rfl rfl rfl rfl ?_
  refine ev_loc f_X12_gives (nx := 1) rfl rfl rfl rfl ?_
  refine ev_ic f_X12_gives (nx := 2) (v := 0) rfl (by decide) rfl ?_
  refine ev_putI f_X12_gives (nx := 5) rfl (hW.s rfl) rfl rfl rfl ?_
  refine ev_loc f_X12_gives (nx := 6) rfl rfl rfl rfl ?_
  refine ev_retK1 f_X12_gives rfl rfl rfl ?_
  refine ev_retK1 f_X12_told rfl rfl rfl ?_
  refine ev_t f_L_law (t1 := 1628) (t2 := 651) rfl rfl rfl (by decide) ?_
  refine ev_incv f_L_law (nx := 1631) (c := 6) (w := 6) (lo' := [(3, .int 6), (2, .ref 69), (1, .ref 0), (0, .retAddr 30)]) rfl rfl (by decide) (by decide) rfl rfl rfl ?_
  refine ev_jmp f_L_law (nx := 18) rfl rfl rfl ?_
  refine ev_loc f_L_law (nx := 19) rfl rfl rfl rfl ?_
  refine ev_loc f_L_law (nx := 20) rfl rfl rfl rfl ?_
  refine ev_alenX f_L_law (nx := 21) rfl hX rfl ?_
  refine ev_bp f_L_law (nx := 23) (v := 6) rfl (by decide) rfl ?_
  refine ev_aluvI f_L_law (nx := 24) (w := 0) rfl rfl rfl (by decide) rfl ?_
  refine ev_t f_L_law (t1 := 1634) (t2 := 27) rfl rfl rfl (by decide) ?_
  refine ev_ic f_L_law (nx := 1635) (v := 1) rfl (by decide) rfl ?_
  refine ev_ret f_L_law rfl rfl rfl ?_
  exact ⟨rfl, hz⟩
set_option maxRecDepth 20000 in
theorem pc_11_6 (hR : x_R W1 (sh, gi, gl, gr)) (hX : X.1 = 6) (e1 : X.2 1 = 6) : x_Ev X 1000 n_L_law 630 [(3, .int 0), (2, .ref 69), (1, .ref 0), (0, .retAddr 30)] [] (sh, gi, gl, gr) x_P1 := by
  have hW := W1_WF hR
  have hz := W1_hz hR
  refine ev_loc f_L_law (nx := 631) rfl rfl rfl rfl ?_
  refine ev_loc f_L_law (nx := 632) rfl rfl rfl rfl ?_
  refine ev_loc f_L_law (nx := 633) rfl rfl rfl rfl ?_
  refine ev_ic f_L_law (nx := 634) (v := 1) rfl (by decide) rfl ?_
  refine ev_aluvI f_L_law (nx := 635) (w := 1) rfl rfl rfl (by decide) rfl ?_
  refine ev_scrv f_L_law (nx := 636) (j := 1) (w := 6) rfl hX (by decide) (by decide) (by decide) e1 rfl ?_
  refine ev_inV2 f_L_law (nx := 639) (lo2 := [(0, .ref 0), (1, .int 6)]) rfl rfl rfl rfl f_X11_told (hW.s rfl) rfl rfl rfl rfl rfl ?_
  refine ev_loc f_X11_told (nx := 1) rfl rfl rfl rfl ?_
  refine ev_jmp f_X11_told (nx := 137) rfl rfl rfl ?_
  refine ev_loc f_X11_told (nx := 138) rfl rfl rfl rfl ?_
  refine ev_loc f_X11_told (nx := 139) rfl rfl rfl rfl ?_
  refine ev_getR f_X11_told (nx := 142) rfl (hW.s rfl) rfl rfl (wr_0_6 (gr := gr) hR) rfl rfl ?_
  refine ev_gvI f_X11_told (nx := 145) (w := 0) rfl (hW.s rfl) rfl rfl (wi_3_5 (gi := gi) hR) rfl ?_
  refine ev_inV2 f_X11_told (nx := 148) (lo2 := [(0, .ref 0), (1, .int 0)]) rfl rfl rfl rfl f_X11_answer (hW.s rfl) rfl rfl rfl rfl rfl ?_
  refine ev_loc f_X11_answer (nx := 1) rfl rfl rfl rfl ?_
  refine ev_ic f_X11_answer (nx := 2) (v := 0) rfl (by decide) rfl ?_
  refine ev_putI f_X11_answer (nx := 5) rfl (hW.s rfl) rfl rfl rfl ?_
  refine ev_loc f_X11_answer (nx := 6) rfl rfl rfl rfl ?_
  refine ev_retK1 f_X11_answer rfl rfl rfl ?_
  refine ev_retK1 f_X11_told rfl rfl rfl ?_
  refine ev_loc f_L_law (nx := 640) rfl rfl rfl rfl ?_
  refine ev_loc f_L_law (nx := 641) rfl rfl rfl rfl ?_
  refine ev_loc f_L_law (nx := 642) rfl rfl rfl rfl ?_
  refine ev_ic f_L_law (nx := 643) (v := 1) rfl (by decide) rfl ?_
  refine ev_aluvI f_L_law (nx := 644) (w := 1) rfl rfl rfl (by decide) rfl ?_
  refine ev_scrv f_L_law (nx := 645) (j := 1) (w := 6) rfl hX (by decide) (by decide) (by decide) e1 rfl ?_
  refine ev_inV2 f_L_law (nx := 648) (lo2 := [(0, .ref 69), (1, .int 6)]) rfl rfl rfl rfl f_X12_told (hW.s rfl) rfl rfl rfl rfl rfl ?_
  refine ev_loc f_X12_told (nx := 1) rfl rfl rfl rfl ?_
  refine ev_f f_X12_told (t1 := 10) (t2 := 4) rfl rfl rfl (by decide) ?_
  refine ev_loc f_X12_told (nx := 5) rfl rfl rfl rfl ?_
  refine ev_bp f_X12_told (nx := 7) (v := 7) rfl (by decide) rfl ?_
  refine ev_t f_X12_told (t1 := 18) (t2 := 10) rfl rfl rfl (by decide) ?_
  refine ev_loc f_X12_told (nx := 19) rfl rfl rfl rfl ?_
  refine ev_loc f_X12_told (nx := 20) rfl rfl rfl rfl ?_
  refine ev_getR f_X12_told (nx := 23) rfl (hW.s rfl) rfl rfl (hW.r rfl) rfl rfl ?_
  refine ev_loc f_X12_told (nx := 24) rfl rfl rfl rfl ?_
  refine ev_ialdv f_X12_told (nx := 25) (j := 6) (w := 0) rfl (hW.s rfl) (by decide) (by decide) (by decide) (wi_70_6 (gi := gi) hR) rfl ?_
  refine ev_inV2 f_X12_told (nx := 28) (lo2 := [(0, .ref 69), (1, .int 0)]) rfl rfl rfl rfl f_X12_gives (hW.s rfl) rfl rfl rfl rfl rfl ?_
  refine ev_loc f_X12_gives (nx := 1) rfl rfl rfl rfl ?_
  refine ev_ic f_X12_gives (nx := 2) (v := 0) rfl (by decide) rfl ?_
  refine ev_putI f_X12_gives (nx := 5) rfl (hW.s rfl) rfl rfl rfl ?_
  refine ev_loc f_X12_gives (nx := 6) rfl rfl rfl rfl ?_
  refine ev_retK1 f_X12_gives rfl rfl rfl ?_
  refine ev_retK1 f_X12_told rfl rfl rfl ?_
  refine ev_t f_L_law (t1 := 1628) (t2 := 651) rfl rfl rfl (by decide) ?_
  refine ev_incv f_L_law (nx := 1631) (c := 6) (w := 6) (lo' := [(3, .int 6), (2, .ref 69), (1, .ref 0), (0, .retAddr 30)]) rfl rfl (by decide) (by decide) rfl rfl rfl ?_
  refine ev_jmp f_L_law (nx := 18) rfl rfl rfl ?_
  refine ev_loc f_L_law (nx := 19) rfl rfl rfl rfl ?_
  refine ev_loc f_L_law (nx := 20) rfl rfl rfl rfl ?_
  refine ev_alenX f_L_law (nx := 21) rfl hX rfl ?_
  refine ev_bp f_L_law (nx := 23) (v := 6) rfl (by decide) rfl ?_
  refine ev_aluvI f_L_law (nx := 24) (w := 0) rfl rfl rfl (by decide) rfl ?_
  refine ev_t f_L_law (t1 := 1634) (t2 := 27) rfl rfl rfl (by decide) ?_
  refine ev_ic f_L_law (nx := 1635) (v := 1) rfl (by decide) rfl ?_
  refine ev_ret f_L_law rfl rfl rfl ?_
  exact ⟨rfl, hz⟩
set_option maxRecDepth 20000 in
theorem pc_11_7 (hR : x_R W1 (sh, gi, gl, gr)) (hX : X.1 = 6) (e1 : X.2 1 = 7) : x_Ev X 1000 n_L_law 630 [(3, .int 0), (2, .ref 69), (1, .ref 0), (0, .retAddr 30)] [] (sh, gi, gl, gr) x_P1 := by
  have hW := W1_WF hR
  have hz := W1_hz hR
  refine ev_loc f_L_law (nx := 631) rfl rfl rfl rfl ?_
  refine ev_loc f_L_law (nx := 632) rfl rfl rfl rfl ?_
  refine ev_loc f_L_law (nx := 633) rfl rfl rfl rfl ?_
  refine ev_ic f_L_law (nx := 634) (v := 1) rfl (by decide) rfl ?_
  refine ev_aluvI f_L_law (nx := 635) (w := 1) rfl rfl rfl (by decide) rfl ?_
  refine ev_scrv f_L_law (nx := 636) (j := 1) (w := 7) rfl hX (by decide) (by decide) (by decide) e1 rfl ?_
  refine ev_inV2 f_L_law (nx := 639) (lo2 := [(0, .ref 0), (1, .int 7)]) rfl rfl rfl rfl f_X11_told (hW.s rfl) rfl rfl rfl rfl rfl ?_
  refine ev_loc f_X11_told (nx := 1) rfl rfl rfl rfl ?_
  refine ev_jmp f_X11_told (nx := 149) rfl rfl rfl ?_
  refine ev_loc f_X11_told (nx := 150) rfl rfl rfl rfl ?_
  refine ev_loc f_X11_told (nx := 151) rfl rfl rfl rfl ?_
  refine ev_getR f_X11_told (nx := 154) rfl (hW.s rfl) rfl rfl (wr_0_6 (gr := gr) hR) rfl rfl ?_
  refine ev_gvI f_X11_told (nx := 157) (w := 0) rfl (hW.s rfl) rfl rfl (wi_3_6 (gi := gi) hR) rfl ?_
  refine ev_inV2 f_X11_told (nx := 160) (lo2 := [(0, .ref 0), (1, .int 0)]) rfl rfl rfl rfl f_X11_answer (hW.s rfl) rfl rfl rfl rfl rfl ?_
  refine ev_loc f_X11_answer (nx := 1) rfl rfl rfl rfl ?_
  refine ev_ic f_X11_answer (nx := 2) (v := 0) rfl (by decide) rfl ?_
  refine ev_putI f_X11_answer (nx := 5) rfl (hW.s rfl) rfl rfl rfl ?_
  refine ev_loc f_X11_answer (nx := 6) rfl rfl rfl rfl ?_
  refine ev_retK1 f_X11_answer rfl rfl rfl ?_
  refine ev_retK1 f_X11_told rfl rfl rfl ?_
  refine ev_loc f_L_law (nx := 640) rfl rfl rfl rfl ?_
  refine ev_loc f_L_law (nx := 641) rfl rfl rfl rfl ?_
  refine ev_loc f_L_law (nx := 642) rfl rfl rfl rfl ?_
  refine ev_ic f_L_law (nx := 643) (v := 1) rfl (by decide) rfl ?_
  refine ev_aluvI f_L_law (nx := 644) (w := 1) rfl rfl rfl (by decide) rfl ?_
  refine ev_scrv f_L_law (nx := 645) (j := 1) (w := 7) rfl hX (by decide) (by decide) (by decide) e1 rfl ?_
  refine ev_inV2 f_L_law (nx := 648) (lo2 := [(0, .ref 69), (1, .int 7)]) rfl rfl rfl rfl f_X12_told (hW.s rfl) rfl rfl rfl rfl rfl ?_
  refine ev_loc f_X12_told (nx := 1) rfl rfl rfl rfl ?_
  refine ev_f f_X12_told (t1 := 10) (t2 := 4) rfl rfl rfl (by decide) ?_
  refine ev_loc f_X12_told (nx := 5) rfl rfl rfl rfl ?_
  refine ev_bp f_X12_told (nx := 7) (v := 7) rfl (by decide) rfl ?_
  refine ev_t f_X12_told (t1 := 18) (t2 := 10) rfl rfl rfl (by decide) ?_
  refine ev_loc f_X12_told (nx := 19) rfl rfl rfl rfl ?_
  refine ev_loc f_X12_told (nx := 20) rfl rfl rfl rfl ?_
  refine ev_getR f_X12_told (nx := 23) rfl (hW.s rfl) rfl rfl (hW.r rfl) rfl rfl ?_
  refine ev_loc f_X12_told (nx := 24) rfl rfl rfl rfl ?_
  refine ev_ialdv f_X12_told (nx := 25) (j := 7) (w := 0) rfl (hW.s rfl) (by decide) (by decide) (by decide) (wi_70_7 (gi := gi) hR) rfl ?_
  refine ev_inV2 f_X12_told (nx := 28) (lo2 := [(0, .ref 69), (1, .int 0)]) rfl rfl rfl rfl f_X12_gives (hW.s rfl) rfl rfl rfl rfl rfl ?_
  refine ev_loc f_X12_gives (nx := 1) rfl rfl rfl rfl ?_
  refine ev_ic f_X12_gives (nx := 2) (v := 0) rfl (by decide) rfl ?_
  refine ev_putI f_X12_gives (nx := 5) rfl (hW.s rfl) rfl rfl rfl ?_
  refine ev_loc f_X12_gives (nx := 6) rfl rfl rfl rfl ?_
  refine ev_retK1 f_X12_gives rfl rfl rfl ?_
  refine ev_retK1 f_X12_told rfl rfl rfl ?_
  refine ev_t f_L_law (t1 := 1628) (t2 := 651) rfl rfl rfl (by decide) ?_
  refine ev_incv f_L_law (nx := 1631) (c := 6) (w := 6) (lo' := [(3, .int 6), (2, .ref 69), (1, .ref 0), (0, .retAddr 30)]) rfl rfl (by decide) (by decide) rfl rfl rfl ?_
  refine ev_jmp f_L_law (nx := 18) rfl rfl rfl ?_
  refine ev_loc f_L_law (nx := 19) rfl rfl rfl rfl ?_
  refine ev_loc f_L_law (nx := 20) rfl rfl rfl rfl ?_
  refine ev_alenX f_L_law (nx := 21) rfl hX rfl ?_
  refine ev_bp f_L_law (nx := 23) (v := 6) rfl (by decide) rfl ?_
  refine ev_aluvI f_L_law (nx := 24) (w := 0) rfl rfl rfl (by decide) rfl ?_
  refine ev_t f_L_law (t1 := 1634) (t2 := 27) rfl rfl rfl (by decide) ?_
  refine ev_ic f_L_law (nx := 1635) (v := 1) rfl (by decide) rfl ?_
  refine ev_ret f_L_law rfl rfl rfl ?_
  exact ⟨rfl, hz⟩
set_option maxRecDepth 20000 in
theorem pc_11_l (hR : x_R W1 (sh, gi, gl, gr)) (hX : X.1 = 6) (l1 : -2147483648 ≤ (X.2 1).toInt) (u1 : (X.2 1).toInt ≤ -1) : x_Ev X 1000 n_L_law 630 [(3, .int 0), (2, .ref 69), (1, .ref 0), (0, .retAddr 30)] [] (sh, gi, gl, gr) x_P1 := by
  have hW := W1_WF hR
  have hz := W1_hz hR
  refine ev_loc f_L_law (nx := 631) rfl rfl rfl rfl ?_
  refine ev_loc f_L_law (nx := 632) rfl rfl rfl rfl ?_
  refine ev_loc f_L_law (nx := 633) rfl rfl rfl rfl ?_
  refine ev_ic f_L_law (nx := 634) (v := 1) rfl (by decide) rfl ?_
  refine ev_aluvI f_L_law (nx := 635) (w := 1) rfl rfl rfl (by decide) rfl ?_
  refine ev_scr f_L_law (nx := 636) (j := 1) rfl hX (by decide) (by decide) (by decide) rfl ?_
  refine ev_inV2 f_L_law (nx := 639) (lo2 := [(0, .ref 0), (1, .int ((X.2 1)))]) rfl rfl rfl rfl f_X11_told (hW.s rfl) rfl rfl rfl rfl rfl ?_
  refine ev_loc f_X11_told (nx := 1) rfl rfl rfl rfl ?_
  refine ev_swd f_X11_told (nx := 161) rfl (by omega) (by decide) rfl ?_
  refine ev_loc f_X11_told (nx := 162) rfl rfl rfl rfl ?_
  refine ev_ic f_X11_told (nx := 163) (v := 1) rfl (by decide) rfl ?_
  refine ev_inV2 f_X11_told (nx := 166) (lo2 := [(0, .ref 0), (1, .int 1)]) rfl rfl rfl rfl f_X11_refuse (hW.s rfl) rfl rfl rfl rfl rfl ?_
  refine ev_loc f_X11_refuse (nx := 1) rfl rfl rfl rfl ?_
  refine ev_loc f_X11_refuse (nx := 2) rfl rfl rfl rfl ?_
  refine ev_putI f_X11_refuse (nx := 5) rfl (hW.s rfl) rfl rfl rfl ?_
  refine ev_ic f_X11_refuse (nx := 6) (v := -1) rfl (by decide) rfl ?_
  refine ev_retK1 f_X11_refuse rfl rfl rfl ?_
  refine ev_retK1 f_X11_told rfl rfl rfl ?_
  refine ev_loc f_L_law (nx := 640) rfl rfl rfl rfl ?_
  refine ev_loc f_L_law (nx := 641) rfl rfl rfl rfl ?_
  refine ev_loc f_L_law (nx := 642) rfl rfl rfl rfl ?_
  refine ev_ic f_L_law (nx := 643) (v := 1) rfl (by decide) rfl ?_
  refine ev_aluvI f_L_law (nx := 644) (w := 1) rfl rfl rfl (by decide) rfl ?_
  refine ev_scr f_L_law (nx := 645) (j := 1) rfl hX (by decide) (by decide) (by decide) rfl ?_
  refine ev_inV2 f_L_law (nx := 648) (lo2 := [(0, .ref 69), (1, .int ((X.2 1)))]) rfl rfl rfl rfl f_X12_told (hW.s rfl) rfl rfl rfl rfl rfl ?_
  refine ev_loc f_X12_told (nx := 1) rfl rfl rfl rfl ?_
  refine ev_t f_X12_told (t1 := 10) (t2 := 4) rfl rfl rfl (by rw [Int32.lt_iff_toInt_lt, (by decide : (0 : Int32).toInt = 0)]; omega) ?_
  refine ev_loc f_X12_told (nx := 11) rfl rfl rfl rfl ?_
  refine ev_ic f_X12_told (nx := 12) (v := 1) rfl (by decide) rfl ?_
  refine ev_inV2 f_X12_told (nx := 15) (lo2 := [(0, .ref 69), (1, .int 1)]) rfl rfl rfl rfl f_X12_refuse (hW.s rfl) rfl rfl rfl rfl rfl ?_
  refine ev_loc f_X12_refuse (nx := 1) rfl rfl rfl rfl ?_
  refine ev_loc f_X12_refuse (nx := 2) rfl rfl rfl rfl ?_
  refine ev_putI f_X12_refuse (nx := 5) rfl (hW.s rfl) rfl rfl rfl ?_
  refine ev_ic f_X12_refuse (nx := 6) (v := -1) rfl (by decide) rfl ?_
  refine ev_retK1 f_X12_refuse rfl rfl rfl ?_
  refine ev_jmp f_X12_told (nx := 28) rfl rfl rfl ?_
  refine ev_retK1 f_X12_told rfl rfl rfl ?_
  refine ev_t f_L_law (t1 := 1628) (t2 := 651) rfl rfl rfl (by decide) ?_
  refine ev_incv f_L_law (nx := 1631) (c := 6) (w := 6) (lo' := [(3, .int 6), (2, .ref 69), (1, .ref 0), (0, .retAddr 30)]) rfl rfl (by decide) (by decide) rfl rfl rfl ?_
  refine ev_jmp f_L_law (nx := 18) rfl rfl rfl ?_
  refine ev_loc f_L_law (nx := 19) rfl rfl rfl rfl ?_
  refine ev_loc f_L_law (nx := 20) rfl rfl rfl rfl ?_
  refine ev_alenX f_L_law (nx := 21) rfl hX rfl ?_
  refine ev_bp f_L_law (nx := 23) (v := 6) rfl (by decide) rfl ?_
  refine ev_aluvI f_L_law (nx := 24) (w := 0) rfl rfl rfl (by decide) rfl ?_
  refine ev_t f_L_law (t1 := 1634) (t2 := 27) rfl rfl rfl (by decide) ?_
  refine ev_ic f_L_law (nx := 1635) (v := 1) rfl (by decide) rfl ?_
  refine ev_ret f_L_law rfl rfl rfl ?_
  exact ⟨rfl, hz⟩
set_option maxRecDepth 20000 in
theorem pc_11_h (hR : x_R W1 (sh, gi, gl, gr)) (hX : X.1 = 6) (l1 : 8 ≤ (X.2 1).toInt) (u1 : (X.2 1).toInt ≤ 2147483647) : x_Ev X 1000 n_L_law 630 [(3, .int 0), (2, .ref 69), (1, .ref 0), (0, .retAddr 30)] [] (sh, gi, gl, gr) x_P1 := by
  have hW := W1_WF hR
  have hz := W1_hz hR
  refine ev_loc f_L_law (nx := 631) rfl rfl rfl rfl ?_
  refine ev_loc f_L_law (nx := 632) rfl rfl rfl rfl ?_
  refine ev_loc f_L_law (nx := 633) rfl rfl rfl rfl ?_
  refine ev_ic f_L_law (nx := 634) (v := 1) rfl (by decide) rfl ?_
  refine ev_aluvI f_L_law (nx := 635) (w := 1) rfl rfl rfl (by decide) rfl ?_
  refine ev_scr f_L_law (nx := 636) (j := 1) rfl hX (by decide) (by decide) (by decide) rfl ?_
  refine ev_inV2 f_L_law (nx := 639) (lo2 := [(0, .ref 0), (1, .int ((X.2 1)))]) rfl rfl rfl rfl f_X11_told (hW.s rfl) rfl rfl rfl rfl rfl ?_
  refine ev_loc f_X11_told (nx := 1) rfl rfl rfl rfl ?_
  refine ev_swd f_X11_told (nx := 161) rfl (by omega) (by decide) rfl ?_
  refine ev_loc f_X11_told (nx := 162) rfl rfl rfl rfl ?_
  refine ev_ic f_X11_told (nx := 163) (v := 1) rfl (by decide) rfl ?_
  refine ev_inV2 f_X11_told (nx := 166) (lo2 := [(0, .ref 0), (1, .int 1)]) rfl rfl rfl rfl f_X11_refuse (hW.s rfl) rfl rfl rfl rfl rfl ?_
  refine ev_loc f_X11_refuse (nx := 1) rfl rfl rfl rfl ?_
  refine ev_loc f_X11_refuse (nx := 2) rfl rfl rfl rfl ?_
  refine ev_putI f_X11_refuse (nx := 5) rfl (hW.s rfl) rfl rfl rfl ?_
  refine ev_ic f_X11_refuse (nx := 6) (v := -1) rfl (by decide) rfl ?_
  refine ev_retK1 f_X11_refuse rfl rfl rfl ?_
  refine ev_retK1 f_X11_told rfl rfl rfl ?_
  refine ev_loc f_L_law (nx := 640) rfl rfl rfl rfl ?_
  refine ev_loc f_L_law (nx := 641) rfl rfl rfl rfl ?_
  refine ev_loc f_L_law (nx := 642) rfl rfl rfl rfl ?_
  refine ev_ic f_L_law (nx := 643) (v := 1) rfl (by decide) rfl ?_
  refine ev_aluvI f_L_law (nx := 644) (w := 1) rfl rfl rfl (by decide) rfl ?_
  refine ev_scr f_L_law (nx := 645) (j := 1) rfl hX (by decide) (by decide) (by decide) rfl ?_
  refine ev_inV2 f_L_law (nx := 648) (lo2 := [(0, .ref 69), (1, .int ((X.2 1)))]) rfl rfl rfl rfl f_X12_told (hW.s rfl) rfl rfl rfl rfl rfl ?_
  refine ev_loc f_X12_told (nx := 1) rfl rfl rfl rfl ?_
  refine ev_f f_X12_told (t1 := 10) (t2 := 4) rfl rfl rfl (by rw [Int32.lt_iff_toInt_lt, (by decide : (0 : Int32).toInt = 0)]; omega) ?_
  refine ev_loc f_X12_told (nx := 5) rfl rfl rfl rfl ?_
  refine ev_bp f_X12_told (nx := 7) (v := 7) rfl (by decide) rfl ?_
  refine ev_f f_X12_told (t1 := 18) (t2 := 10) rfl rfl rfl (by rw [Int32.le_iff_toInt_le, (by decide : (7 : Int32).toInt = 7)]; omega) ?_
  refine ev_loc f_X12_told (nx := 11) rfl rfl rfl rfl ?_
  refine ev_ic f_X12_told (nx := 12) (v := 1) rfl (by decide) rfl ?_
  refine ev_inV2 f_X12_told (nx := 15) (lo2 := [(0, .ref 69), (1, .int 1)]) rfl rfl rfl rfl f_X12_refuse (hW.s rfl) rfl rfl rfl rfl rfl ?_
  refine ev_loc f_X12_refuse (nx := 1) rfl rfl rfl rfl ?_
  refine ev_loc f_X12_refuse (nx := 2) rfl rfl rfl rfl ?_
  refine ev_putI f_X12_refuse (nx := 5) rfl (hW.s rfl) rfl rfl rfl ?_
  refine ev_ic f_X12_refuse (nx := 6) (v := -1) rfl (by decide) rfl ?_
  refine ev_retK1 f_X12_refuse rfl rfl rfl ?_
  refine ev_jmp f_X12_told (nx := 28) rfl rfl rfl ?_
  refine ev_retK1 f_X12_told rfl rfl rfl ?_
  refine ev_t f_L_law (t1 := 1628) (t2 := 651) rfl rfl rfl (by decide) ?_
  refine ev_incv f_L_law (nx := 1631) (c := 6) (w := 6) (lo' := [(3, .int 6), (2, .ref 69), (1, .ref 0), (0, .retAddr 30)]) rfl rfl (by decide) (by decide) rfl rfl rfl ?_
  refine ev_jmp f_L_law (nx := 18) rfl rfl rfl ?_
  refine ev_loc f_L_law (nx := 19) rfl rfl rfl rfl ?_
  refine ev_loc f_L_law (nx := 20) rfl rfl rfl rfl ?_
  refine ev_alenX f_L_law (nx := 21) rfl hX rfl ?_
  refine ev_bp f_L_law (nx := 23) (v := 6) rfl (by decide) rfl ?_
  refine ev_aluvI f_L_law (nx := 24) (w := 0) rfl rfl rfl (by decide) rfl ?_
  refine ev_t f_L_law (t1 := 1634) (t2 := 27) rfl rfl rfl (by decide) ?_
  refine ev_ic f_L_law (nx := 1635) (v := 1) rfl (by decide) rfl ?_
  refine ev_ret f_L_law rfl rfl rfl ?_
  exact ⟨rfl, hz⟩
set_option maxRecDepth 20000 in
theorem pc_8_l (hR : x_R W1 (sh, gi, gl, gr)) (hX : X.1 = 6) (l1 : -2147483648 ≤ (X.2 1).toInt) (u1 : (X.2 1).toInt ≤ -1) : x_Ev X 1000 n_L_law 561 [(3, .int 0), (2, .ref 69), (1, .ref 0), (0, .retAddr 30)] [] (sh, gi, gl, gr) x_P1 := by
  have hW := W1_WF hR
  have hz := W1_hz hR
  refine ev_loc f_L_law (nx := 562) rfl rfl rfl rfl ?_
  refine ev_loc f_L_law (nx := 563) rfl rfl rfl rfl ?_
  refine ev_loc f_L_law (nx := 564) rfl rfl rfl rfl ?_
  refine ev_ic f_L_law (nx := 565) (v := 1) rfl (by decide) rfl ?_
  refine ev_aluvI f_L_law (nx := 566) (w := 1) rfl rfl rfl (by decide) rfl ?_
  refine ev_scr f_L_law (nx := 567) (j := 1) rfl hX (by decide) (by decide) (by decide) rfl ?_
  refine ev_inV2 f_L_law (nx := 570) (lo2 := [(0, .ref 0), (1, .int ((X.2 1)))]) rfl rfl rfl rfl f_X11_river (hW.s rfl) rfl rfl rfl rfl rfl ?_
  refine ev_loc f_X11_river (nx := 1) rfl rfl rfl rfl ?_
  refine ev_t f_X11_river (t1 := 12) (t2 := 4) rfl rfl rfl (by rw [Int32.lt_iff_toInt_lt, (by decide : (0 : Int32).toInt = 0)]; omega) ?_
  refine ev_loc f_X11_river (nx := 13) rfl rfl rfl rfl ?_
  refine ev_ic f_X11_river (nx := 14) (v := 1) rfl (by decide) rfl ?_
  refine ev_inV2 f_X11_river (nx := 17) (lo2 := [(0, .ref 0), (1, .int 1)]) rfl rfl rfl rfl f_X11_refuse (hW.s rfl) rfl rfl rfl rfl rfl ?_
  refine ev_loc f_X11_refuse (nx := 1) rfl rfl rfl rfl ?_
  refine ev_loc f_X11_refuse (nx := 2) rfl rfl rfl rfl ?_
  refine ev_putI f_X11_refuse (nx := 5) rfl (hW.s rfl) rfl rfl rfl ?_
  refine ev_ic f_X11_refuse (nx := 6) (v := -1) rfl (by decide) rfl ?_
  refine ev_retK1 f_X11_refuse rfl rfl rfl ?_
  refine ev_retK1 f_X11_river rfl rfl rfl ?_
  refine ev_loc f_L_law (nx := 571) rfl rfl rfl rfl ?_
  refine ev_loc f_L_law (nx := 572) rfl rfl rfl rfl ?_
  refine ev_loc f_L_law (nx := 573) rfl rfl rfl rfl ?_
  refine ev_ic f_L_law (nx := 574) (v := 1) rfl (by decide) rfl ?_
  refine ev_aluvI f_L_law (nx := 575) (w := 1) rfl rfl rfl (by decide) rfl ?_
  refine ev_scr f_L_law (nx := 576) (j := 1) rfl hX (by decide) (by decide) (by decide) rfl ?_
  refine ev_inV2 f_L_law (nx := 579) (lo2 := [(0, .ref 69), (1, .int ((X.2 1)))]) rfl rfl rfl rfl f_X12_river (hW.s rfl) rfl rfl rfl rfl rfl ?_
  refine ev_loc f_X12_river (nx := 1) rfl rfl rfl rfl ?_
  refine ev_loc f_X12_river (nx := 2) rfl rfl rfl rfl ?_
  refine ev_sp f_X12_river (nx := 5) (v := 900) rfl (by decide) rfl ?_
  refine ev_inV3 f_X12_river (nx := 8) (lo2 := [(0, .ref 69), (1, .int ((X.2 1))), (2, .int 900)]) rfl rfl rfl rfl f_X12_begins (hW.s rfl) rfl rfl rfl rfl rfl ?_
  refine ev_loc f_X12_begins (nx := 1) rfl rfl rfl rfl ?_
  refine ev_t f_X12_begins (t1 := 17) (t2 := 4) rfl rfl rfl (by rw [Int32.lt_iff_toInt_lt, (by decide : (0 : Int32).toInt = 0)]; omega) ?_
  refine ev_ic f_X12_begins (nx := 18) (v := 0) rfl (by decide) rfl ?_
  refine ev_retK1 f_X12_begins rfl rfl rfl ?_
  refine ev_t f_X12_river (t1 := 11) (t2 := 17) rfl rfl rfl (by decide) ?_
  refine ev_loc f_X12_river (nx := 12) rfl rfl rfl rfl ?_
  refine ev_ic f_X12_river (nx := 13) (v := 1) rfl (by decide) rfl ?_
  refine ev_inV2 f_X12_river (nx := 16) (lo2 := [(0, .ref 69), (1, .int 1)]) rfl rfl rfl rfl f_X12_refuse (hW.s rfl) rfl rfl rfl rfl rfl ?_
  refine ev_loc f_X12_refuse (nx := 1) rfl rfl rfl rfl ?_
  refine ev_loc f_X12_refuse (nx := 2) rfl rfl rfl rfl ?_
  refine ev_putI f_X12_refuse (nx := 5) rfl (hW.s rfl) rfl rfl rfl ?_
  refine ev_ic f_X12_refuse (nx := 6) (v := -1) rfl (by decide) rfl ?_
  refine ev_retK1 f_X12_refuse rfl rfl rfl ?_
  refine ev_retK1 f_X12_river rfl rfl rfl ?_
  refine ev_t f_L_law (t1 := 1628) (t2 := 582) rfl rfl rfl (by decide) ?_
  refine ev_incv f_L_law (nx := 1631) (c := 6) (w := 6) (lo' := [(3, .int 6), (2, .ref 69), (1, .ref 0), (0, .retAddr 30)]) rfl rfl (by decide) (by decide) rfl rfl rfl ?_
  refine ev_jmp f_L_law (nx := 18) rfl rfl rfl ?_
  refine ev_loc f_L_law (nx := 19) rfl rfl rfl rfl ?_
  refine ev_loc f_L_law (nx := 20) rfl rfl rfl rfl ?_
  refine ev_alenX f_L_law (nx := 21) rfl hX rfl ?_
  refine ev_bp f_L_law (nx := 23) (v := 6) rfl (by decide) rfl ?_
  refine ev_aluvI f_L_law (nx := 24) (w := 0) rfl rfl rfl (by decide) rfl ?_
  refine ev_t f_L_law (t1 := 1634) (t2 := 27) rfl rfl rfl (by decide) ?_
  refine ev_ic f_L_law (nx := 1635) (v := 1) rfl (by decide) rfl ?_
  refine ev_ret f_L_law rfl rfl rfl ?_
  exact ⟨rfl, hz⟩
set_option maxRecDepth 20000 in
theorem pc_8_h (hR : x_R W1 (sh, gi, gl, gr)) (hX : X.1 = 6) (l1 : 1 ≤ (X.2 1).toInt) (u1 : (X.2 1).toInt ≤ 2147483647) : x_Ev X 1000 n_L_law 561 [(3, .int 0), (2, .ref 69), (1, .ref 0), (0, .retAddr 30)] [] (sh, gi, gl, gr) x_P1 := by
  have hW := W1_WF hR
  have hz := W1_hz hR
  refine ev_loc f_L_law (nx := 562) rfl rfl rfl rfl ?_
  refine ev_loc f_L_law (nx := 563) rfl rfl rfl rfl ?_
  refine ev_loc f_L_law (nx := 564) rfl rfl rfl rfl ?_
  refine ev_ic f_L_law (nx := 565) (v := 1) rfl (by decide) rfl ?_
  refine ev_aluvI f_L_law (nx := 566) (w := 1) rfl rfl rfl (by decide) rfl ?_
  refine ev_scr f_L_law (nx := 567) (j := 1) rfl hX (by decide) (by decide) (by decide) rfl ?_
  refine ev_inV2 f_L_law (nx := 570) (lo2 := [(0, .ref 0), (1, .int ((X.2 1)))]) rfl rfl rfl rfl f_X11_river (hW.s rfl) rfl rfl rfl rfl rfl ?_
  refine ev_loc f_X11_river (nx := 1) rfl rfl rfl rfl ?_
  refine ev_f f_X11_river (t1 := 12) (t2 := 4) rfl rfl rfl (by rw [Int32.lt_iff_toInt_lt, (by decide : (0 : Int32).toInt = 0)]; omega) ?_
  refine ev_loc f_X11_river (nx := 5) rfl rfl rfl rfl ?_
  refine ev_loc f_X11_river (nx := 6) rfl rfl rfl rfl ?_
  refine ev_gvI f_X11_river (nx := 9) (w := 0) rfl (hW.s rfl) rfl rfl (wi_0_5 (gi := gi) hR) rfl ?_
  refine ev_f f_X11_river (t1 := 18) (t2 := 12) rfl rfl rfl (by rw [Int32.le_iff_toInt_le, (by decide : (0 : Int32).toInt = 0)]; omega) ?_
  refine ev_loc f_X11_river (nx := 13) rfl rfl rfl rfl ?_
  refine ev_ic f_X11_river (nx := 14) (v := 1) rfl (by decide) rfl ?_
  refine ev_inV2 f_X11_river (nx := 17) (lo2 := [(0, .ref 0), (1, .int 1)]) rfl rfl rfl rfl f_X11_refuse (hW.s rfl) rfl rfl rfl rfl rfl ?_
  refine ev_loc f_X11_refuse (nx := 1) rfl rfl rfl rfl ?_
  refine ev_loc f_X11_refuse (nx := 2) rfl rfl rfl rfl ?_
  refine ev_putI f_X11_refuse (nx := 5) rfl (hW.s rfl) rfl rfl rfl ?_
  refine ev_ic f_X11_refuse (nx := 6) (v := -1) rfl (by decide) rfl ?_
  refine ev_retK1 f_X11_refuse rfl rfl rfl ?_
  refine ev_retK1 f_X11_river rfl rfl rfl ?_
  refine ev_loc f_L_law (nx := 571) rfl rfl rfl rfl ?_
  refine ev_loc f_L_law (nx := 572) rfl rfl rfl rfl ?_
  refine ev_loc f_L_law (nx := 573) rfl rfl rfl rfl ?_
  refine ev_ic f_L_law (nx := 574) (v := 1) rfl (by decide) rfl ?_
  refine ev_aluvI f_L_law (nx := 575) (w := 1) rfl rfl rfl (by decide) rfl ?_
  refine ev_scr f_L_law (nx := 576) (j := 1) rfl hX (by decide) (by decide) (by decide) rfl ?_
  refine ev_inV2 f_L_law (nx := 579) (lo2 := [(0, .ref 69), (1, .int ((X.2 1)))]) rfl rfl rfl rfl f_X12_river (hW.s rfl) rfl rfl rfl rfl rfl ?_
  refine ev_loc f_X12_river (nx := 1) rfl rfl rfl rfl ?_
  refine ev_loc f_X12_river (nx := 2) rfl rfl rfl rfl ?_
  refine ev_sp f_X12_river (nx := 5) (v := 900) rfl (by decide) rfl ?_
  refine ev_inV3 f_X12_river (nx := 8) (lo2 := [(0, .ref 69), (1, .int ((X.2 1))), (2, .int 900)]) rfl rfl rfl rfl f_X12_begins (hW.s rfl) rfl rfl rfl rfl rfl ?_
  refine ev_loc f_X12_begins (nx := 1) rfl rfl rfl rfl ?_
  refine ev_f f_X12_begins (t1 := 17) (t2 := 4) rfl rfl rfl (by rw [Int32.lt_iff_toInt_lt, (by decide : (0 : Int32).toInt = 0)]; omega) ?_
  refine ev_loc f_X12_begins (nx := 5) rfl rfl rfl rfl ?_
  refine ev_loc f_X12_begins (nx := 6) rfl rfl rfl rfl ?_
  refine ev_gvI f_X12_begins (nx := 9) (w := 0) rfl (hW.s rfl) rfl rfl (wi_69_10 (gi := gi) hR) rfl ?_
  refine ev_t f_X12_begins (t1 := 17) (t2 := 12) rfl rfl rfl (by rw [Int32.lt_iff_toInt_lt, (by decide : (0 : Int32).toInt = 0)]; omega) ?_
  refine ev_ic f_X12_begins (nx := 18) (v := 0) rfl (by decide) rfl ?_
  refine ev_retK1 f_X12_begins rfl rfl rfl ?_
  refine ev_t f_X12_river (t1 := 11) (t2 := 17) rfl rfl rfl (by decide) ?_
  refine ev_loc f_X12_river (nx := 12) rfl rfl rfl rfl ?_
  refine ev_ic f_X12_river (nx := 13) (v := 1) rfl (by decide) rfl ?_
  refine ev_inV2 f_X12_river (nx := 16) (lo2 := [(0, .ref 69), (1, .int 1)]) rfl rfl rfl rfl f_X12_refuse (hW.s rfl) rfl rfl rfl rfl rfl ?_
  refine ev_loc f_X12_refuse (nx := 1) rfl rfl rfl rfl ?_
  refine ev_loc f_X12_refuse (nx := 2) rfl rfl rfl rfl ?_
  refine ev_putI f_X12_refuse (nx := 5) rfl (hW.s rfl) rfl rfl rfl ?_
  refine ev_ic f_X12_refuse (nx := 6) (v := -1) rfl (by decide) rfl ?_
  refine ev_retK1 f_X12_refuse rfl rfl rfl ?_
  refine ev_retK1 f_X12_river rfl rfl rfl ?_
  refine ev_t f_L_law (t1 := 1628) (t2 := 582) rfl rfl rfl (by decide) ?_
  refine ev_incv f_L_law (nx := 1631) (c := 6) (w := 6) (lo' := [(3, .int 6), (2, .ref 69), (1, .ref 0), (0, .retAddr 30)]) rfl rfl (by decide) (by decide) rfl rfl rfl ?_
  refine ev_jmp f_L_law (nx := 18) rfl rfl rfl ?_
  refine ev_loc f_L_law (nx := 19) rfl rfl rfl rfl ?_
  refine ev_loc f_L_law (nx := 20) rfl rfl rfl rfl ?_
  refine ev_alenX f_L_law (nx := 21) rfl hX rfl ?_
  refine ev_bp f_L_law (nx := 23) (v := 6) rfl (by decide) rfl ?_
  refine ev_aluvI f_L_law (nx := 24) (w := 0) rfl rfl rfl (by decide) rfl ?_
  refine ev_t f_L_law (t1 := 1634) (t2 := 27) rfl rfl rfl (by decide) ?_
  refine ev_ic f_L_law (nx := 1635) (v := 1) rfl (by decide) rfl ?_
  refine ev_ret f_L_law rfl rfl rfl ?_
  exact ⟨rfl, hz⟩
set_option maxRecDepth 20000 in
theorem pc_9_l (hR : x_R W1 (sh, gi, gl, gr)) (hX : X.1 = 6) (l1 : -2147483648 ≤ (X.2 1).toInt) (u1 : (X.2 1).toInt ≤ -1) : x_Ev X 1000 n_L_law 584 [(3, .int 0), (2, .ref 69), (1, .ref 0), (0, .retAddr 30)] [] (sh, gi, gl, gr) x_P1 := by
  have hW := W1_WF hR
  have hz := W1_hz hR
  refine ev_loc f_L_law (nx := 585) rfl rfl rfl rfl ?_
  refine ev_loc f_L_law (nx := 586) rfl rfl rfl rfl ?_
  refine ev_loc f_L_law (nx := 587) rfl rfl rfl rfl ?_
  refine ev_ic f_L_law (nx := 588) (v := 1) rfl (by decide) rfl ?_
  refine ev_aluvI f_L_law (nx := 589) (w := 1) rfl rfl rfl (by decide) rfl ?_
  refine ev_scr f_L_law (nx := 590) (j := 1) rfl hX (by decide) (by decide) (by decide) rfl ?_
  refine ev_inV2 f_L_law (nx := 593) (lo2 := [(0, .ref 0), (1, .int ((X.2 1)))]) rfl rfl rfl rfl f_X11_rules (hW.s rfl) rfl rfl rfl rfl rfl ?_
  refine ev_loc f_X11_rules (nx := 1) rfl rfl rfl rfl ?_
  refine ev_t f_X11_rules (t1 := 19) (t2 := 4) rfl rfl rfl (by rw [Int32.lt_iff_toInt_lt, (by decide : (0 : Int32).toInt = 0)]; omega) ?_
  refine ev_loc f_X11_rules (nx := 20) rfl rfl rfl rfl ?_
  refine ev_ic f_X11_rules (nx := 21) (v := 1) rfl (by decide) rfl ?_
  refine ev_inV2 f_X11_rules (nx := 24) (lo2 := [(0, .ref 0), (1, .int 1)]) rfl rfl rfl rfl f_X11_refuse (hW.s rfl) rfl rfl rfl rfl rfl ?_
  refine ev_loc f_X11_refuse (nx := 1) rfl rfl rfl rfl ?_
  refine ev_loc f_X11_refuse (nx := 2) rfl rfl rfl rfl ?_
  refine ev_putI f_X11_refuse (nx := 5) rfl (hW.s rfl) rfl rfl rfl ?_
  refine ev_ic f_X11_refuse (nx := 6) (v := -1) rfl (by decide) rfl ?_
  refine ev_retK1 f_X11_refuse rfl rfl rfl ?_
  refine ev_retK1 f_X11_rules rfl rfl rfl ?_
  refine ev_loc f_L_law (nx := 594) rfl rfl rfl rfl ?_
  refine ev_loc f_L_law (nx := 595) rfl rfl rfl rfl ?_
  refine ev_loc f_L_law (nx := 596) rfl rfl rfl rfl ?_
  refine ev_ic f_L_law (nx := 597) (v := 1) rfl (by decide) rfl ?_
  refine ev_aluvI f_L_law (nx := 598) (w := 1) rfl rfl rfl (by decide) rfl ?_
  refine ev_scr f_L_law (nx := 599) (j := 1) rfl hX (by decide) (by decide) (by decide) rfl ?_
  refine ev_inV2 f_L_law (nx := 602) (lo2 := [(0, .ref 69), (1, .int ((X.2 1)))]) rfl rfl rfl rfl f_X12_rules (hW.s rfl) rfl rfl rfl rfl rfl ?_
  refine ev_loc f_X12_rules (nx := 1) rfl rfl rfl rfl ?_
  refine ev_loc f_X12_rules (nx := 2) rfl rfl rfl rfl ?_
  refine ev_sp f_X12_rules (nx := 5) (v := 300) rfl (by decide) rfl ?_
  refine ev_inV3 f_X12_rules (nx := 8) (lo2 := [(0, .ref 69), (1, .int ((X.2 1))), (2, .int 300)]) rfl rfl rfl rfl f_X12_begins (hW.s rfl) rfl rfl rfl rfl rfl ?_
  refine ev_loc f_X12_begins (nx := 1) rfl rfl rfl rfl ?_
  refine ev_t f_X12_begins (t1 := 17) (t2 := 4) rfl rfl rfl (by rw [Int32.lt_iff_toInt_lt, (by decide : (0 : Int32).toInt = 0)]; omega) ?_
  refine ev_ic f_X12_begins (nx := 18) (v := 0) rfl (by decide) rfl ?_
  refine ev_retK1 f_X12_begins rfl rfl rfl ?_
  refine ev_t f_X12_rules (t1 := 11) (t2 := 17) rfl rfl rfl (by decide) ?_
  refine ev_loc f_X12_rules (nx := 12) rfl rfl rfl rfl ?_
  refine ev_ic f_X12_rules (nx := 13) (v := 1) rfl (by decide) rfl ?_
  refine ev_inV2 f_X12_rules (nx := 16) (lo2 := [(0, .ref 69), (1, .int 1)]) rfl rfl rfl rfl f_X12_refuse (hW.s rfl) rfl rfl rfl rfl rfl ?_
  refine ev_loc f_X12_refuse (nx := 1) rfl rfl rfl rfl ?_
  refine ev_loc f_X12_refuse (nx := 2) rfl rfl rfl rfl ?_
  refine ev_putI f_X12_refuse (nx := 5) rfl (hW.s rfl) rfl rfl rfl ?_
  refine ev_ic f_X12_refuse (nx := 6) (v := -1) rfl (by decide) rfl ?_
  refine ev_retK1 f_X12_refuse rfl rfl rfl ?_
  refine ev_retK1 f_X12_rules rfl rfl rfl ?_
  refine ev_t f_L_law (t1 := 1628) (t2 := 605) rfl rfl rfl (by decide) ?_
  refine ev_incv f_L_law (nx := 1631) (c := 6) (w := 6) (lo' := [(3, .int 6), (2, .ref 69), (1, .ref 0), (0, .retAddr 30)]) rfl rfl (by decide) (by decide) rfl rfl rfl ?_
  refine ev_jmp f_L_law (nx := 18) rfl rfl rfl ?_
  refine ev_loc f_L_law (nx := 19) rfl rfl rfl rfl ?_
  refine ev_loc f_L_law (nx := 20) rfl rfl rfl rfl ?_
  refine ev_alenX f_L_law (nx := 21) rfl hX rfl ?_
  refine ev_bp f_L_law (nx := 23) (v := 6) rfl (by decide) rfl ?_
  refine ev_aluvI f_L_law (nx := 24) (w := 0) rfl rfl rfl (by decide) rfl ?_
  refine ev_t f_L_law (t1 := 1634) (t2 := 27) rfl rfl rfl (by decide) ?_
  refine ev_ic f_L_law (nx := 1635) (v := 1) rfl (by decide) rfl ?_
  refine ev_ret f_L_law rfl rfl rfl ?_
  exact ⟨rfl, hz⟩
set_option maxRecDepth 20000 in
theorem pc_9_h (hR : x_R W1 (sh, gi, gl, gr)) (hX : X.1 = 6) (l1 : 1 ≤ (X.2 1).toInt) (u1 : (X.2 1).toInt ≤ 2147483647) : x_Ev X 1000 n_L_law 584 [(3, .int 0), (2, .ref 69), (1, .ref 0), (0, .retAddr 30)] [] (sh, gi, gl, gr) x_P1 := by
  have hW := W1_WF hR
  have hz := W1_hz hR
  refine ev_loc f_L_law (nx := 585) rfl rfl rfl rfl ?_
  refine ev_loc f_L_law (nx := 586) rfl rfl rfl rfl ?_
  refine ev_loc f_L_law (nx := 587) rfl rfl rfl rfl ?_
  refine ev_ic f_L_law (nx := 588) (v := 1) rfl (by decide) rfl ?_
  refine ev_aluvI f_L_law (nx := 589) (w := 1) rfl rfl rfl (by decide) rfl ?_
  refine ev_scr f_L_law (nx := 590) (j := 1) rfl hX (by decide) (by decide) (by decide) rfl ?_
  refine ev_inV2 f_L_law (nx := 593) (lo2 := [(0, .ref 0), (1, .int ((X.2 1)))]) rfl rfl rfl rfl f_X11_rules (hW.s rfl) rfl rfl rfl rfl rfl ?_
  refine ev_loc f_X11_rules (nx := 1) rfl rfl rfl rfl ?_
  refine ev_f f_X11_rules (t1 := 19) (t2 := 4) rfl rfl rfl (by rw [Int32.lt_iff_toInt_lt, (by decide : (0 : Int32).toInt = 0)]; omega) ?_
  refine ev_loc f_X11_rules (nx := 5) rfl rfl rfl rfl ?_
  refine ev_loc f_X11_rules (nx := 6) rfl rfl rfl rfl ?_
  refine ev_gvI f_X11_rules (nx := 9) (w := 0) rfl (hW.s rfl) rfl rfl (wi_0_5 (gi := gi) hR) rfl ?_
  refine ev_t f_X11_rules (t1 := 19) (t2 := 12) rfl rfl rfl (by rw [Int32.lt_iff_toInt_lt, (by decide : (0 : Int32).toInt = 0)]; omega) ?_
  refine ev_loc f_X11_rules (nx := 20) rfl rfl rfl rfl ?_
  refine ev_ic f_X11_rules (nx := 21) (v := 1) rfl (by decide) rfl ?_
  refine ev_inV2 f_X11_rules (nx := 24) (lo2 := [(0, .ref 0), (1, .int 1)]) rfl rfl rfl rfl f_X11_refuse (hW.s rfl) rfl rfl rfl rfl rfl ?_
  refine ev_loc f_X11_refuse (nx := 1) rfl rfl rfl rfl ?_
  refine ev_loc f_X11_refuse (nx := 2) rfl rfl rfl rfl ?_
  refine ev_putI f_X11_refuse (nx := 5) rfl (hW.s rfl) rfl rfl rfl ?_
  refine ev_ic f_X11_refuse (nx := 6) (v := -1) rfl (by decide) rfl ?_
  refine ev_retK1 f_X11_refuse rfl rfl rfl ?_
  refine ev_retK1 f_X11_rules rfl rfl rfl ?_
  refine ev_loc f_L_law (nx := 594) rfl rfl rfl rfl ?_
  refine ev_loc f_L_law (nx := 595) rfl rfl rfl rfl ?_
  refine ev_loc f_L_law (nx := 596) rfl rfl rfl rfl ?_
  refine ev_ic f_L_law (nx := 597) (v := 1) rfl (by decide) rfl ?_
  refine ev_aluvI f_L_law (nx := 598) (w := 1) rfl rfl rfl (by decide) rfl ?_
  refine ev_scr f_L_law (nx := 599) (j := 1) rfl hX (by decide) (by decide) (by decide) rfl ?_
  refine ev_inV2 f_L_law (nx := 602) (lo2 := [(0, .ref 69), (1, .int ((X.2 1)))]) rfl rfl rfl rfl f_X12_rules (hW.s rfl) rfl rfl rfl rfl rfl ?_
  refine ev_loc f_X12_rules (nx := 1) rfl rfl rfl rfl ?_
  refine ev_loc f_X12_rules (nx := 2) rfl rfl rfl rfl ?_
  refine ev_sp f_X12_rules (nx := 5) (v := 300) rfl (by decide) rfl ?_
  refine ev_inV3 f_X12_rules (nx := 8) (lo2 := [(0, .ref 69), (1, .int ((X.2 1))), (2, .int 300)]) rfl rfl rfl rfl f_X12_begins (hW.s rfl) rfl rfl rfl rfl rfl ?_
  refine ev_loc f_X12_begins (nx := 1) rfl rfl rfl rfl ?_
  refine ev_f f_X12_begins (t1 := 17) (t2 := 4) rfl rfl rfl (by rw [Int32.lt_iff_toInt_lt, (by decide : (0 : Int32).toInt = 0)]; omega) ?_
  refine ev_loc f_X12_begins (nx := 5) rfl rfl rfl rfl ?_
  refine ev_loc f_X12_begins (nx := 6) rfl rfl rfl rfl ?_
  refine ev_gvI f_X12_begins (nx := 9) (w := 0) rfl (hW.s rfl) rfl rfl (wi_69_10 (gi := gi) hR) rfl ?_
  refine ev_t f_X12_begins (t1 := 17) (t2 := 12) rfl rfl rfl (by rw [Int32.lt_iff_toInt_lt, (by decide : (0 : Int32).toInt = 0)]; omega) ?_
  refine ev_ic f_X12_begins (nx := 18) (v := 0) rfl (by decide) rfl ?_
  refine ev_retK1 f_X12_begins rfl rfl rfl ?_
  refine ev_t f_X12_rules (t1 := 11) (t2 := 17) rfl rfl rfl (by decide) ?_
  refine ev_loc f_X12_rules (nx := 12) rfl rfl rfl rfl ?_
  refine ev_ic f_X12_rules (nx := 13) (v := 1) rfl (by decide) rfl ?_
  refine ev_inV2 f_X12_rules (nx := 16) (lo2 := [(0, .ref 69), (1, .int 1)]) rfl rfl rfl rfl f_X12_refuse (hW.s rfl) rfl rfl rfl rfl rfl ?_
  refine ev_loc f_X12_refuse (nx := 1) rfl rfl rfl rfl ?_
  refine ev_loc f_X12_refuse (nx := 2) rfl rfl rfl rfl ?_
  refine ev_putI f_X12_refuse (nx := 5) rfl (hW.s rfl) rfl rfl rfl ?_
  refine ev_ic f_X12_refuse (nx := 6) (v := -1) rfl (by decide) rfl ?_
  refine ev_retK1 f_X12_refuse rfl rfl rfl ?_
  refine ev_retK1 f_X12_rules rfl rfl rfl ?_
  refine ev_t f_L_law (t1 := 1628) (t2 := 605) rfl rfl rfl (by decide) ?_
  refine ev_incv f_L_law (nx := 1631) (c := 6) (w := 6) (lo' := [(3, .int 6), (2, .ref 69), (1, .ref 0), (0, .retAddr 30)]) rfl rfl (by decide) (by decide) rfl rfl rfl ?_
  refine ev_jmp f_L_law (nx := 18) rfl rfl rfl ?_
  refine ev_loc f_L_law (nx := 19) rfl rfl rfl rfl ?_
  refine ev_loc f_L_law (nx := 20) rfl rfl rfl rfl ?_
  refine ev_alenX f_L_law (nx := 21) rfl hX rfl ?_
  refine ev_bp f_L_law (nx := 23) (v := 6) rfl (by decide) rfl ?_
  refine ev_aluvI f_L_law (nx := 24) (w := 0) rfl rfl rfl (by decide) rfl ?_
  refine ev_t f_L_law (t1 := 1634) (t2 := 27) rfl rfl rfl (by decide) ?_
  refine ev_ic f_L_law (nx := 1635) (v := 1) rfl (by decide) rfl ?_
  refine ev_ret f_L_law rfl rfl rfl ?_
  exact ⟨rfl, hz⟩
set_option maxRecDepth 20000 in
theorem pc_3_l (hR : x_R W1 (sh, gi, gl, gr)) (hX : X.1 = 6) (l1 : -2147483648 ≤ (X.2 1).toInt) (u1 : (X.2 1).toInt ≤ -1) : x_Ev X 1000 n_L_law 285 [(3, .int 0), (2, .ref 69), (1, .ref 0), (0, .retAddr 30)] [] (sh, gi, gl, gr) x_P1 := by
  have hW := W1_WF hR
  have hz := W1_hz hR
  refine ev_loc f_L_law (nx := 286) rfl rfl rfl rfl ?_
  refine ev_loc f_L_law (nx := 287) rfl rfl rfl rfl ?_
  refine ev_loc f_L_law (nx := 288) rfl rfl rfl rfl ?_
  refine ev_ic f_L_law (nx := 289) (v := 1) rfl (by decide) rfl ?_
  refine ev_aluvI f_L_law (nx := 290) (w := 1) rfl rfl rfl (by decide) rfl ?_
  refine ev_scr f_L_law (nx := 291) (j := 1) rfl hX (by decide) (by decide) (by decide) rfl ?_
  refine ev_loc f_L_law (nx := 292) rfl rfl rfl rfl ?_
  refine ev_loc f_L_law (nx := 293) rfl rfl rfl rfl ?_
  refine ev_ic f_L_law (nx := 294) (v := 2) rfl (by decide) rfl ?_
  refine ev_aluvI f_L_law (nx := 295) (w := 2) rfl rfl rfl (by decide) rfl ?_
  refine ev_scr f_L_law (nx := 296) (j := 2) rfl hX (by decide) (by decide) (by decide) rfl ?_
  refine ev_loc f_L_law (nx := 297) rfl rfl rfl rfl ?_
  refine ev_loc f_L_law (nx := 298) rfl rfl rfl rfl ?_
  refine ev_ic f_L_law (nx := 299) (v := 3) rfl (by decide) rfl ?_
  refine ev_aluvI f_L_law (nx := 300) (w := 3) rfl rfl rfl (by decide) rfl ?_
  refine ev_scr f_L_law (nx := 301) (j := 3) rfl hX (by decide) (by decide) (by decide) rfl ?_
  refine ev_inV4 f_L_law (nx := 304) (lo2 := [(0, .ref 0), (1, .int ((X.2 1))), (2, .int ((X.2 2))), (3, .int ((X.2 3)))]) rfl rfl rfl rfl f_X11_tray (hW.s rfl) rfl rfl rfl rfl rfl ?_
  refine ev_loc f_X11_tray (nx := 1) rfl rfl rfl rfl ?_
  refine ev_loc f_X11_tray (nx := 2) rfl rfl rfl rfl ?_
  refine ev_inV2 f_X11_tray (nx := 5) (lo2 := [(0, .ref 0), (1, .int ((X.2 1)))]) rfl rfl rfl rfl f_X11_isTray (hW.s rfl) rfl rfl rfl rfl rfl ?_
  refine ev_loc f_X11_isTray (nx := 1) rfl rfl rfl rfl ?_
  refine ev_t f_X11_isTray (t1 := 26) (t2 := 4) rfl rfl rfl (by rw [Int32.lt_iff_toInt_lt, (by decide : (0 : Int32).toInt = 0)]; omega) ?_
  refine ev_ic f_X11_isTray (nx := 27) (v := 0) rfl (by decide) rfl ?_
  refine ev_retK1 f_X11_isTray rfl rfl rfl ?_
  refine ev_t f_X11_tray (t1 := 27) (t2 := 8) rfl rfl rfl (by decide) ?_
  refine ev_loc f_X11_tray (nx := 28) rfl rfl rfl rfl ?_
  refine ev_ic f_X11_tray (nx := 29) (v := 1) rfl (by decide) rfl ?_
  refine ev_inV2 f_X11_tray (nx := 32) (lo2 := [(0, .ref 0), (1, .int 1)]) rfl rfl rfl rfl f_X11_deny (hW.s rfl) rfl rfl rfl rfl rfl ?_
  refine ev_loc f_X11_deny (nx := 1) rfl rfl rfl rfl ?_
  refine ev_loc f_X11_deny (nx := 2) rfl rfl rfl rfl ?_
  refine ev_putI f_X11_deny (nx := 5) rfl (hW.s rfl) rfl rfl rfl ?_
  refine ev_ic f_X11_deny (nx := 6) (v := 0) rfl (by decide) rfl ?_
  refine ev_retK1 f_X11_deny rfl rfl rfl ?_
  refine ev_retK1 f_X11_tray rfl rfl rfl ?_
  refine ev_loc f_L_law (nx := 305) rfl rfl rfl rfl ?_
  refine ev_loc f_L_law (nx := 306) rfl rfl rfl rfl ?_
  refine ev_loc f_L_law (nx := 307) rfl rfl rfl rfl ?_
  refine ev_ic f_L_law (nx := 308) (v := 1) rfl (by decide) rfl ?_
  refine ev_aluvI f_L_law (nx := 309) (w := 1) rfl rfl rfl (by decide) rfl ?_
  refine ev_scr f_L_law (nx := 310) (j := 1) rfl hX (by decide) (by decide) (by decide) rfl ?_
  refine ev_loc f_L_law (nx := 311) rfl rfl rfl rfl ?_
  refine ev_loc f_L_law (nx := 312) rfl rfl rfl rfl ?_
  refine ev_ic f_L_law (nx := 313) (v := 2) rfl (by decide) rfl ?_
  refine ev_aluvI f_L_law (nx := 314) (w := 2) rfl rfl rfl (by decide) rfl ?_
  refine ev_scr f_L_law (nx := 315) (j := 2) rfl hX (by decide) (by decide) (by decide) rfl ?_
  refine ev_loc f_L_law (nx := 316) rfl rfl rfl rfl ?_
  refine ev_loc f_L_law (nx := 317) rfl rfl rfl rfl ?_
  refine ev_ic f_L_law (nx := 318) (v := 3) rfl (by decide) rfl ?_
  refine ev_aluvI f_L_law (nx := 319) (w := 3) rfl rfl rfl (by decide) rfl ?_
  refine ev_scr f_L_law (nx := 320) (j := 3) rfl hX (by decide) (by decide) (by decide) rfl ?_
  refine ev_inV4 f_L_law (nx := 323) (lo2 := [(0, .ref 69), (1, .int ((X.2 1))), (2, .int ((X.2 2))), (3, .int ((X.2 3)))]) rfl rfl rfl rfl f_X12_tray (hW.s rfl) rfl rfl rfl rfl rfl ?_
  refine ev_loc f_X12_tray (nx := 1) rfl rfl rfl rfl ?_
  refine ev_inS1 f_X12_tray (nx := 4) (lo2 := [(0, .int ((X.2 1)))]) rfl rfl rfl rfl f_X12_isTray rfl rfl rfl rfl ?_
  refine ev_loc f_X12_isTray (nx := 1) rfl rfl rfl rfl ?_
  refine ev_t f_X12_isTray (t1 := 13) (t2 := 4) rfl rfl rfl (by rw [Int32.lt_iff_toInt_lt, (by decide : (0 : Int32).toInt = 0)]; omega) ?_
  refine ev_ic f_X12_isTray (nx := 14) (v := 0) rfl (by decide) rfl ?_
  refine ev_retK1 f_X12_isTray rfl rfl rfl ?_
  refine ev_t f_X12_tray (t1 := 26) (t2 := 7) rfl rfl rfl (by decide) ?_
  refine ev_loc f_X12_tray (nx := 27) rfl rfl rfl rfl ?_
  refine ev_ic f_X12_tray (nx := 28) (v := 1) rfl (by decide) rfl ?_
  refine ev_inV2 f_X12_tray (nx := 31) (lo2 := [(0, .ref 69), (1, .int 1)]) rfl rfl rfl rfl f_X12_is (hW.s rfl) rfl rfl rfl rfl rfl ?_
  refine ev_loc f_X12_is (nx := 1) rfl rfl rfl rfl ?_
  refine ev_loc f_X12_is (nx := 2) rfl rfl rfl rfl ?_
  refine ev_putI f_X12_is (nx := 5) rfl (hW.s rfl) rfl rfl rfl ?_
  refine ev_loc f_X12_is (nx := 6) rfl rfl rfl rfl ?_
  refine ev_f f_X12_is (t1 := 9) (t2 := 13) rfl rfl rfl (by decide) ?_
  refine ev_ic f_X12_is (nx := 14) (v := 0) rfl (by decide) rfl ?_
  refine ev_retK1 f_X12_is rfl rfl rfl ?_
  refine ev_retK1 f_X12_tray rfl rfl rfl ?_
  refine ev_t f_L_law (t1 := 1628) (t2 := 326) rfl rfl rfl (by decide) ?_
  refine ev_incv f_L_law (nx := 1631) (c := 6) (w := 6) (lo' := [(3, .int 6), (2, .ref 69), (1, .ref 0), (0, .retAddr 30)]) rfl rfl (by decide) (by decide) rfl rfl rfl ?_
  refine ev_jmp f_L_law (nx := 18) rfl rfl rfl ?_
  refine ev_loc f_L_law (nx := 19) rfl rfl rfl rfl ?_
  refine ev_loc f_L_law (nx := 20) rfl rfl rfl rfl ?_
  refine ev_alenX f_L_law (nx := 21) rfl hX rfl ?_
  refine ev_bp f_L_law (nx := 23) (v := 6) rfl (by decide) rfl ?_
  refine ev_aluvI f_L_law (nx := 24) (w := 0) rfl rfl rfl (by decide) rfl ?_
  refine ev_t f_L_law (t1 := 1634) (t2 := 27) rfl rfl rfl (by decide) ?_
  refine ev_ic f_L_law (nx := 1635) (v := 1) rfl (by decide) rfl ?_
  refine ev_ret f_L_law rfl rfl rfl ?_
  exact ⟨rfl, hz⟩
set_option maxRecDepth 20000 in
theorem pc_3_h (hR : x_R W1 (sh, gi, gl, gr)) (hX : X.1 = 6) (l1 : 4 ≤ (X.2 1).toInt) (u1 : (X.2 1).toInt ≤ 2147483647) : x_Ev X 1000 n_L_law 285 [(3, .int 0), (2, .ref 69), (1, .ref 0), (0, .retAddr 30)] [] (sh, gi, gl, gr) x_P1 := by
  have hW := W1_WF hR
  have hz := W1_hz hR
  refine ev_loc f_L_law (nx := 286) rfl rfl rfl rfl ?_
  refine ev_loc f_L_law (nx := 287) rfl rfl rfl rfl ?_
  refine ev_loc f_L_law (nx := 288) rfl rfl rfl rfl ?_
  refine ev_ic f_L_law (nx := 289) (v := 1) rfl (by decide) rfl ?_
  refine ev_aluvI f_L_law (nx := 290) (w := 1) rfl rfl rfl (by decide) rfl ?_
  refine ev_scr f_L_law (nx := 291) (j := 1) rfl hX (by decide) (by decide) (by decide) rfl ?_
  refine ev_loc f_L_law (nx := 292) rfl rfl rfl rfl ?_
  refine ev_loc f_L_law (nx := 293) rfl rfl rfl rfl ?_
  refine ev_ic f_L_law (nx := 294) (v := 2) rfl (by decide) rfl ?_
  refine ev_aluvI f_L_law (nx := 295) (w := 2) rfl rfl rfl (by decide) rfl ?_
  refine ev_scr f_L_law (nx := 296) (j := 2) rfl hX (by decide) (by decide) (by decide) rfl ?_
  refine ev_loc f_L_law (nx := 297) rfl rfl rfl rfl ?_
  refine ev_loc f_L_law (nx := 298) rfl rfl rfl rfl ?_
  refine ev_ic f_L_law (nx := 299) (v := 3) rfl (by decide) rfl ?_
  refine ev_aluvI f_L_law (nx := 300) (w := 3) rfl rfl rfl (by decide) rfl ?_
  refine ev_scr f_L_law (nx := 301) (j := 3) rfl hX (by decide) (by decide) (by decide) rfl ?_
  refine ev_inV4 f_L_law (nx := 304) (lo2 := [(0, .ref 0), (1, .int ((X.2 1))), (2, .int ((X.2 2))), (3, .int ((X.2 3)))]) rfl rfl rfl rfl f_X11_tray (hW.s rfl) rfl rfl rfl rfl rfl ?_
  refine ev_loc f_X11_tray (nx := 1) rfl rfl rfl rfl ?_
  refine ev_loc f_X11_tray (nx := 2) rfl rfl rfl rfl ?_
  refine ev_inV2 f_X11_tray (nx := 5) (lo2 := [(0, .ref 0), (1, .int ((X.2 1)))]) rfl rfl rfl rfl f_X11_isTray (hW.s rfl) rfl rfl rfl rfl rfl ?_
  refine ev_loc f_X11_isTray (nx := 1) rfl rfl rfl rfl ?_
  refine ev_f f_X11_isTray (t1 := 26) (t2 := 4) rfl rfl rfl (by rw [Int32.lt_iff_toInt_lt, (by decide : (0 : Int32).toInt = 0)]; omega) ?_
  refine ev_loc f_X11_isTray (nx := 5) rfl rfl rfl rfl ?_
  refine ev_loc f_X11_isTray (nx := 6) rfl rfl rfl rfl ?_
  refine ev_getR f_X11_isTray (nx := 9) rfl (hW.s rfl) rfl rfl (hW.r rfl) rfl rfl ?_
  refine ev_alenv f_X11_isTray (nx := 10) (w := 4) rfl (hW.s rfl) rfl (by decide) rfl ?_
  refine ev_t f_X11_isTray (t1 := 26) (t2 := 13) rfl rfl rfl (by rw [Int32.le_iff_toInt_le, (by decide : (4 : Int32).toInt = 4)]; omega) ?_
  refine ev_ic f_X11_isTray (nx := 27) (v := 0) rfl (by decide) rfl ?_
  refine ev_retK1 f_X11_isTray rfl rfl rfl ?_
  refine ev_t f_X11_tray (t1 := 27) (t2 := 8) rfl rfl rfl (by decide) ?_
  refine ev_loc f_X11_tray (nx := 28) rfl rfl rfl rfl ?_
  refine ev_ic f_X11_tray (nx := 29) (v := 1) rfl (by decide) rfl ?_
  refine ev_inV2 f_X11_tray (nx := 32) (lo2 := [(0, .ref 0), (1, .int 1)]) rfl rfl rfl rfl f_X11_deny (hW.s rfl) rfl rfl rfl rfl rfl ?_
  refine ev_loc f_X11_deny (nx := 1) rfl rfl rfl rfl ?_
  refine ev_loc f_X11_deny (nx := 2) rfl rfl rfl rfl ?_
  refine ev_putI f_X11_deny (nx := 5) rfl (hW.s rfl) rfl rfl rfl ?_
  refine ev_ic f_X11_deny (nx := 6) (v := 0) rfl (by decide) rfl ?_
  refine ev_retK1 f_X11_deny rfl rfl rfl ?_
  refine ev_retK1 f_X11_tray rfl rfl rfl ?_
  refine ev_loc f_L_law (nx := 305) rfl rfl rfl rfl ?_
  refine ev_loc f_L_law (nx := 306) rfl rfl rfl rfl ?_
  refine ev_loc f_L_law (nx := 307) rfl rfl rfl rfl ?_
  refine ev_ic f_L_law (nx := 308) (v := 1) rfl (by decide) rfl ?_
  refine ev_aluvI f_L_law (nx := 309) (w := 1) rfl rfl rfl (by decide) rfl ?_
  refine ev_scr f_L_law (nx := 310) (j := 1) rfl hX (by decide) (by decide) (by decide) rfl ?_
  refine ev_loc f_L_law (nx := 311) rfl rfl rfl rfl ?_
  refine ev_loc f_L_law (nx := 312) rfl rfl rfl rfl ?_
  refine ev_ic f_L_law (nx := 313) (v := 2) rfl (by decide) rfl ?_
  refine ev_aluvI f_L_law (nx := 314) (w := 2) rfl rfl rfl (by decide) rfl ?_
  refine ev_scr f_L_law (nx := 315) (j := 2) rfl hX (by decide) (by decide) (by decide) rfl ?_
  refine ev_loc f_L_law (nx := 316) rfl rfl rfl rfl ?_
  refine ev_loc f_L_law (nx := 317) rfl rfl rfl rfl ?_
  refine ev_ic f_L_law (nx := 318) (v := 3) rfl (by decide) rfl ?_
  refine ev_aluvI f_L_law (nx := 319) (w := 3) rfl rfl rfl (by decide) rfl ?_
  refine ev_scr f_L_law (nx := 320) (j := 3) rfl hX (by decide) (by decide) (by decide) rfl ?_
  refine ev_inV4 f_L_law (nx := 323) (lo2 := [(0, .ref 69), (1, .int ((X.2 1))), (2, .int ((X.2 2))), (3, .int ((X.2 3)))]) rfl rfl rfl rfl f_X12_tray (hW.s rfl) rfl rfl rfl rfl rfl ?_
  refine ev_loc f_X12_tray (nx := 1) rfl rfl rfl rfl ?_
  refine ev_inS1 f_X12_tray (nx := 4) (lo2 := [(0, .int ((X.2 1)))]) rfl rfl rfl rfl f_X12_isTray rfl rfl rfl rfl ?_
  refine ev_loc f_X12_isTray (nx := 1) rfl rfl rfl rfl ?_
  refine ev_f f_X12_isTray (t1 := 13) (t2 := 4) rfl rfl rfl (by rw [Int32.lt_iff_toInt_lt, (by decide : (0 : Int32).toInt = 0)]; omega) ?_
  refine ev_loc f_X12_isTray (nx := 5) rfl rfl rfl rfl ?_
  refine ev_ic f_X12_isTray (nx := 6) (v := 4) rfl (by decide) rfl ?_
  refine ev_t f_X12_isTray (t1 := 13) (t2 := 9) rfl rfl rfl (by rw [Int32.le_iff_toInt_le, (by decide : (4 : Int32).toInt = 4)]; omega) ?_
  refine ev_ic f_X12_isTray (nx := 14) (v := 0) rfl (by decide) rfl ?_
  refine ev_retK1 f_X12_isTray rfl rfl rfl ?_
  refine ev_t f_X12_tray (t1 := 26) (t2 := 7) rfl rfl rfl (by decide) ?_
  refine ev_loc f_X12_tray (nx := 27) rfl rfl rfl rfl ?_
  refine ev_ic f_X12_tray (nx := 28) (v := 1) rfl (by decide) rfl ?_
  refine ev_inV2 f_X12_tray (nx := 31) (lo2 := [(0, .ref 69), (1, .int 1)]) rfl rfl rfl rfl f_X12_is (hW.s rfl) rfl rfl rfl rfl rfl ?_
  refine ev_loc f_X12_is (nx := 1) rfl rfl rfl rfl ?_
  refine ev_loc f_X12_is (nx := 2) rfl rfl rfl rfl ?_
  refine ev_putI f_X12_is (nx := 5) rfl (hW.s rfl) rfl rfl rfl ?_
  refine ev_loc f_X12_is (nx := 6) rfl rfl rfl rfl ?_
  refine ev_f f_X12_is (t1 := 9) (t2 := 13) rfl rfl rfl (by decide) ?_
  refine ev_ic f_X12_is (nx := 14) (v := 0) rfl (by decide) rfl ?_
  refine ev_retK1 f_X12_is rfl rfl rfl ?_
  refine ev_retK1 f_X12_tray rfl rfl rfl ?_
  refine ev_t f_L_law (t1 := 1628) (t2 := 326) rfl rfl rfl (by decide) ?_
  refine ev_incv f_L_law (nx := 1631) (c := 6) (w := 6) (lo' := [(3, .int 6), (2, .ref 69), (1, .ref 0), (0, .retAddr 30)]) rfl rfl (by decide) (by decide) rfl rfl rfl ?_
  refine ev_jmp f_L_law (nx := 18) rfl rfl rfl ?_
  refine ev_loc f_L_law (nx := 19) rfl rfl rfl rfl ?_
  refine ev_loc f_L_law (nx := 20) rfl rfl rfl rfl ?_
  refine ev_alenX f_L_law (nx := 21) rfl hX rfl ?_
  refine ev_bp f_L_law (nx := 23) (v := 6) rfl (by decide) rfl ?_
  refine ev_aluvI f_L_law (nx := 24) (w := 0) rfl rfl rfl (by decide) rfl ?_
  refine ev_t f_L_law (t1 := 1634) (t2 := 27) rfl rfl rfl (by decide) ?_
  refine ev_ic f_L_law (nx := 1635) (v := 1) rfl (by decide) rfl ?_
  refine ev_ret f_L_law rfl rfl rfl ?_
  exact ⟨rfl, hz⟩
end XC
