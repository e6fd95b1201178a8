/-! ===== printed by gen63.py: calls walked in place ===== -/
section XC
variable {X : x_Ext} {sh : List (Nat ⊕ (Nat × Nat))} {gi : Nat → Nat → Int32} {gl : Nat → Nat → Int64} {gr : Nat → Nat → Value}
set_option maxRecDepth 20000 in
theorem pc_15 (hR : x_R W1 (sh, gi, gl, gr)) (hX : X.1 = 6) : x_Ev X 1000 n_L_law 742 [(3, .int 0), (2, .ref 69), (1, .ref 0), (0, .retAddr 30)] [] (sh, gi, gl, gr) x_P1 := by
  have hW := W1_WF hR
  have hz := W1_hz hR
  refine ev_loc f_L_law (nx := 743) rfl rfl rfl rfl ?_
  refine ev_loc f_L_law (nx := 744) rfl rfl rfl rfl ?_
  refine ev_loc f_L_law (nx := 745) rfl rfl rfl rfl ?_
  refine ev_ic f_L_law (nx := 746) (v := 1) rfl (by decide) rfl ?_
  refine ev_aluvI f_L_law (nx := 747) (w := 1) rfl rfl rfl (by decide) rfl ?_
  refine ev_scr f_L_law (nx := 748) (j := 1) rfl hX (by decide) (by decide) (by decide) rfl ?_
  refine ev_inV2 f_L_law (nx := 751) (lo2 := [(0, .ref 0), (1, .int ((X.2 1)))]) rfl rfl rfl rfl f_X11_nextCart (hW.s rfl) rfl rfl rfl rfl rfl ?_
  refine ev_loc f_X11_nextCart (nx := 1) rfl rfl rfl rfl ?_
  refine ev_loc f_X11_nextCart (nx := 2) rfl rfl rfl rfl ?_
  refine ev_inV2 f_X11_nextCart (nx := 5) (lo2 := [(0, .ref 0), (1, .int ((X.2 1)))]) rfl rfl rfl rfl f_X11_isCart (hW.s rfl) rfl rfl rfl rfl rfl ?_
  refine ev_loc f_X11_isCart (nx := 1) rfl rfl rfl rfl ?_
  refine ev_if f_X11_isCart (t1 := 22) (t2 := 4) rfl rfl rfl (fun h12 => ?_) (fun h12 => ?_)
  · have q12 := h12; rw [Int32.lt_iff_toInt_lt, (by decide : (0 : Int32).toInt = 0)] at q12
    refine ev_ic f_X11_isCart (nx := 23) (v := 0) rfl (by decide) rfl ?_
    refine ev_retK1 f_X11_isCart rfl rfl rfl ?_
    refine ev_t f_X11_nextCart (t1 := 8) (t2 := 15) rfl rfl rfl (by decide) ?_
    refine ev_loc f_X11_nextCart (nx := 9) rfl rfl rfl rfl ?_
    refine ev_bp f_X11_nextCart (nx := 11) (v := 6) rfl (by decide) rfl ?_
    refine ev_inV2 f_X11_nextCart (nx := 14) (lo2 := [(0, .ref 0), (1, .int 6)]) rfl rfl rfl rfl f_X11_refuse (hW.s rfl) rfl rfl rfl rfl rfl ?_
    refine ev_loc f_X11_refuse (nx := 1) rfl rfl rfl rfl ?_
    refine ev_loc f_X11_refuse (nx := 2) rfl rfl rfl rfl ?_
    refine ev_putI f_X11_refuse (nx := 5) rfl (hW.s rfl) rfl rfl rfl ?_
    refine ev_ic f_X11_refuse (nx := 6) (v := -1) rfl (by decide) rfl ?_
    refine ev_retK1 f_X11_refuse rfl rfl rfl ?_
    refine ev_retK1 f_X11_nextCart rfl rfl rfl ?_
    refine ev_loc f_L_law (nx := 752) rfl rfl rfl rfl ?_
    refine ev_loc f_L_law (nx := 753) rfl rfl rfl rfl ?_
    refine ev_loc f_L_law (nx := 754) rfl rfl rfl rfl ?_
    refine ev_ic f_L_law (nx := 755) (v := 1) rfl (by decide) rfl ?_
    refine ev_aluvI f_L_law (nx := 756) (w := 1) rfl rfl rfl (by decide) rfl ?_
    refine ev_scr f_L_law (nx := 757) (j := 1) rfl hX (by decide) (by decide) (by decide) rfl ?_
    refine ev_inV2 f_L_law (nx := 760) (lo2 := [(0, .ref 69), (1, .int ((X.2 1)))]) rfl rfl rfl rfl f_X12_nextCart (hW.s rfl) rfl rfl rfl rfl rfl ?_
    refine ev_loc f_X12_nextCart (nx := 1) rfl rfl rfl rfl ?_
    refine ev_inV1 f_X12_nextCart (nx := 4) (lo2 := [(0, .ref 69)]) rfl rfl rfl rfl f_X12_tellsMinutes (hW.s rfl) rfl rfl rfl rfl rfl ?_
    refine ev_ic f_X12_tellsMinutes (nx := 1) (v := 0) rfl (by decide) rfl ?_
    refine ev_loc f_X12_tellsMinutes (nx := 2) (lo' := [(1, .int 0), (0, .ref 69)]) rfl rfl rfl rfl ?_
    refine ev_loc f_X12_tellsMinutes (nx := 3) rfl rfl rfl rfl ?_
    refine ev_bp f_X12_tellsMinutes (nx := 5) (v := 6) rfl (by decide) rfl ?_
    refine ev_f f_X12_tellsMinutes (t1 := 33) (t2 := 8) rfl rfl rfl (by decide) ?_
    refine ev_loc f_X12_tellsMinutes (nx := 9) rfl rfl rfl rfl ?_
    refine ev_getR f_X12_tellsMinutes (nx := 12) rfl (hW.s rfl) rfl rfl (hW.r rfl) rfl rfl ?_
    refine ev_loc f_X12_tellsMinutes (nx := 13) rfl rfl rfl rfl ?_
    refine ev_loc f_X12_tellsMinutes (nx := 14) rfl rfl rfl rfl ?_
    refine ev_getR f_X12_tellsMinutes (nx := 17) rfl (hW.s rfl) rfl rfl (hW.r rfl) rfl rfl ?_
    refine ev_bp f_X12_tellsMinutes (nx := 19) (v := 52) rfl (by decide) rfl ?_
    refine ev_ic f_X12_tellsMinutes (nx := 20) (v := 5) rfl (by decide) rfl ?_
    refine ev_loc f_X12_tellsMinutes (nx := 21) rfl rfl rfl rfl ?_
    refine ev_aluvI f_X12_tellsMinutes (nx := 22) (w := 0) rfl rfl rfl (by decide) rfl ?_
    refine ev_aluvI f_X12_tellsMinutes (nx := 23) (w := 52) rfl rfl rfl (by decide) rfl ?_
    refine ev_ic f_X12_tellsMinutes (nx := 24) (v := 1) rfl (by decide) rfl ?_
    refine ev_aluvI f_X12_tellsMinutes (nx := 25) (w := 53) rfl rfl rfl (by decide) rfl ?_
    refine ev_ialdv f_X12_tellsMinutes (nx := 26) (j := 53) (w := 0) rfl (hW.s rfl) (by decide) (by decide) (by decide) (wi_70_53 (gi := gi) hR) rfl ?_
    refine ev_iastv f_X12_tellsMinutes (nx := 27) (j := 0) rfl (hW.s rfl) (by decide) (by decide) (by decide) rfl ?_
    refine ev_incv f_X12_tellsMinutes (nx := 30) (c := 1) (w := 1) (lo' := [(1, .int 1), (0, .ref 69)]) rfl rfl (by decide) (by decide) rfl rfl rfl ?_
    refine ev_jmp f_X12_tellsMinutes (nx := 2) rfl rfl rfl ?_
    refine ev_loc f_X12_tellsMinutes (nx := 3) rfl rfl rfl rfl ?_
    refine ev_bp f_X12_tellsMinutes (nx := 5) (v := 6) rfl (by decide) rfl ?_
    refine ev_f f_X12_tellsMinutes (t1 := 33) (t2 := 8) rfl rfl rfl (by decide) ?_
    refine ev_loc f_X12_tellsMinutes (nx := 9) rfl rfl rfl rfl ?_
    refine ev_getR f_X12_tellsMinutes (nx := 12) rfl (hW.s rfl) rfl rfl (hW.r rfl) rfl rfl ?_
    refine ev_loc f_X12_tellsMinutes (nx := 13) rfl rfl rfl rfl ?_
    refine ev_loc f_X12_tellsMinutes (nx := 14) rfl rfl rfl rfl ?_
    refine ev_getR f_X12_tellsMinutes (nx := 17) rfl (hW.s rfl) rfl rfl (hW.r rfl) rfl rfl ?_
    refine ev_bp f_X12_tellsMinutes (nx := 19) (v := 52) rfl (by decide) rfl ?_
    refine ev_ic f_X12_tellsMinutes (nx := 20) (v := 5) rfl (by decide) rfl ?_
    refine ev_loc f_X12_tellsMinutes (nx := 21) rfl rfl rfl rfl ?_
    refine ev_aluvI f_X12_tellsMinutes (nx := 22) (w := 5) rfl rfl rfl (by decide) rfl ?_
    refine ev_aluvI f_X12_tellsMinutes (nx := 23) (w := 57) rfl rfl rfl (by decide) rfl ?_
    refine ev_ic f_X12_tellsMinutes (nx := 24) (v := 1) rfl (by decide) rfl ?_
    refine ev_aluvI f_X12_tellsMinutes (nx := 25) (w := 58) rfl rfl rfl (by decide) rfl ?_
    refine ev_ialdv f_X12_tellsMinutes (nx := 26) (j := 58) (w := 0) rfl (hW.s rfl) (by decide) (by decide) (by decide) (wi_70_58 (gi := gi) hR) rfl ?_
    refine ev_iastv f_X12_tellsMinutes (nx := 27) (j := 1) rfl (hW.s rfl) (by decide) (by decide) (by decide) rfl ?_
    refine ev_incv f_X12_tellsMinutes (nx := 30) (c := 1) (w := 2) (lo' := [(1, .int 2), (0, .ref 69)]) rfl rfl (by decide) (by decide) rfl rfl rfl ?_
    refine ev_jmp f_X12_tellsMinutes (nx := 2) rfl rfl rfl ?_
    refine ev_loc f_X12_tellsMinutes (nx := 3) rfl rfl rfl rfl ?_
    refine ev_bp f_X12_tellsMinutes (nx := 5) (v := 6) rfl (by decide) rfl ?_
    refine ev_f f_X12_tellsMinutes (t1 := 33) (t2 := 8) rfl rfl rfl (by decide) ?_
    refine ev_loc f_X12_tellsMinutes (nx := 9) rfl rfl rfl rfl ?_
    refine ev_getR f_X12_tellsMinutes (nx := 12) rfl (hW.s rfl) rfl rfl (hW.r rfl) rfl rfl ?_
    refine ev_loc f_X12_tellsMinutes (nx := 13) rfl rfl rfl rfl ?_
    refine ev_loc f_X12_tellsMinutes (nx := 14) rfl rfl rfl rfl ?_
    refine ev_getR f_X12_tellsMinutes (nx := 17) rfl (hW.s rfl) rfl rfl (hW.r rfl) rfl rfl ?_
    refine ev_bp f_X12_tellsMinutes (nx := 19) (v := 52) rfl (by decide) rfl ?_
    refine ev_ic f_X12_tellsMinutes (nx := 20) (v := 5) rfl (by decide) rfl ?_
    refine ev_loc f_X12_tellsMinutes (nx := 21) rfl rfl rfl rfl ?_
    refine ev_aluvI f_X12_tellsMinutes (nx := 22) (w := 10) rfl rfl rfl (by decide) rfl ?_
    refine ev_aluvI f_X12_tellsMinutes (nx := 23) (w := 62) rfl rfl rfl (by decide) rfl ?_
    refine ev_ic f_X12_tellsMinutes (nx := 24) (v := 1) rfl (by decide) rfl ?_
    refine ev_aluvI f_X12_tellsMinutes (nx := 25) (w := 63) rfl rfl rfl (by decide) rfl ?_
    refine ev_ialdv f_X12_tellsMinutes (nx := 26) (j := 63) (w := 0) rfl (hW.s rfl) (by decide) (by decide) (by decide) (wi_70_63 (gi := gi) hR) rfl ?_
    refine ev_iastv f_X12_tellsMinutes (nx := 27) (j := 2) rfl (hW.s rfl) (by decide) (by decide) (by decide) rfl ?_
    refine ev_incv f_X12_tellsMinutes (nx := 30) (c := 1) (w := 3) (lo' := [(1, .int 3), (0, .ref 69)]) rfl rfl (by decide) (by decide) rfl rfl rfl ?_
    refine ev_jmp f_X12_tellsMinutes (nx := 2) rfl rfl rfl ?_
    refine ev_loc f_X12_tellsMinutes (nx := 3) rfl rfl rfl rfl ?_
    refine ev_bp f_X12_tellsMinutes (nx := 5) (v := 6) rfl (by decide) rfl ?_
    refine ev_f f_X12_tellsMinutes (t1 := 33) (t2 := 8) rfl rfl rfl (by decide) ?_
    refine ev_loc f_X12_tellsMinutes (nx := 9) rfl rfl rfl rfl ?_
    refine ev_getR f_X12_tellsMinutes (nx := 12) rfl (hW.s rfl) rfl rfl (hW.r rfl) rfl rfl ?_
    refine ev_loc f_X12_tellsMinutes (nx := 13) rfl rfl rfl rfl ?_
    refine ev_loc f_X12_tellsMinutes (nx := 14) rfl rfl rfl rfl ?_
    refine ev_getR f_X12_tellsMinutes (nx := 17) rfl (hW.s rfl) rfl rfl (hW.r rfl) rfl rfl ?_
    refine ev_bp f_X12_tellsMinutes (nx := 19) (v := 52) rfl (by decide) rfl ?_
    refine ev_ic f_X12_tellsMinutes (nx := 20) (v := 5) rfl (by decide) rfl ?_
    refine ev_loc f_X12_tellsMinutes (nx := 21) rfl rfl rfl rfl ?_
    refine ev_aluvI f_X12_tellsMinutes (nx := 22) (w := 15) rfl rfl rfl (by decide) rfl ?_
    refine ev_aluvI f_X12_tellsMinutes (nx := 23) (w := 67) rfl rfl rfl (by decide) rfl ?_
    refine ev_ic f_X12_tellsMinutes (nx := 24) (v := 1) rfl (by decide) rfl ?_
    refine ev_aluvI f_X12_tellsMinutes (nx := 25) (w := 68) rfl rfl rfl (by decide) rfl ?_
    refine ev_ialdv f_X12_tellsMinutes (nx := 26) (j := 68) (w := 0) rfl (hW.s rfl) (by decide) (by decide) (by decide) (wi_70_68 (gi := gi) hR) rfl ?_
    refine ev_iastv f_X12_tellsMinutes (nx := 27) (j := 3) rfl (hW.s rfl) (by decide) (by decide) (by decide) rfl ?_
    refine ev_incv f_X12_tellsMinutes (nx := 30) (c := 1) (w := 4) (lo' := [(1, .int 4), (0, .ref 69)]) rfl rfl (by decide) (by decide) rfl rfl rfl ?_
    refine ev_jmp f_X12_tellsMinutes (nx := 2) rfl rfl rfl ?_
    refine ev_loc f_X12_tellsMinutes (nx := 3) rfl rfl rfl rfl ?_
    refine ev_bp f_X12_tellsMinutes (nx := 5) (v := 6) rfl (by decide) rfl ?_
    refine ev_f f_X12_tellsMinutes (t1 := 33) (t2 := 8) rfl rfl rfl (by decide) ?_
    refine ev_loc f_X12_tellsMinutes (nx := 9) rfl rfl rfl rfl ?_
    refine ev_getR f_X12_tellsMinutes (nx := 12) rfl (hW.s rfl) rfl rfl (hW.r rfl) rfl rfl ?_
    refine ev_loc f_X12_tellsMinutes (nx := 13) rfl rfl rfl rfl ?_
    refine ev_loc f_X12_tellsMinutes (nx := 14) rfl rfl rfl rfl ?_
    refine ev_getR f_X12_tellsMinutes (nx := 17) rfl (hW.s rfl) rfl rfl (hW.r rfl) rfl rfl ?_
    refine ev_bp f_X12_tellsMinutes (nx := 19) (v := 52) rfl (by decide) rfl ?_
    refine ev_ic f_X12_tellsMinutes (nx := 20) (v := 5) rfl (by decide) rfl ?_
    refine ev_loc f_X12_tellsMinutes (nx := 21) rfl rfl rfl rfl ?_
    refine ev_aluvI f_X12_tellsMinutes (nx := 22) (w := 20) rfl rfl rfl (by decide) rfl ?_
    refine ev_aluvI f_X12_tellsMinutes (nx := 23) (w := 72) rfl rfl rfl (by decide) rfl ?_
    refine ev_ic f_X12_tellsMinutes (nx := 24) (v := 1) rfl (by decide) rfl ?_
    refine ev_aluvI f_X12_tellsMinutes (nx := 25) (w := 73) rfl rfl rfl (by decide) rfl ?_
    refine ev_ialdv f_X12_tellsMinutes (nx := 26) (j := 73) (w := 0) rfl (hW.s rfl) (by decide) (by decide) (by decide) (wi_70_73 (gi := gi) hR) rfl ?_
    refine ev_iastv f_X12_tellsMinutes (nx := 27) (j := 4) rfl (hW.s rfl) (by decide) (by decide) (by decide) rfl ?_
    refine ev_incv f_X12_tellsMinutes (nx := 30) (c := 1) (w := 5) (lo' := [(1, .int 5), (0, .ref 69)]) rfl rfl (by decide) (by decide) rfl rfl rfl ?_
    refine ev_jmp f_X12_tellsMinutes (nx := 2) rfl rfl rfl ?_
    refine ev_loc f_X12_tellsMinutes (nx := 3) rfl rfl rfl rfl ?_
    refine ev_bp f_X12_tellsMinutes (nx := 5) (v := 6) rfl (by decide) rfl ?_
    refine ev_f f_X12_tellsMinutes (t1 := 33) (t2 := 8) rfl rfl rfl (by decide) ?_
    refine ev_loc f_X12_tellsMinutes (nx := 9) rfl rfl rfl rfl ?_
    refine ev_getR f_X12_tellsMinutes (nx := 12) rfl (hW.s rfl) rfl rfl (hW.r rfl) rfl rfl ?_
    refine ev_loc f_X12_tellsMinutes (nx := 13) rfl rfl rfl rfl ?_
    refine ev_loc f_X12_tellsMinutes (nx := 14) rfl rfl rfl rfl ?_
    refine ev_getR f_X12_tellsMinutes (nx := 17) rfl (hW.s rfl) rfl rfl (hW.r rfl) rfl rfl ?_
    refine ev_bp f_X12_tellsMinutes (nx := 19) (v := 52) rfl (by decide) rfl ?_
    refine ev_ic f_X12_tellsMinutes (nx := 20) (v := 5) rfl (by decide) rfl ?_
    refine ev_loc f_X12_tellsMinutes (nx := 21) rfl rfl rfl rfl ?_
    refine ev_aluvI f_X12_tellsMinutes (nx := 22) (w := 25) rfl rfl rfl (by decide) rfl ?_
    refine ev_aluvI f_X12_tellsMinutes (nx := 23) (w := 77) rfl rfl rfl (by decide) rfl ?_
    refine ev_ic f_X12_tellsMinutes (nx := 24) (v := 1) rfl (by decide) rfl ?_
    refine ev_aluvI f_X12_tellsMinutes (nx := 25) (w := 78) rfl rfl rfl (by decide) rfl ?_
    refine ev_ialdv f_X12_tellsMinutes (nx := 26) (j := 78) (w := 0) rfl (hW.s rfl) (by decide) (by decide) (by decide) (wi_70_78 (gi := gi) hR) rfl ?_
    refine ev_iastv f_X12_tellsMinutes (nx := 27) (j := 5) rfl (hW.s rfl) (by decide) (by decide) (by decide) rfl ?_
    refine ev_incv f_X12_tellsMinutes (nx := 30) (c := 1) (w := 6) (lo' := [(1, .int 6), (0, .ref 69)]) rfl rfl (by decide) (by decide) rfl rfl rfl ?_
    refine ev_jmp f_X12_tellsMinutes (nx := 2) rfl rfl rfl ?_
    refine ev_loc f_X12_tellsMinutes (nx := 3) rfl rfl rfl rfl ?_
    refine ev_bp f_X12_tellsMinutes (nx := 5) (v := 6) rfl (by decide) rfl ?_
    refine ev_t f_X12_tellsMinutes (t1 := 33) (t2 := 8) rfl rfl rfl (by decide) ?_
    refine ev_ic f_X12_tellsMinutes (nx := 34) (v := 0) rfl (by decide) rfl ?_
    refine ev_loc f_X12_tellsMinutes (nx := 35) (lo' := [(1, .int 0), (0, .ref 69)]) rfl rfl rfl rfl ?_
    refine ev_loc f_X12_tellsMinutes (nx := 36) rfl rfl rfl rfl ?_
    refine ev_bp f_X12_tellsMinutes (nx := 38) (v := 6) rfl (by decide) rfl ?_
    refine ev_f f_X12_tellsMinutes (t1 := 67) (t2 := 41) rfl rfl rfl (by decide) ?_
    refine ev_loc f_X12_tellsMinutes (nx := 42) rfl rfl rfl rfl ?_
    refine ev_getR f_X12_tellsMinutes (nx := 45) rfl (hW.s rfl) rfl rfl (hW.r rfl) rfl rfl ?_
    refine ev_bp f_X12_tellsMinutes (nx := 47) (v := 6) rfl (by decide) rfl ?_
    refine ev_loc f_X12_tellsMinutes (nx := 48) rfl rfl rfl rfl ?_
    refine ev_aluvI f_X12_tellsMinutes (nx := 49) (w := 6) rfl rfl rfl (by decide) rfl ?_
    refine ev_loc f_X12_tellsMinutes (nx := 50) rfl rfl rfl rfl ?_
    refine ev_getR f_X12_tellsMinutes (nx := 53) rfl (hW.s rfl) rfl rfl (hW.r rfl) rfl rfl ?_
    refine ev_bp f_X12_tellsMinutes (nx := 55) (v := 82) rfl (by decide) rfl ?_
    refine ev_ic f_X12_tellsMinutes (nx := 56) (v := 3) rfl (by decide) rfl ?_
    refine ev_loc f_X12_tellsMinutes (nx := 57) rfl rfl rfl rfl ?_
    refine ev_aluvI f_X12_tellsMinutes (nx := 58) (w := 0) rfl rfl rfl (by decide) rfl ?_
    refine ev_aluvI f_X12_tellsMinutes (nx := 59) (w := 82) rfl rfl rfl (by decide) rfl ?_
    refine ev_ialdv f_X12_tellsMinutes (nx := 60) (j := 82) (w := 0) rfl (hW.s rfl) (by decide) (by decide) (by decide) (wi_70_82 (gi := gi) hR) rfl ?_
    refine ev_iastv f_X12_tellsMinutes (nx := 61) (j := 6) rfl (hW.s rfl) (by decide) (by decide) (by decide) rfl ?_
    refine ev_incv f_X12_tellsMinutes (nx := 64) (c := 1) (w := 1) (lo' := [(1, .int 1), (0, .ref 69)]) rfl rfl (by decide) (by decide) rfl rfl rfl ?_
    refine ev_jmp f_X12_tellsMinutes (nx := 35) rfl rfl rfl ?_
    refine ev_loc f_X12_tellsMinutes (nx := 36) rfl rfl rfl rfl ?_
    refine ev_bp f_X12_tellsMinutes (nx := 38) (v := 6) rfl (by decide) rfl ?_
    refine ev_f f_X12_tellsMinutes (t1 := 67) (t2 := 41) rfl rfl rfl (by decide) ?_
    refine ev_loc f_X12_tellsMinutes (nx := 42) rfl rfl rfl rfl ?_
    refine ev_getR f_X12_tellsMinutes (nx := 45) rfl (hW.s rfl) rfl rfl (hW.r rfl) rfl rfl ?_
    refine ev_bp f_X12_tellsMinutes (nx := 47) (v := 6) rfl (by decide) rfl ?_
    refine ev_loc f_X12_tellsMinutes (nx := 48) rfl rfl rfl rfl ?_
    refine ev_aluvI f_X12_tellsMinutes (nx := 49) (w := 7) rfl rfl rfl (by decide) rfl ?_
    refine ev_loc f_X12_tellsMinutes (nx := 50) rfl rfl rfl rfl ?_
    refine ev_getR f_X12_tellsMinutes (nx := 53) rfl (hW.s rfl) rfl rfl (hW.r rfl) rfl rfl ?_
    refine ev_bp f_X12_tellsMinutes (nx := 55) (v := 82) rfl (by decide) rfl ?_
    refine ev_ic f_X12_tellsMinutes (nx := 56) (v := 3) rfl (by decide) rfl ?_
    refine ev_loc f_X12_tellsMinutes (nx := 57) rfl rfl rfl rfl ?_
    refine ev_aluvI f_X12_tellsMinutes (nx := 58) (w := 3) rfl rfl rfl (by decide) rfl ?_
    refine ev_aluvI f_X12_tellsMinutes (nx := 59) (w := 85) rfl rfl rfl (by decide) rfl ?_
    refine ev_ialdv f_X12_tellsMinutes (nx := 60) (j := 85) (w := 0) rfl (hW.s rfl) (by decide) (by decide) (by decide) (wi_70_85 (gi := gi) hR) rfl ?_
    refine ev_iastv f_X12_tellsMinutes (nx := 61) (j := 7) rfl (hW.s rfl) (by decide) (by decide) (by decide) rfl ?_
    refine ev_incv f_X12_tellsMinutes (nx := 64) (c := 1) (w := 2) (lo' := [(1, .int 2), (0, .ref 69)]) rfl rfl (by decide) (by decide) rfl rfl rfl ?_
    refine ev_jmp f_X12_tellsMinutes (nx := 35) rfl rfl rfl ?_
    refine ev_loc f_X12_tellsMinutes (nx := 36) rfl rfl rfl rfl ?_
    refine ev_bp f_X12_tellsMinutes (nx := 38) (v := 6) rfl (by decide) rfl ?_
    refine ev_f f_X12_tellsMinutes (t1 := 67) (t2 := 41) rfl rfl rfl (by decide) ?_
    refine ev_loc f_X12_tellsMinutes (nx := 42) rfl rfl rfl rfl ?_
    refine ev_getR f_X12_tellsMinutes (nx := 45) rfl (hW.s rfl) rfl rfl (hW.r rfl) rfl rfl ?_
    refine ev_bp f_X12_tellsMinutes (nx := 47) (v := 6) rfl (by decide) rfl ?_
    refine ev_loc f_X12_tellsMinutes (nx := 48) rfl rfl rfl rfl ?_
    refine ev_aluvI f_X12_tellsMinutes (nx := 49) (w := 8) rfl rfl rfl (by decide) rfl ?_
    refine ev_loc f_X12_tellsMinutes (nx := 50) rfl rfl rfl rfl ?_
    refine ev_getR f_X12_tellsMinutes (nx := 53) rfl (hW.s rfl) rfl rfl (hW.r rfl) rfl rfl ?_
    refine ev_bp f_X12_tellsMinutes (nx := 55) (v := 82) rfl (by decide) rfl ?_
    refine ev_ic f_X12_tellsMinutes (nx := 56) (v := 3) rfl (by decide) rfl ?_
    refine ev_loc f_X12_tellsMinutes (nx := 57) rfl rfl rfl rfl ?_
    refine ev_aluvI f_X12_tellsMinutes (nx := 58) (w := 6) rfl rfl rfl (by decide) rfl ?_
    refine ev_aluvI f_X12_tellsMinutes (nx := 59) (w := 88) rfl rfl rfl (by decide) rfl ?_
    refine ev_ialdv f_X12_tellsMinutes (nx := 60) (j := 88) (w := 0) rfl (hW.s rfl) (by decide) (by decide) (by decide) (wi_70_88 (gi := gi) hR) rfl ?_
    refine ev_iastv f_X12_tellsMinutes (nx := 61) (j := 8) rfl (hW.s rfl) (by decide) (by decide) (by decide) rfl ?_
    refine ev_incv f_X12_tellsMinutes (nx := 64) (c := 1) (w := 3) (lo' := [(1, .int 3), (0, .ref 69)]) rfl rfl (by decide) (by decide) rfl rfl rfl ?_
    refine ev_jmp f_X12_tellsMinutes (nx := 35) rfl rfl rfl ?_
    refine ev_loc f_X12_tellsMinutes (nx := 36) rfl rfl rfl rfl ?_
    refine ev_bp f_X12_tellsMinutes (nx := 38) (v := 6) rfl (by decide) rfl ?_
    refine ev_f f_X12_tellsMinutes (t1 := 67) (t2 := 41) rfl rfl rfl (by decide) ?_
    refine ev_loc f_X12_tellsMinutes (nx := 42) rfl rfl rfl rfl ?_
    refine ev_getR f_X12_tellsMinutes (nx := 45) rfl (hW.s rfl) rfl rfl (hW.r rfl) rfl rfl ?_
    refine ev_bp f_X12_tellsMinutes (nx := 47) (v := 6) rfl (by decide) rfl ?_
    refine ev_loc f_X12_tellsMinutes (nx := 48) rfl rfl rfl rfl ?_
    refine ev_aluvI f_X12_tellsMinutes (nx := 49) (w := 9) rfl rfl rfl (by decide) rfl ?_
    refine ev_loc f_X12_tellsMinutes (nx := 50) rfl rfl rfl rfl ?_
    refine ev_getR f_X12_tellsMinutes (nx := 53) rfl (hW.s rfl) rfl rfl (hW.r rfl) rfl rfl ?_
    refine ev_bp f_X12_tellsMinutes (nx := 55) (v := 82) rfl (by decide) rfl ?_
    refine ev_ic f_X12_tellsMinutes (nx := 56) (v := 3) rfl (by decide) rfl ?_
    refine ev_loc f_X12_tellsMinutes (nx := 57) rfl rfl rfl rfl ?_
    refine ev_aluvI f_X12_tellsMinutes (nx := 58) (w := 9) rfl rfl rfl (by decide) rfl ?_
    refine ev_aluvI f_X12_tellsMinutes (nx := 59) (w := 91) rfl rfl rfl (by decide) rfl ?_
    refine ev_ialdv f_X12_tellsMinutes (nx := 60) (j := 91) (w := 0) rfl (hW.s rfl) (by decide) (by decide) (by decide) (wi_70_91 (gi := gi) hR) rfl ?_
    refine ev_iastv f_X12_tellsMinutes (nx := 61) (j := 9) rfl (hW.s rfl) (by decide) (by decide) (by decide) rfl ?_
    refine ev_incv f_X12_tellsMinutes (nx := 64) (c := 1) (w := 4) (lo' := [(1, .int 4), (0, .ref 69)]) rfl rfl (by decide) (by decide) rfl rfl rfl ?_
    refine ev_jmp f_X12_tellsMinutes (nx := 35) rfl rfl rfl ?_
    refine ev_loc f_X12_tellsMinutes (nx := 36) rfl rfl rfl rfl ?_
    refine ev_bp f_X12_tellsMinutes (nx := 38) (v := 6) rfl (by decide) rfl ?_
    refine ev_f f_X12_tellsMinutes (t1 := 67) (t2 := 41) rfl rfl rfl (by decide) ?_
    refine ev_loc f_X12_tellsMinutes (nx := 42) rfl rfl rfl rfl ?_
    refine ev_getR f_X12_tellsMinutes (nx := 45) rfl (hW.s rfl) rfl rfl (hW.r rfl) rfl rfl ?_
    refine ev_bp f_X12_tellsMinutes (nx := 47) (v := 6) rfl (by decide) rfl ?_
    refine ev_loc f_X12_tellsMinutes (nx := 48) rfl rfl rfl rfl ?_
    refine ev_aluvI f_X12_tellsMinutes (nx := 49) (w := 10) rfl rfl rfl (by decide) rfl ?_
    refine ev_loc f_X12_tellsMinutes (nx := 50) rfl rfl rfl rfl ?_
    refine ev_getR f_X12_tellsMinutes (nx := 53) rfl (hW.s rfl) rfl rfl (hW.r rfl) rfl rfl ?_
    refine ev_bp f_X12_tellsMinutes (nx := 55) (v := 82) rfl (by decide) rfl ?_
    refine ev_ic f_X12_tellsMinutes (nx := 56) (v := 3) rfl (by decide) rfl ?_
    refine ev_loc f_X12_tellsMinutes (nx := 57) rfl rfl rfl rfl ?_
    refine ev_aluvI f_X12_tellsMinutes (nx := 58) (w := 12) rfl rfl rfl (by decide) rfl ?_
    refine ev_aluvI f_X12_tellsMinutes (nx := 59) (w := 94) rfl rfl rfl (by decide) rfl ?_
    refine ev_ialdv f_X12_tellsMinutes (nx := 60) (j := 94) (w := 0) rfl (hW.s rfl) (by decide) (by decide) (by decide) (wi_70_94 (gi := gi) hR) rfl ?_
    refine ev_iastv f_X12_tellsMinutes (nx := 61) (j := 10) rfl (hW.s rfl) (by decide) (by decide) (by decide) rfl ?_
    refine ev_incv f_X12_tellsMinutes (nx := 64) (c := 1) (w := 5) (lo' := [(1, .int 5), (0, .ref 69)]) rfl rfl (by decide) (by decide) rfl rfl rfl ?_
    refine ev_jmp f_X12_tellsMinutes (nx := 35) rfl rfl rfl ?_
    refine ev_loc f_X12_tellsMinutes (nx := 36) rfl rfl rfl rfl ?_
    refine ev_bp f_X12_tellsMinutes (nx := 38) (v := 6) rfl (by decide) rfl ?_
    refine ev_f f_X12_tellsMinutes (t1 := 67) (t2 := 41) rfl rfl rfl (by decide) ?_
    refine ev_loc f_X12_tellsMinutes (nx := 42) rfl rfl rfl rfl ?_
    refine ev_getR f_X12_tellsMinutes (nx := 45) rfl (hW.s rfl) rfl rfl (hW.r rfl) rfl rfl ?_
    refine ev_bp f_X12_tellsMinutes (nx := 47) (v := 6) rfl (by decide) rfl ?_
    refine ev_loc f_X12_tellsMinutes (nx := 48) rfl rfl rfl rfl ?_
    refine ev_aluvI f_X12_tellsMinutes (nx := 49) (w := 11) rfl rfl rfl (by decide) rfl ?_
    refine ev_loc f_X12_tellsMinutes (nx := 50) rfl rfl rfl rfl ?_
    refine ev_getR f_X12_tellsMinutes (nx := 53) rfl (hW.s rfl) rfl rfl (hW.r rfl) rfl rfl ?_
    refine ev_bp f_X12_tellsMinutes (nx := 55) (v := 82) rfl (by decide) rfl ?_
    refine ev_ic f_X12_tellsMinutes (nx := 56) (v := 3) rfl (by decide) rfl ?_
    refine ev_loc f_X12_tellsMinutes (nx := 57) rfl rfl rfl rfl ?_
    refine ev_aluvI f_X12_tellsMinutes (nx := 58) (w := 15) rfl rfl rfl (by decide) rfl ?_
    refine ev_aluvI f_X12_tellsMinutes (nx := 59) (w := 97) rfl rfl rfl (by decide) rfl ?_
    refine ev_ialdv f_X12_tellsMinutes (nx := 60) (j := 97) (w := 0) rfl (hW.s rfl) (by decide) (by decide) (by decide) (wi_70_97 (gi := gi) hR) rfl ?_
    refine ev_iastv f_X12_tellsMinutes (nx := 61) (j := 11) rfl (hW.s rfl) (by decide) (by decide) (by decide) rfl ?_
    refine ev_incv f_X12_tellsMinutes (nx := 64) (c := 1) (w := 6) (lo' := [(1, .int 6), (0, .ref 69)]) rfl rfl (by decide) (by decide) rfl rfl rfl ?_
    refine ev_jmp f_X12_tellsMinutes (nx := 35) rfl rfl rfl ?_
    refine ev_loc f_X12_tellsMinutes (nx := 36) rfl rfl rfl rfl ?_
    refine ev_bp f_X12_tellsMinutes (nx := 38) (v := 6) rfl (by decide) rfl ?_
    refine ev_t f_X12_tellsMinutes (t1 := 67) (t2 := 41) rfl rfl rfl (by decide) ?_
    refine ev_retK0 f_X12_tellsMinutes rfl rfl rfl ?_
    refine ev_loc f_X12_nextCart (nx := 5) rfl rfl rfl rfl ?_
    refine ev_ic f_X12_nextCart (nx := 6) (v := 0) rfl (by decide) rfl ?_
    refine ev_inV2 f_X12_nextCart (nx := 9) (lo2 := [(0, .ref 69), (1, .int 0)]) rfl rfl rfl rfl f_X12_orders (hW.s rfl) rfl rfl rfl rfl rfl ?_
    refine ev_loc f_X12_orders (nx := 1) rfl rfl rfl rfl ?_
    refine ev_ic f_X12_orders (nx := 2) (v := 0) rfl (by decide) rfl ?_
    refine ev_putI f_X12_orders (nx := 5) rfl (hW.s rfl) rfl rfl rfl ?_
    refine ev_loc f_X12_orders (nx := 6) rfl rfl rfl rfl ?_
    refine ev_ic f_X12_orders (nx := 7) (v := 0) rfl (by decide) rfl ?_
    refine ev_putI f_X12_orders (nx := 10) rfl (hW.s rfl) rfl rfl rfl ?_
    refine ev_ic f_X12_orders (nx := 11) (v := 0) rfl (by decide) rfl ?_
    refine ev_loc f_X12_orders (nx := 12) (lo' := [(2, .int 0), (0, .ref 69), (1, .int 0)]) rfl rfl rfl rfl ?_
    refine ev_loc f_X12_orders (nx := 13) rfl rfl rfl rfl ?_
    refine ev_loc f_X12_orders (nx := 14) rfl rfl rfl rfl ?_
    refine ev_getR f_X12_orders (nx := 17) rfl (hW.s rfl) rfl rfl (hW.r rfl) rfl rfl ?_
    refine ev_ic f_X12_orders (nx := 18) (v := 1) rfl (by decide) rfl ?_
    refine ev_ialdv f_X12_orders (nx := 19) (j := 1) (w := 0) rfl (hW.s rfl) (by decide) (by decide) (by decide) (wi_70_1 (gi := gi) hR) rfl ?_
    refine ev_t f_X12_orders (t1 := 108) (t2 := 22) rfl rfl rfl (by decide) ?_
    refine ev_ic f_X12_orders (nx := 109) (v := 0) rfl (by decide) rfl ?_
    refine ev_loc f_X12_orders (nx := 110) (lo' := [(2, .int 0), (0, .ref 69), (1, .int 0)]) rfl rfl rfl rfl ?_
    refine ev_loc f_X12_orders (nx := 111) rfl rfl rfl rfl ?_
    refine ev_loc f_X12_orders (nx := 112) rfl rfl rfl rfl ?_
    refine ev_getR f_X12_orders (nx := 115) rfl (hW.s rfl) rfl rfl (hW.r rfl) rfl rfl ?_
    refine ev_ic f_X12_orders (nx := 116) (v := 2) rfl (by decide) rfl ?_
    refine ev_ialdv f_X12_orders (nx := 117) (j := 2) (w := 0) rfl (hW.s rfl) (by decide) (by decide) (by decide) (wi_70_2 (gi := gi) hR) rfl ?_
    refine ev_t f_X12_orders (t1 := 211) (t2 := 120) rfl rfl rfl (by decide) ?_
    refine ev_retK0 f_X12_orders rfl rfl rfl ?_
    refine ev_loc f_X12_nextCart (nx := 10) rfl rfl rfl rfl ?_
    refine ev_t f_X12_nextCart (t1 := 21) (t2 := 13) rfl rfl rfl (by rw [Int32.lt_iff_toInt_lt, (by decide : (0 : Int32).toInt = 0)]; omega) ?_
    refine ev_loc f_X12_nextCart (nx := 22) rfl rfl rfl rfl ?_
    refine ev_bp f_X12_nextCart (nx := 24) (v := 6) rfl (by decide) rfl ?_
    refine ev_inV2 f_X12_nextCart (nx := 27) (lo2 := [(0, .ref 69), (1, .int 6)]) rfl rfl rfl rfl f_X12_refuse (hW.s rfl) rfl rfl rfl rfl rfl ?_
    refine ev_loc f_X12_refuse (nx := 1) rfl rfl rfl rfl ?_
    refine ev_loc f_X12_refuse (nx := 2) rfl rfl rfl rfl ?_
    refine ev_putI f_X12_refuse (nx := 5) rfl (hW.s rfl) rfl rfl rfl ?_
    refine ev_ic f_X12_refuse (nx := 6) (v := -1) rfl (by decide) rfl ?_
    refine ev_retK1 f_X12_refuse rfl rfl rfl ?_
    refine ev_jmp f_X12_nextCart (nx := 40) rfl rfl rfl ?_
    refine ev_retK1 f_X12_nextCart rfl rfl rfl ?_
    refine ev_t f_L_law (t1 := 1628) (t2 := 763) rfl rfl rfl (by decide) ?_
    refine ev_incv f_L_law (nx := 1631) (c := 6) (w := 6) (lo' := [(3, .int 6), (2, .ref 69), (1, .ref 0), (0, .retAddr 30)]) rfl rfl (by decide) (by decide) rfl rfl rfl ?_
    refine ev_jmp f_L_law (nx := 18) rfl rfl rfl ?_
    refine ev_loc f_L_law (nx := 19) rfl rfl rfl rfl ?_
    refine ev_loc f_L_law (nx := 20) rfl rfl rfl rfl ?_
    refine ev_alenX f_L_law (nx := 21) rfl hX rfl ?_
    refine ev_bp f_L_law (nx := 23) (v := 6) rfl (by decide) rfl ?_
    refine ev_aluvI f_L_law (nx := 24) (w := 0) rfl rfl rfl (by decide) rfl ?_
    refine ev_t f_L_law (t1 := 1634) (t2 := 27) rfl rfl rfl (by decide) ?_
    refine ev_ic f_L_law (nx := 1635) (v := 1) rfl (by decide) rfl ?_
    refine ev_ret f_L_law rfl rfl rfl ?_
    exact ⟨rfl, hz⟩
  · have q12 := h12; rw [Int32.lt_iff_toInt_lt, (by decide : (0 : Int32).toInt = 0)] at q12
    refine ev_loc f_X11_isCart (nx := 5) rfl rfl rfl rfl ?_
    refine ev_loc f_X11_isCart (nx := 6) rfl rfl rfl rfl ?_
    refine ev_getR f_X11_isCart (nx := 9) rfl (hW.s rfl) rfl rfl (wr_0_6 (gr := gr) hR) rfl rfl ?_
    refine ev_getR f_X11_isCart (nx := 12) rfl (hW.s rfl) rfl rfl (hW.r rfl) rfl rfl ?_
    refine ev_gvI f_X11_isCart (nx := 15) (w := 0) rfl (hW.s rfl) rfl rfl (wi_13_0 (gi := gi) hR) rfl ?_
    refine ev_t f_X11_isCart (t1 := 22) (t2 := 18) rfl rfl rfl (by rw [Int32.le_iff_toInt_le, (by decide : (0 : Int32).toInt = 0)]; omega) ?_
    refine ev_ic f_X11_isCart (nx := 23) (v := 0) rfl (by decide) rfl ?_
    refine ev_retK1 f_X11_isCart rfl rfl rfl ?_
    refine ev_t f_X11_nextCart (t1 := 8) (t2 := 15) rfl rfl rfl (by decide) ?_
    refine ev_loc f_X11_nextCart (nx := 9) rfl rfl rfl rfl ?_
    refine ev_bp f_X11_nextCart (nx := 11) (v := 6) rfl (by decide) rfl ?_
    refine ev_inV2 f_X11_nextCart (nx := 14) (lo2 := [(0, .ref 0), (1, .int 6)]) rfl rfl rfl rfl f_X11_refuse (hW.s rfl) rfl rfl rfl rfl rfl ?_
    refine ev_loc f_X11_refuse (nx := 1) rfl rfl rfl rfl ?_
    refine ev_loc f_X11_refuse (nx := 2) rfl rfl rfl rfl ?_
    refine ev_putI f_X11_refuse (nx := 5) rfl (hW.s rfl) rfl rfl rfl ?_
    refine ev_ic f_X11_refuse (nx := 6) (v := -1) rfl (by decide) rfl ?_
    refine ev_retK1 f_X11_refuse rfl rfl rfl ?_
    refine ev_retK1 f_X11_nextCart rfl rfl rfl ?_
    refine ev_loc f_L_law (nx := 752) rfl rfl rfl rfl ?_
    refine ev_loc f_L_law (nx := 753) rfl rfl rfl rfl ?_
    refine ev_loc f_L_law (nx := 754) rfl rfl rfl rfl ?_
    refine ev_ic f_L_law (nx := 755) (v := 1) rfl (by decide) rfl ?_
    refine ev_aluvI f_L_law (nx := 756) (w := 1) rfl rfl rfl (by decide) rfl ?_
    refine ev_scr f_L_law (nx := 757) (j := 1) rfl hX (by decide) (by decide) (by decide) rfl ?_
    refine ev_inV2 f_L_law (nx := 760) (lo2 := [(0, .ref 69), (1, .int ((X.2 1)))]) rfl rfl rfl rfl f_X12_nextCart (hW.s rfl) rfl rfl rfl rfl rfl ?_
    refine ev_loc f_X12_nextCart (nx := 1) rfl rfl rfl rfl ?_
    refine ev_inV1 f_X12_nextCart (nx := 4) (lo2 := [(0, .ref 69)]) rfl rfl rfl rfl f_X12_tellsMinutes (hW.s rfl) rfl rfl rfl rfl rfl ?_
    refine ev_ic f_X12_tellsMinutes (nx := 1) (v := 0) rfl (by decide) rfl ?_
    refine ev_loc f_X12_tellsMinutes (nx := 2) (lo' := [(1, .int 0), (0, .ref 69)]) rfl rfl rfl rfl ?_
    refine ev_loc f_X12_tellsMinutes (nx := 3) rfl rfl rfl rfl ?_
    refine ev_bp f_X12_tellsMinutes (nx := 5) (v := 6) rfl (by decide) rfl ?_
    refine ev_f f_X12_tellsMinutes (t1 := 33) (t2 := 8) rfl rfl rfl (by decide) ?_
    refine ev_loc f_X12_tellsMinutes (nx := 9) rfl rfl rfl rfl ?_
    refine ev_getR f_X12_tellsMinutes (nx := 12) rfl (hW.s rfl) rfl rfl (hW.r rfl) rfl rfl ?_
    refine ev_loc f_X12_tellsMinutes (nx := 13) rfl rfl rfl rfl ?_
    refine ev_loc f_X12_tellsMinutes (nx := 14) rfl rfl rfl rfl ?_
    refine ev_getR f_X12_tellsMinutes (nx := 17) rfl (hW.s rfl) rfl rfl (hW.r rfl) rfl rfl ?_
    refine ev_bp f_X12_tellsMinutes (nx := 19) (v := 52) rfl (by decide) rfl ?_
    refine ev_ic f_X12_tellsMinutes (nx := 20) (v := 5) rfl (by decide) rfl ?_
    refine ev_loc f_X12_tellsMinutes (nx := 21) rfl rfl rfl rfl ?_
    refine ev_aluvI f_X12_tellsMinutes (nx := 22) (w := 0) rfl rfl rfl (by decide) rfl ?_
    refine ev_aluvI f_X12_tellsMinutes (nx := 23) (w := 52) rfl rfl rfl (by decide) rfl ?_
    refine ev_ic f_X12_tellsMinutes (nx := 24) (v := 1) rfl (by decide) rfl ?_
    refine ev_aluvI f_X12_tellsMinutes (nx := 25) (w := 53) rfl rfl rfl (by decide) rfl ?_
    refine ev_ialdv f_X12_tellsMinutes (nx := 26) (j := 53) (w := 0) rfl (hW.s rfl) (by decide) (by decide) (by decide) (wi_70_53 (gi := gi) hR) rfl ?_
    refine ev_iastv f_X12_tellsMinutes (nx := 27) (j := 0) rfl (hW.s rfl) (by decide) (by decide) (by decide) rfl ?_
    refine ev_incv f_X12_tellsMinutes (nx := 30) (c := 1) (w := 1) (lo' := [(1, .int 1), (0, .ref 69)]) rfl rfl (by decide) (by decide) rfl rfl rfl ?_
    refine ev_jmp f_X12_tellsMinutes (nx := 2) rfl rfl rfl ?_
    refine ev_loc f_X12_tellsMinutes (nx := 3) rfl rfl rfl rfl ?_
    refine ev_bp f_X12_tellsMinutes (nx := 5) (v := 6) rfl (by decide) rfl ?_
    refine ev_f f_X12_tellsMinutes (t1 := 33) (t2 := 8) rfl rfl rfl (by decide) ?_
    refine ev_loc f_X12_tellsMinutes (nx := 9) rfl rfl rfl rfl ?_
    refine ev_getR f_X12_tellsMinutes (nx := 12) rfl (hW.s rfl) rfl rfl (hW.r rfl) rfl rfl ?_
    refine ev_loc f_X12_tellsMinutes (nx := 13) rfl rfl rfl rfl ?_
    refine ev_loc f_X12_tellsMinutes (nx := 14) rfl rfl rfl rfl ?_
    refine ev_getR f_X12_tellsMinutes (nx := 17) rfl (hW.s rfl) rfl rfl (hW.r rfl) rfl rfl ?_
    refine ev_bp f_X12_tellsMinutes (nx := 19) (v := 52) rfl (by decide) rfl ?_
    refine ev_ic f_X12_tellsMinutes (nx := 20) (v := 5) rfl (by decide) rfl ?_
    refine ev_loc f_X12_tellsMinutes (nx := 21) rfl rfl rfl rfl ?_
    refine ev_aluvI f_X12_tellsMinutes (nx := 22) (w := 5) rfl rfl rfl (by decide) rfl ?_
    refine ev_aluvI f_X12_tellsMinutes (nx := 23) (w := 57) rfl rfl rfl (by decide) rfl ?_
    refine ev_ic f_X12_tellsMinutes (nx := 24) (v := 1) rfl (by decide) rfl ?_
    refine ev_aluvI f_X12_tellsMinutes (nx := 25) (w := 58) rfl rfl rfl (by decide) rfl ?_
    refine ev_ialdv f_X12_tellsMinutes (nx := 26) (j := 58) (w := 0) rfl (hW.s rfl) (by decide) (by decide) (by decide) (wi_70_58 (gi := gi) hR) rfl ?_
    refine ev_iastv f_X12_tellsMinutes (nx := 27) (j := 1) rfl (hW.s rfl) (by decide) (by decide) (by decide) rfl ?_
    refine ev_incv f_X12_tellsMinutes (nx := 30) (c := 1) (w := 2) (lo' := [(1, .int 2), (0, .ref 69)]) rfl rfl (by decide) (by decide) rfl rfl rfl ?_
    refine ev_jmp f_X12_tellsMinutes (nx := 2) rfl rfl rfl ?_
    refine ev_loc f_X12_tellsMinutes (nx := 3) rfl rfl rfl rfl ?_
    refine ev_bp f_X12_tellsMinutes (nx := 5) (v := 6) rfl (by decide) rfl ?_
    refine ev_f f_X12_tellsMinutes (t1 := 33) (t2 := 8) rfl rfl rfl (by decide) ?_
    refine ev_loc f_X12_tellsMinutes (nx := 9) rfl rfl rfl rfl ?_
    refine ev_getR f_X12_tellsMinutes (nx := 12) rfl (hW.s rfl) rfl rfl (hW.r rfl) rfl rfl ?_
    refine ev_loc f_X12_tellsMinutes (nx := 13) rfl rfl rfl rfl ?_
    refine ev_loc f_X12_tellsMinutes (nx := 14) rfl rfl rfl rfl ?_
    refine ev_getR f_X12_tellsMinutes (nx := 17) rfl (hW.s rfl) rfl rfl (hW.r rfl) rfl rfl ?_
    refine ev_bp f_X12_tellsMinutes (nx := 19) (v := 52) rfl (by decide) rfl ?_
    refine ev_ic f_X12_tellsMinutes (nx := 20) (v := 5) rfl (by decide) rfl ?_
    refine ev_loc f_X12_tellsMinutes (nx := 21) rfl rfl rfl rfl ?_
    refine ev_aluvI f_X12_tellsMinutes (nx := 22) (w := 10) rfl rfl rfl (by decide) rfl ?_
    refine ev_aluvI f_X12_tellsMinutes (nx := 23) (w := 62) rfl rfl rfl (by decide) rfl ?_
    refine ev_ic f_X12_tellsMinutes (nx := 24) (v := 1) rfl (by decide) rfl ?_
    refine ev_aluvI f_X12_tellsMinutes (nx := 25) (w := 63) rfl rfl rfl (by decide) rfl ?_
    refine ev_ialdv f_X12_tellsMinutes (nx := 26) (j := 63) (w := 0) rfl (hW.s rfl) (by decide) (by decide) (by decide) (wi_70_63 (gi := gi) hR) rfl ?_
    refine ev_iastv f_X12_tellsMinutes (nx := 27) (j := 2) rfl (hW.s rfl) (by decide) (by decide) (by decide) rfl ?_
    refine ev_incv f_X12_tellsMinutes (nx := 30) (c := 1) (w := 3) (lo' := [(1, .int 3), (0, .ref 69)]) rfl rfl (by decide) (by decide) rfl rfl rfl ?_
    refine ev_jmp f_X12_tellsMinutes (nx := 2) rfl rfl rfl ?_
    refine ev_loc f_X12_tellsMinutes (nx := 3) rfl rfl rfl rfl ?_
    refine ev_bp f_X12_tellsMinutes (nx := 5) (v := 6) rfl (by decide) rfl ?_
    refine ev_f f_X12_tellsMinutes (t1 := 33) (t2 := 8) rfl rfl rfl (by decide) ?_
    refine ev_loc f_X12_tellsMinutes (nx := 9) rfl rfl rfl rfl ?_
    refine ev_getR f_X12_tellsMinutes (nx := 12) rfl (hW.s rfl) rfl rfl (hW.r rfl) rfl rfl ?_
    refine ev_loc f_X12_tellsMinutes (nx := 13) rfl rfl rfl rfl ?_
    refine ev_loc f_X12_tellsMinutes (nx := 14) rfl rfl rfl rfl ?_
    refine ev_getR f_X12_tellsMinutes (nx := 17) rfl (hW.s rfl) rfl rfl (hW.r rfl) rfl rfl ?_
    refine ev_bp f_X12_tellsMinutes (nx := 19) (v := 52) rfl (by decide) rfl ?_
    refine ev_ic f_X12_tellsMinutes (nx := 20) (v := 5) rfl (by decide) rfl ?_
    refine ev_loc f_X12_tellsMinutes (nx := 21) rfl rfl rfl rfl ?_
    refine ev_aluvI f_X12_tellsMinutes (nx := 22) (w := 15) rfl rfl rfl (by decide) rfl ?_
    refine ev_aluvI f_X12_tellsMinutes (nx := 23) (w := 67) rfl rfl rfl (by decide) rfl ?_
    refine ev_ic f_X12_tellsMinutes (nx := 24) (v := 1) rfl (by decide) rfl ?_
    refine ev_aluvI f_X12_tellsMinutes (nx := 25) (w := 68) rfl rfl rfl (by decide) rfl ?_
    refine ev_ialdv f_X12_tellsMinutes (nx := 26) (j := 68) (w := 0) rfl (hW.s rfl) (by decide) (by decide) (by decide) (wi_70_68 (gi := gi) hR) rfl ?_
    refine ev_iastv f_X12_tellsMinutes (nx := 27) (j := 3) rfl (hW.s rfl) (by decide) (by decide) (by decide) rfl ?_
    refine ev_incv f_X12_tellsMinutes (nx := 30) (c := 1) (w := 4) (lo' := [(1, .int 4), (0, .ref 69)]) rfl rfl (by decide) (by decide) rfl rfl rfl ?_
    refine ev_jmp f_X12_tellsMinutes (nx := 2) rfl rfl rfl ?_
    refine ev_loc f_X12_tellsMinutes (nx := 3) rfl rfl rfl rfl ?_
    refine ev_bp f_X12_tellsMinutes (nx := 5) (v := 6) rfl (by decide) rfl ?_
    refine ev_f f_X12_tellsMinutes (t1 := 33) (t2 := 8) rfl rfl rfl (by decide) ?_
    refine ev_loc f_X12_tellsMinutes (nx := 9) rfl rfl rfl rfl ?_
    refine ev_getR f_X12_tellsMinutes (nx := 12) rfl (hW.s rfl) rfl rfl (hW.r rfl) rfl rfl ?_
    refine ev_loc f_X12_tellsMinutes (nx := 13) rfl rfl rfl rfl ?_
    refine ev_loc f_X12_tellsMinutes (nx := 14) rfl rfl rfl rfl ?_
    refine ev_getR f_X12_tellsMinutes (nx := 17) rfl (hW.s rfl) rfl rfl (hW.r rfl) rfl rfl ?_
    refine ev_bp f_X12_tellsMinutes (nx := 19) (v := 52) rfl (by decide) rfl ?_
    refine ev_ic f_X12_tellsMinutes (nx := 20) (v := 5) rfl (by decide) rfl ?_
    refine ev_loc f_X12_tellsMinutes (nx := 21) rfl rfl rfl rfl ?_
    refine ev_aluvI f_X12_tellsMinutes (nx := 22) (w := 20) rfl rfl rfl (by decide) rfl ?_
    refine ev_aluvI f_X12_tellsMinutes (nx := 23) (w := 72) rfl rfl rfl (by decide) rfl ?_
    refine ev_ic f_X12_tellsMinutes (nx := 24) (v := 1) rfl (by decide) rfl ?_
    refine ev_aluvI f_X12_tellsMinutes (nx := 25) (w := 73) rfl rfl rfl (by decide) rfl ?_
    refine ev_ialdv f_X12_tellsMinutes (nx := 26) (j := 73) (w := 0) rfl (hW.s rfl) (by decide) (by decide) (by decide) (wi_70_73 (gi := gi) hR) rfl ?_
    refine ev_iastv f_X12_tellsMinutes (nx := 27) (j := 4) rfl (hW.s rfl) (by decide) (by decide) (by decide) rfl ?_
    refine ev_incv f_X12_tellsMinutes (nx := 30) (c := 1) (w := 5) (lo' := [(1, .int 5), (0, .ref 69)]) rfl rfl (by decide) (by decide) rfl rfl rfl ?_
    refine ev_jmp f_X12_tellsMinutes (nx := 2) rfl rfl rfl ?_
    refine ev_loc f_X12_tellsMinutes (nx := 3) rfl rfl rfl rfl ?_
    refine ev_bp f_X12_tellsMinutes (nx := 5) (v := 6) rfl (by decide) rfl ?_
    refine ev_f f_X12_tellsMinutes (t1 := 33) (t2 := 8) rfl rfl rfl (by decide) ?_
    refine ev_loc f_X12_tellsMinutes (nx := 9) rfl rfl rfl rfl ?_
    refine ev_getR f_X12_tellsMinutes (nx := 12) rfl (hW.s rfl) rfl rfl (hW.r rfl) rfl rfl ?_
    refine ev_loc f_X12_tellsMinutes (nx := 13) rfl rfl rfl rfl ?_
    refine ev_loc f_X12_tellsMinutes (nx := 14) rfl rfl rfl rfl ?_
    refine ev_getR f_X12_tellsMinutes (nx := 17) rfl (hW.s rfl) rfl rfl (hW.r rfl) rfl rfl ?_
    refine ev_bp f_X12_tellsMinutes (nx := 19) (v := 52) rfl (by decide) rfl ?_
    refine ev_ic f_X12_tellsMinutes (nx := 20) (v := 5) rfl (by decide) rfl ?_
    refine ev_loc f_X12_tellsMinutes (nx := 21) rfl rfl rfl rfl ?_
    refine ev_aluvI f_X12_tellsMinutes (nx := 22) (w := 25) rfl rfl rfl (by decide) rfl ?_
    refine ev_aluvI f_X12_tellsMinutes (nx := 23) (w := 77) rfl rfl rfl (by decide) rfl ?_
    refine ev_ic f_X12_tellsMinutes (nx := 24) (v := 1) rfl (by decide) rfl ?_
    refine ev_aluvI f_X12_tellsMinutes (nx := 25) (w := 78) rfl rfl rfl (by decide) rfl ?_
    refine ev_ialdv f_X12_tellsMinutes (nx := 26) (j := 78) (w := 0) rfl (hW.s rfl) (by decide) (by decide) (by decide) (wi_70_78 (gi := gi) hR) rfl ?_
    refine ev_iastv f_X12_tellsMinutes (nx := 27) (j := 5) rfl (hW.s rfl) (by decide) (by decide) (by decide) rfl ?_
    refine ev_incv f_X12_tellsMinutes (nx := 30) (c := 1) (w := 6) (lo' := [(1, .int 6), (0, .ref 69)]) rfl rfl (by decide) (by decide) rfl rfl rfl ?_
    refine ev_jmp f_X12_tellsMinutes (nx := 2) rfl rfl rfl ?_
    refine ev_loc f_X12_tellsMinutes (nx := 3) rfl rfl rfl rfl ?_
    refine ev_bp f_X12_tellsMinutes (nx := 5) (v := 6) rfl (by decide) rfl ?_
    refine ev_t f_X12_tellsMinutes (t1 := 33) (t2 := 8) rfl rfl rfl (by decide) ?_
    refine ev_ic f_X12_tellsMinutes (nx := 34) (v := 0) rfl (by decide) rfl ?_
    refine ev_loc f_X12_tellsMinutes (nx := 35) (lo' := [(1, .int 0), (0, .ref 69)]) rfl rfl rfl rfl ?_
    refine ev_loc f_X12_tellsMinutes (nx := 36) rfl rfl rfl rfl ?_
    refine ev_bp f_X12_tellsMinutes (nx := 38) (v := 6) rfl (by decide) rfl ?_
    refine ev_f f_X12_tellsMinutes (t1 := 67) (t2 := 41) rfl rfl rfl (by decide) ?_
    refine ev_loc f_X12_tellsMinutes (nx := 42) rfl rfl rfl rfl ?_
    refine ev_getR f_X12_tellsMinutes (nx := 45) rfl (hW.s rfl) rfl rfl (hW.r rfl) rfl rfl ?_
    refine ev_bp f_X12_tellsMinutes (nx := 47) (v := 6) rfl (by decide) rfl ?_
    refine ev_loc f_X12_tellsMinutes (nx := 48) rfl rfl rfl rfl ?_
    refine ev_aluvI f_X12_tellsMinutes (nx := 49) (w := 6) rfl rfl rfl (by decide) rfl ?_
    refine ev_loc f_X12_tellsMinutes (nx := 50) rfl rfl rfl rfl ?_
    refine ev_getR f_X12_tellsMinutes (nx := 53) rfl (hW.s rfl) rfl rfl (hW.r rfl) rfl rfl ?_
    refine ev_bp f_X12_tellsMinutes (nx := 55) (v := 82) rfl (by decide) rfl ?_
    refine ev_ic f_X12_tellsMinutes (nx := 56) (v := 3) rfl (by decide) rfl ?_
    refine ev_loc f_X12_tellsMinutes (nx := 57) rfl rfl rfl rfl ?_
    refine ev_aluvI f_X12_tellsMinutes (nx := 58) (w := 0) rfl rfl rfl (by decide) rfl ?_
    refine ev_aluvI f_X12_tellsMinutes (nx := 59) (w := 82) rfl rfl rfl (by decide) rfl ?_
    refine ev_ialdv f_X12_tellsMinutes (nx := 60) (j := 82) (w := 0) rfl (hW.s rfl) (by decide) (by decide) (by decide) (wi_70_82 (gi := gi) hR) rfl ?_
    refine ev_iastv f_X12_tellsMinutes (nx := 61) (j := 6) rfl (hW.s rfl) (by decide) (by decide) (by decide) rfl ?_
    refine ev_incv f_X12_tellsMinutes (nx := 64) (c := 1) (w := 1) (lo' := [(1, .int 1), (0, .ref 69)]) rfl rfl (by decide) (by decide) rfl rfl rfl ?_
    refine ev_jmp f_X12_tellsMinutes (nx := 35) rfl rfl rfl ?_
    refine ev_loc f_X12_tellsMinutes (nx := 36) rfl rfl rfl rfl ?_
    refine ev_bp f_X12_tellsMinutes (nx := 38) (v := 6) rfl (by decide) rfl ?_
    refine ev_f f_X12_tellsMinutes (t1 := 67) (t2 := 41) rfl rfl rfl (by decide) ?_
    refine ev_loc f_X12_tellsMinutes (nx := 42) rfl rfl rfl rfl ?_
    refine ev_getR f_X12_tellsMinutes (nx := 45) rfl (hW.s rfl) rfl rfl (hW.r rfl) rfl rfl ?_
    refine ev_bp f_X12_tellsMinutes (nx := 47) (v := 6) rfl (by decide) rfl ?_
    refine ev_loc f_X12_tellsMinutes (nx := 48) rfl rfl rfl rfl ?_
    refine ev_aluvI f_X12_tellsMinutes (nx := 49) (w := 7) rfl rfl rfl (by decide) rfl ?_
    refine ev_loc f_X12_tellsMinutes (nx := 50) rfl rfl rfl rfl ?_
    refine ev_getR f_X12_tellsMinutes (nx := 53) rfl (hW.s rfl) rfl rfl (hW.r rfl) rfl rfl ?_
    refine ev_bp f_X12_tellsMinutes (nx := 55) (v := 82) rfl (by decide) rfl ?_
    refine ev_ic f_X12_tellsMinutes (nx := 56) (v := 3) rfl (by decide) rfl ?_
    refine ev_loc f_X12_tellsMinutes (nx := 57) rfl rfl rfl rfl ?_
    refine ev_aluvI f_X12_tellsMinutes (nx := 58) (w := 3) rfl rfl rfl (by decide) rfl ?_
    refine ev_aluvI f_X12_tellsMinutes (nx := 59) (w := 85) rfl rfl rfl (by decide) rfl ?_
    refine ev_ialdv f_X12_tellsMinutes (nx := 60) (j := 85) (w := 0) rfl (hW.s rfl) (by decide) (by decide) (by decide) (wi_70_85 (gi := gi) hR) rfl ?_
    refine ev_iastv f_X12_tellsMinutes (nx := 61) (j := 7) rfl (hW.s rfl) (by decide) (by decide) (by decide) rfl ?_
    refine ev_incv f_X12_tellsMinutes (nx := 64) (c := 1) (w := 2) (lo' := [(1, .int 2), (0, .ref 69)]) rfl rfl (by decide) (by decide) rfl rfl rfl ?_
    refine ev_jmp f_X12_tellsMinutes (nx := 35) rfl rfl rfl ?_
    refine ev_loc f_X12_tellsMinutes (nx := 36) rfl rfl rfl rfl ?_
    refine ev_bp f_X12_tellsMinutes (nx := 38) (v := 6) rfl (by decide) rfl ?_
    refine ev_f f_X12_tellsMinutes (t1 := 67) (t2 := 41) rfl rfl rfl (by decide) ?_
    refine ev_loc f_X12_tellsMinutes (nx := 42) rfl rfl rfl rfl ?_
    refine ev_getR f_X12_tellsMinutes (nx := 45) rfl (hW.s rfl) rfl rfl (hW.r rfl) rfl rfl ?_
    refine ev_bp f_X12_tellsMinutes (nx := 47) (v := 6) rfl (by decide) rfl ?_
    refine ev_loc f_X12_tellsMinutes (nx := 48) rfl rfl rfl rfl ?_
    refine ev_aluvI f_X12_tellsMinutes (nx := 49) (w := 8) rfl rfl rfl (by decide) rfl ?_
    refine ev_loc f_X12_tellsMinutes (nx := 50) rfl rfl rfl rfl ?_
    refine ev_getR f_X12_tellsMinutes (nx := 53) rfl (hW.s rfl) rfl rfl (hW.r rfl) rfl rfl ?_
    refine ev_bp f_X12_tellsMinutes (nx := 55) (v := 82) rfl (by decide) rfl ?_
    refine ev_ic f_X12_tellsMinutes (nx := 56) (v := 3) rfl (by decide) rfl ?_
    refine ev_loc f_X12_tellsMinutes (nx := 57) rfl rfl rfl rfl ?_
    refine ev_aluvI f_X12_tellsMinutes (nx := 58) (w := 6) rfl rfl rfl (by decide) rfl ?_
    refine ev_aluvI f_X12_tellsMinutes (nx := 59) (w := 88) rfl rfl rfl (by decide) rfl ?_
    refine ev_ialdv f_X12_tellsMinutes (nx := 60) (j := 88) (w := 0) rfl (hW.s rfl) (by decide) (by decide) (by decide) (wi_70_88 (gi := gi) hR) rfl ?_
    refine ev_iastv f_X12_tellsMinutes (nx := 61) (j := 8) rfl (hW.s rfl) (by decide) (by decide) (by decide) rfl ?_
    refine ev_incv f_X12_tellsMinutes (nx := 64) (c := 1) (w := 3) (lo' := [(1, .int 3), (0, .ref 69)]) rfl rfl (by decide) (by decide) rfl rfl rfl ?_
    refine ev_jmp f_X12_tellsMinutes (nx := 35) rfl rfl rfl ?_
    refine ev_loc f_X12_tellsMinutes (nx := 36) rfl rfl rfl rfl ?_
    refine ev_bp f_X12_tellsMinutes (nx := 38) (v := 6) rfl (by decide) rfl ?_
    refine ev_f f_X12_tellsMinutes (t1 := 67) (t2 := 41) rfl rfl rfl (by decide) ?_
    refine ev_loc f_X12_tellsMinutes (nx := 42) rfl rfl rfl rfl ?_
    refine ev_getR f_X12_tellsMinutes (nx := 45) rfl (hW.s rfl) rfl rfl (hW.r rfl) rfl rfl ?_
    refine ev_bp f_X12_tellsMinutes (nx := 47) (v := 6) rfl (by decide) rfl ?_
    refine ev_loc f_X12_tellsMinutes (nx := 48) rfl rfl rfl rfl ?_
    refine ev_aluvI f_X12_tellsMinutes (nx := 49) (w := 9) rfl rfl rfl (by decide) rfl ?_
    refine ev_loc f_X12_tellsMinutes (nx := 50) rfl rfl rfl rfl ?_
    refine ev_getR f_X12_tellsMinutes (nx := 53) rfl (hW.s rfl) rfl rfl (hW.r rfl) rfl rfl ?_
    refine ev_bp f_X12_tellsMinutes (nx := 55) (v := 82) rfl (by decide) rfl ?_
    refine ev_ic f_X12_tellsMinutes (nx := 56) (v := 3) rfl (by decide) rfl ?_
    refine ev_loc f_X12_tellsMinutes (nx := 57) rfl rfl rfl rfl ?_
    refine ev_aluvI f_X12_tellsMinutes (nx := 58) (w := 9) rfl rfl rfl (by decide) rfl ?_
    refine ev_aluvI f_X12_tellsMinutes (nx := 59) (w := 91) rfl rfl rfl (by decide) rfl ?_
    refine ev_ialdv f_X12_tellsMinutes (nx := 60) (j := 91) (w := 0) rfl (hW.s rfl) (by decide) (by decide) (by decide) (wi_70_91 (gi := gi) hR) rfl ?_
    refine ev_iastv f_X12_tellsMinutes (nx := 61) (j := 9) rfl (hW.s rfl) (by decide) (by decide) (by decide) rfl ?_
    refine ev_incv f_X12_tellsMinutes (nx := 64) (c := 1) (w := 4) (lo' := [(1, .int 4), (0, .ref 69)]) rfl rfl (by decide) (by decide) rfl rfl rfl ?_
    refine ev_jmp f_X12_tellsMinutes (nx := 35) rfl rfl rfl ?_
    refine ev_loc f_X12_tellsMinutes (nx := 36) rfl rfl rfl rfl ?_
    refine ev_bp f_X12_tellsMinutes (nx := 38) (v := 6) rfl (by decide) rfl ?_
    refine ev_f f_X12_tellsMinutes (t1 := 67) (t2 := 41) rfl rfl rfl (by decide) ?_
    refine ev_loc f_X12_tellsMinutes (nx := 42) rfl rfl rfl rfl ?_
    refine ev_getR f_X12_tellsMinutes (nx := 45) rfl (hW.s rfl) rfl rfl (hW.r rfl) rfl rfl ?_
    refine ev_bp f_X12_tellsMinutes (nx := 47) (v := 6) rfl (by decide) rfl ?_
    refine ev_loc f_X12_tellsMinutes (nx := 48) rfl rfl rfl rfl ?_
    refine ev_aluvI f_X12_tellsMinutes (nx := 49) (w := 10) rfl rfl rfl (by decide) rfl ?_
    refine ev_loc f_X12_tellsMinutes (nx := 50) rfl rfl rfl rfl ?_
    refine ev_getR f_X12_tellsMinutes (nx := 53) rfl (hW.s rfl) rfl rfl (hW.r rfl) rfl rfl ?_
    refine ev_bp f_X12_tellsMinutes (nx := 55) (v := 82) rfl (by decide) rfl ?_
    refine ev_ic f_X12_tellsMinutes (nx := 56) (v := 3) rfl (by decide) rfl ?_
    refine ev_loc f_X12_tellsMinutes (nx := 57) rfl rfl rfl rfl ?_
    refine ev_aluvI f_X12_tellsMinutes (nx := 58) (w := 12) rfl rfl rfl (by decide) rfl ?_
    refine ev_aluvI f_X12_tellsMinutes (nx := 59) (w := 94) rfl rfl rfl (by decide) rfl ?_
    refine ev_ialdv f_X12_tellsMinutes (nx := 60) (j := 94) (w := 0) rfl (hW.s rfl) (by decide) (by decide) (by decide) (wi_70_94 (gi := gi) hR) rfl ?_
    refine ev_iastv f_X12_tellsMinutes (nx := 61) (j := 10) rfl (hW.s rfl) (by decide) (by decide) (by decide) rfl ?_
    refine ev_incv f_X12_tellsMinutes (nx := 64) (c := 1) (w := 5) (lo' := [(1, .int 5), (0, .ref 69)]) rfl rfl (by decide) (by decide) rfl rfl rfl ?_
    refine ev_jmp f_X12_tellsMinutes (nx := 35) rfl rfl rfl ?_
    refine ev_loc f_X12_tellsMinutes (nx := 36) rfl rfl rfl rfl ?_
    refine ev_bp f_X12_tellsMinutes (nx := 38) (v := 6) rfl (by decide) rfl ?_
    refine ev_f f_X12_tellsMinutes (t1 := 67) (t2 := 41) rfl rfl rfl (by decide) ?_
    refine ev_loc f_X12_tellsMinutes (nx := 42) rfl rfl rfl rfl ?_
    refine ev_getR f_X12_tellsMinutes (nx := 45) rfl (hW.s rfl) rfl rfl (hW.r rfl) rfl rfl ?_
    refine ev_bp f_X12_tellsMinutes (nx := 47) (v := 6) rfl (by decide) rfl ?_
    refine ev_loc f_X12_tellsMinutes (nx := 48) rfl rfl rfl rfl ?_
    refine ev_aluvI f_X12_tellsMinutes (nx := 49) (w := 11) rfl rfl rfl (by decide) rfl ?_
    refine ev_loc f_X12_tellsMinutes (nx := 50) rfl rfl rfl rfl ?_
    refine ev_getR f_X12_tellsMinutes (nx := 53) rfl (hW.s rfl) rfl rfl (hW.r rfl) rfl rfl ?_
    refine ev_bp f_X12_tellsMinutes (nx := 55) (v := 82) rfl (by decide) rfl ?_
    refine ev_ic f_X12_tellsMinutes (nx := 56) (v := 3) rfl (by decide) rfl ?_
    refine ev_loc f_X12_tellsMinutes (nx := 57) rfl rfl rfl rfl ?_
    refine ev_aluvI f_X12_tellsMinutes (nx := 58) (w := 15) rfl rfl rfl (by decide) rfl ?_
    refine ev_aluvI f_X12_tellsMinutes (nx := 59) (w := 97) rfl rfl rfl (by decide) rfl ?_
    refine ev_ialdv f_X12_tellsMinutes (nx := 60) (j := 97) (w := 0) rfl (hW.s rfl) (by decide) (by decide) (by decide) (wi_70_97 (gi := gi) hR) rfl ?_
    refine ev_iastv f_X12_tellsMinutes (nx := 61) (j := 11) rfl (hW.s rfl) (by decide) (by decide) (by decide) rfl ?_
    refine ev_incv f_X12_tellsMinutes (nx := 64) (c := 1) (w := 6) (lo' := [(1, .int 6), (0, .ref 69)]) rfl rfl (by decide) (by decide) rfl rfl rfl ?_
    refine ev_jmp f_X12_tellsMinutes (nx := 35) rfl rfl rfl ?_
    refine ev_loc f_X12_tellsMinutes (nx := 36) rfl rfl rfl rfl ?_
    refine ev_bp f_X12_tellsMinutes (nx := 38) (v := 6) rfl (by decide) rfl ?_
    refine ev_t f_X12_tellsMinutes (t1 := 67) (t2 := 41) rfl rfl rfl (by decide) ?_
    refine ev_retK0 f_X12_tellsMinutes rfl rfl rfl ?_
    refine ev_loc f_X12_nextCart (nx := 5) rfl rfl rfl rfl ?_
    refine ev_ic f_X12_nextCart (nx := 6) (v := 0) rfl (by decide) rfl ?_
    refine ev_inV2 f_X12_nextCart (nx := 9) (lo2 := [(0, .ref 69), (1, .int 0)]) rfl rfl rfl rfl f_X12_orders (hW.s rfl) rfl rfl rfl rfl rfl ?_
    refine ev_loc f_X12_orders (nx := 1) rfl rfl rfl rfl ?_
    refine ev_ic f_X12_orders (nx := 2) (v := 0) rfl (by decide) rfl ?_
    refine ev_putI f_X12_orders (nx := 5) rfl (hW.s rfl) rfl rfl rfl ?_
    refine ev_loc f_X12_orders (nx := 6) rfl rfl rfl rfl ?_
    refine ev_ic f_X12_orders (nx := 7) (v := 0) rfl (by decide) rfl ?_
    refine ev_putI f_X12_orders (nx := 10) rfl (hW.s rfl) rfl rfl rfl ?_
    refine ev_ic f_X12_orders (nx := 11) (v := 0) rfl (by decide) rfl ?_
    refine ev_loc f_X12_orders (nx := 12) (lo' := [(2, .int 0), (0, .ref 69), (1, .int 0)]) rfl rfl rfl rfl ?_
    refine ev_loc f_X12_orders (nx := 13) rfl rfl rfl rfl ?_
    refine ev_loc f_X12_orders (nx := 14) rfl rfl rfl rfl ?_
    refine ev_getR f_X12_orders (nx := 17) rfl (hW.s rfl) rfl rfl (hW.r rfl) rfl rfl ?_
    refine ev_ic f_X12_orders (nx := 18) (v := 1) rfl (by decide) rfl ?_
    refine ev_ialdv f_X12_orders (nx := 19) (j := 1) (w := 0) rfl (hW.s rfl) (by decide) (by decide) (by decide) (wi_70_1 (gi := gi) hR) rfl ?_
    refine ev_t f_X12_orders (t1 := 108) (t2 := 22) rfl rfl rfl (by decide) ?_
    refine ev_ic f_X12_orders (nx := 109) (v := 0) rfl (by decide) rfl ?_
    refine ev_loc f_X12_orders (nx := 110) (lo' := [(2, .int 0), (0, .ref 69), (1, .int 0)]) rfl rfl rfl rfl ?_
    refine ev_loc f_X12_orders (nx := 111) rfl rfl rfl rfl ?_
    refine ev_loc f_X12_orders (nx := 112) rfl rfl rfl rfl ?_
    refine ev_getR f_X12_orders (nx := 115) rfl (hW.s rfl) rfl rfl (hW.r rfl) rfl rfl ?_
    refine ev_ic f_X12_orders (nx := 116) (v := 2) rfl (by decide) rfl ?_
    refine ev_ialdv f_X12_orders (nx := 117) (j := 2) (w := 0) rfl (hW.s rfl) (by decide) (by decide) (by decide) (wi_70_2 (gi := gi) hR) rfl ?_
    refine ev_t f_X12_orders (t1 := 211) (t2 := 120) rfl rfl rfl (by decide) ?_
    refine ev_retK0 f_X12_orders rfl rfl rfl ?_
    refine ev_loc f_X12_nextCart (nx := 10) rfl rfl rfl rfl ?_
    refine ev_f f_X12_nextCart (t1 := 21) (t2 := 13) rfl rfl rfl (by rw [Int32.lt_iff_toInt_lt, (by decide : (0 : Int32).toInt = 0)]; omega) ?_
    refine ev_loc f_X12_nextCart (nx := 14) rfl rfl rfl rfl ?_
    refine ev_loc f_X12_nextCart (nx := 15) rfl rfl rfl rfl ?_
    refine ev_gvI f_X12_nextCart (nx := 18) (w := 0) rfl (hW.s rfl) rfl rfl rfl rfl ?_
    refine ev_f f_X12_nextCart (t1 := 30) (t2 := 21) rfl rfl rfl (by rw [Int32.lt_iff_toInt_lt, (by decide : (0 : Int32).toInt = 0)]; omega) ?_
    refine ev_loc f_X12_nextCart (nx := 22) rfl rfl rfl rfl ?_
    refine ev_bp f_X12_nextCart (nx := 24) (v := 6) rfl (by decide) rfl ?_
    refine ev_inV2 f_X12_nextCart (nx := 27) (lo2 := [(0, .ref 69), (1, .int 6)]) rfl rfl rfl rfl f_X12_refuse (hW.s rfl) rfl rfl rfl rfl rfl ?_
    refine ev_loc f_X12_refuse (nx := 1) rfl rfl rfl rfl ?_
    refine ev_loc f_X12_refuse (nx := 2) rfl rfl rfl rfl ?_
    refine ev_putI f_X12_refuse (nx := 5) rfl (hW.s rfl) rfl rfl rfl ?_
    refine ev_ic f_X12_refuse (nx := 6) (v := -1) rfl (by decide) rfl ?_
    refine ev_retK1 f_X12_refuse rfl rfl rfl ?_
    refine ev_jmp f_X12_nextCart (nx := 40) rfl rfl rfl ?_
    refine ev_retK1 f_X12_nextCart rfl rfl rfl ?_
    refine ev_t f_L_law (t1 := 1628) (t2 := 763) rfl rfl rfl (by decide) ?_
    refine ev_incv f_L_law (nx := 1631) (c := 6) (w := 6) (lo' := [(3, .int 6), (2, .ref 69), (1, .ref 0), (0, .retAddr 30)]) rfl rfl (by decide) (by decide) rfl rfl rfl ?_
    refine ev_jmp f_L_law (nx := 18) rfl rfl rfl ?_
    refine ev_loc f_L_law (nx := 19) rfl rfl rfl rfl ?_
    refine ev_loc f_L_law (nx := 20) rfl rfl rfl rfl ?_
    refine ev_alenX f_L_law (nx := 21) rfl hX rfl ?_
    refine ev_bp f_L_law (nx := 23) (v := 6) rfl (by decide) rfl ?_
    refine ev_aluvI f_L_law (nx := 24) (w := 0) rfl rfl rfl (by decide) rfl ?_
    refine ev_t f_L_law (t1 := 1634) (t2 := 27) rfl rfl rfl (by decide) ?_
    refine ev_ic f_L_law (nx := 1635) (v := 1) rfl (by decide) rfl ?_
    refine ev_ret f_L_law rfl rfl rfl ?_
    exact ⟨rfl, hz⟩
set_option maxRecDepth 20000 in
theorem pc_16 (hR : x_R W1 (sh, gi, gl, gr)) (hX : X.1 = 6) : x_Ev X 1000 n_L_law 765 [(3, .int 0), (2, .ref 69), (1, .ref 0), (0, .retAddr 30)] [] (sh, gi, gl, gr) x_P1 := by
  have hW := W1_WF hR
  have hz := W1_hz hR
  refine ev_loc f_L_law (nx := 766) rfl rfl rfl rfl ?_
  refine ev_loc f_L_law (nx := 767) rfl rfl rfl rfl ?_
  refine ev_loc f_L_law (nx := 768) rfl rfl rfl rfl ?_
  refine ev_ic f_L_law (nx := 769) (v := 1) rfl (by decide) rfl ?_
  refine ev_aluvI f_L_law (nx := 770) (w := 1) rfl rfl rfl (by decide) rfl ?_
  refine ev_scr f_L_law (nx := 771) (j := 1) rfl hX (by decide) (by decide) (by decide) rfl ?_
  refine ev_inV2 f_L_law (nx := 774) (lo2 := [(0, .ref 0), (1, .int ((X.2 1)))]) rfl rfl rfl rfl f_X11_sound (hW.s rfl) rfl rfl rfl rfl rfl ?_
  refine ev_loc f_X11_sound (nx := 1) rfl rfl rfl rfl ?_
  refine ev_loc f_X11_sound (nx := 2) rfl rfl rfl rfl ?_
  refine ev_inV2 f_X11_sound (nx := 5) (lo2 := [(0, .ref 0), (1, .int ((X.2 1)))]) rfl rfl rfl rfl f_X11_isPort (hW.s rfl) rfl rfl rfl rfl rfl ?_
  refine ev_loc f_X11_isPort (nx := 1) rfl rfl rfl rfl ?_
  refine ev_if f_X11_isPort (t1 := 19) (t2 := 4) rfl rfl rfl (fun h12 => ?_) (fun h12 => ?_)
  · have q12 := h12; rw [Int32.lt_iff_toInt_lt, (by decide : (0 : Int32).toInt = 0)] at q12
    refine ev_ic f_X11_isPort (nx := 20) (v := 0) rfl (by decide) rfl ?_
    refine ev_retK1 f_X11_isPort rfl rfl rfl ?_
    refine ev_t f_X11_sound (t1 := 24) (t2 := 8) rfl rfl rfl (by decide) ?_
    refine ev_loc f_X11_sound (nx := 25) rfl rfl rfl rfl ?_
    refine ev_ic f_X11_sound (nx := 26) (v := 1) rfl (by decide) rfl ?_
    refine ev_inV2 f_X11_sound (nx := 29) (lo2 := [(0, .ref 0), (1, .int 1)]) rfl rfl rfl rfl f_X11_refuse (hW.s rfl) rfl rfl rfl rfl rfl ?_
    refine ev_loc f_X11_refuse (nx := 1) rfl rfl rfl rfl ?_
    refine ev_loc f_X11_refuse (nx := 2) rfl rfl rfl rfl ?_
    refine ev_putI f_X11_refuse (nx := 5) rfl (hW.s rfl) rfl rfl rfl ?_
    refine ev_ic f_X11_refuse (nx := 6) (v := -1) rfl (by decide) rfl ?_
    refine ev_retK1 f_X11_refuse rfl rfl rfl ?_
    refine ev_aluvL f_X11_sound (nx := 30) (w := -1) rfl rfl rfl (by decide) rfl ?_
    refine ev_retK1 f_X11_sound rfl rfl rfl ?_
    refine ev_loc f_L_law (nx := 775) rfl rfl rfl rfl ?_
    refine ev_loc f_L_law (nx := 776) rfl rfl rfl rfl ?_
    refine ev_loc f_L_law (nx := 777) rfl rfl rfl rfl ?_
    refine ev_ic f_L_law (nx := 778) (v := 1) rfl (by decide) rfl ?_
    refine ev_aluvI f_L_law (nx := 779) (w := 1) rfl rfl rfl (by decide) rfl ?_
    refine ev_scr f_L_law (nx := 780) (j := 1) rfl hX (by decide) (by decide) (by decide) rfl ?_
    refine ev_inV2 f_L_law (nx := 783) (lo2 := [(0, .ref 69), (1, .int ((X.2 1)))]) rfl rfl rfl rfl f_X12_sound (hW.s rfl) rfl rfl rfl rfl rfl ?_
    refine ev_loc f_X12_sound (nx := 1) rfl rfl rfl rfl ?_
    refine ev_loc f_X12_sound (nx := 2) rfl rfl rfl rfl ?_
    refine ev_inV2 f_X12_sound (nx := 5) (lo2 := [(0, .ref 69), (1, .int ((X.2 1)))]) rfl rfl rfl rfl f_X12_isPort (hW.s rfl) rfl rfl rfl rfl rfl ?_
    refine ev_loc f_X12_isPort (nx := 1) rfl rfl rfl rfl ?_
    refine ev_t f_X12_isPort (t1 := 18) (t2 := 4) rfl rfl rfl (by rw [Int32.lt_iff_toInt_lt, (by decide : (0 : Int32).toInt = 0)]; omega) ?_
    refine ev_ic f_X12_isPort (nx := 19) (v := 0) rfl (by decide) rfl ?_
    refine ev_retK1 f_X12_isPort rfl rfl rfl ?_
    refine ev_t f_X12_sound (t1 := 20) (t2 := 8) rfl rfl rfl (by decide) ?_
    refine ev_loc f_X12_sound (nx := 21) rfl rfl rfl rfl ?_
    refine ev_ic f_X12_sound (nx := 22) (v := 1) rfl (by decide) rfl ?_
    refine ev_inV2 f_X12_sound (nx := 25) (lo2 := [(0, .ref 69), (1, .int 1)]) rfl rfl rfl rfl f_X12_refuse (hW.s rfl) rfl rfl rfl rfl rfl ?_
    refine ev_loc f_X12_refuse (nx := 1) rfl rfl rfl rfl ?_
    refine ev_loc f_X12_refuse (nx := 2) rfl rfl rfl rfl ?_
    refine ev_putI f_X12_refuse (nx := 5) rfl (hW.s rfl) rfl rfl rfl ?_
    refine ev_ic f_X12_refuse (nx := 6) (v := -1) rfl (by decide) rfl ?_
    refine ev_retK1 f_X12_refuse rfl rfl rfl ?_
    refine ev_aluvL f_X12_sound (nx := 26) (w := -1) rfl rfl rfl (by decide) rfl ?_
    refine ev_retK1 f_X12_sound rfl rfl rfl ?_
    refine ev_aluvI f_L_law (nx := 784) (w := 0) rfl rfl rfl (by decide) rfl ?_
    refine ev_t f_L_law (t1 := 1628) (t2 := 787) rfl rfl rfl (by decide) ?_
    refine ev_incv f_L_law (nx := 1631) (c := 6) (w := 6) (lo' := [(3, .int 6), (2, .ref 69), (1, .ref 0), (0, .retAddr 30)]) rfl rfl (by decide) (by decide) rfl rfl rfl ?_
    refine ev_jmp f_L_law (nx := 18) rfl rfl rfl ?_
    refine ev_loc f_L_law (nx := 19) rfl rfl rfl rfl ?_
    refine ev_loc f_L_law (nx := 20) rfl rfl rfl rfl ?_
    refine ev_alenX f_L_law (nx := 21) rfl hX rfl ?_
    refine ev_bp f_L_law (nx := 23) (v := 6) rfl (by decide) rfl ?_
    refine ev_aluvI f_L_law (nx := 24) (w := 0) rfl rfl rfl (by decide) rfl ?_
    refine ev_t f_L_law (t1 := 1634) (t2 := 27) rfl rfl rfl (by decide) ?_
    refine ev_ic f_L_law (nx := 1635) (v := 1) rfl (by decide) rfl ?_
    refine ev_ret f_L_law rfl rfl rfl ?_
    exact ⟨rfl, hz⟩
  · have q12 := h12; rw [Int32.lt_iff_toInt_lt, (by decide : (0 : Int32).toInt = 0)] at q12
    refine ev_loc f_X11_isPort (nx := 5) rfl rfl rfl rfl ?_
    refine ev_loc f_X11_isPort (nx := 6) rfl rfl rfl rfl ?_
    refine ev_getR f_X11_isPort (nx := 9) rfl (hW.s rfl) rfl rfl (wr_0_6 (gr := gr) hR) rfl rfl ?_
    refine ev_gvI f_X11_isPort (nx := 12) (w := 0) rfl (hW.s rfl) rfl rfl (wi_3_0 (gi := gi) hR) rfl ?_
    refine ev_t f_X11_isPort (t1 := 19) (t2 := 15) rfl rfl rfl (by rw [Int32.le_iff_toInt_le, (by decide : (0 : Int32).toInt = 0)]; omega) ?_
    refine ev_ic f_X11_isPort (nx := 20) (v := 0) rfl (by decide) rfl ?_
    refine ev_retK1 f_X11_isPort rfl rfl rfl ?_
    refine ev_t f_X11_sound (t1 := 24) (t2 := 8) rfl rfl rfl (by decide) ?_
    refine ev_loc f_X11_sound (nx := 25) rfl rfl rfl rfl ?_
    refine ev_ic f_X11_sound (nx := 26) (v := 1) rfl (by decide) rfl ?_
    refine ev_inV2 f_X11_sound (nx := 29) (lo2 := [(0, .ref 0), (1, .int 1)]) rfl rfl rfl rfl f_X11_refuse (hW.s rfl) rfl rfl rfl rfl rfl ?_
    refine ev_loc f_X11_refuse (nx := 1) rfl rfl rfl rfl ?_
    refine ev_loc f_X11_refuse (nx := 2) rfl rfl rfl rfl ?_
    refine ev_putI f_X11_refuse (nx := 5) rfl (hW.s rfl) rfl rfl rfl ?_
    refine ev_ic f_X11_refuse (nx := 6) (v := -1) rfl (by decide) rfl ?_
    refine ev_retK1 f_X11_refuse rfl rfl rfl ?_
    refine ev_aluvL f_X11_sound (nx := 30) (w := -1) rfl rfl rfl (by decide) rfl ?_
    refine ev_retK1 f_X11_sound rfl rfl rfl ?_
    refine ev_loc f_L_law (nx := 775) rfl rfl rfl rfl ?_
    refine ev_loc f_L_law (nx := 776) rfl rfl rfl rfl ?_
    refine ev_loc f_L_law (nx := 777) rfl rfl rfl rfl ?_
    refine ev_ic f_L_law (nx := 778) (v := 1) rfl (by decide) rfl ?_
    refine ev_aluvI f_L_law (nx := 779) (w := 1) rfl rfl rfl (by decide) rfl ?_
    refine ev_scr f_L_law (nx := 780) (j := 1) rfl hX (by decide) (by decide) (by decide) rfl ?_
    refine ev_inV2 f_L_law (nx := 783) (lo2 := [(0, .ref 69), (1, .int ((X.2 1)))]) rfl rfl rfl rfl f_X12_sound (hW.s rfl) rfl rfl rfl rfl rfl ?_
    refine ev_loc f_X12_sound (nx := 1) rfl rfl rfl rfl ?_
    refine ev_loc f_X12_sound (nx := 2) rfl rfl rfl rfl ?_
    refine ev_inV2 f_X12_sound (nx := 5) (lo2 := [(0, .ref 69), (1, .int ((X.2 1)))]) rfl rfl rfl rfl f_X12_isPort (hW.s rfl) rfl rfl rfl rfl rfl ?_
    refine ev_loc f_X12_isPort (nx := 1) rfl rfl rfl rfl ?_
    refine ev_f f_X12_isPort (t1 := 18) (t2 := 4) rfl rfl rfl (by rw [Int32.lt_iff_toInt_lt, (by decide : (0 : Int32).toInt = 0)]; omega) ?_
    refine ev_loc f_X12_isPort (nx := 5) rfl rfl rfl rfl ?_
    refine ev_loc f_X12_isPort (nx := 6) rfl rfl rfl rfl ?_
    refine ev_getR f_X12_isPort (nx := 9) rfl (hW.s rfl) rfl rfl (hW.r rfl) rfl rfl ?_
    refine ev_ic f_X12_isPort (nx := 10) (v := 0) rfl (by decide) rfl ?_
    refine ev_ialdv f_X12_isPort (nx := 11) (j := 0) (w := 0) rfl (hW.s rfl) (by decide) (by decide) (by decide) (wi_70_0 (gi := gi) hR) rfl ?_
    refine ev_t f_X12_isPort (t1 := 18) (t2 := 14) rfl rfl rfl (by rw [Int32.le_iff_toInt_le, (by decide : (0 : Int32).toInt = 0)]; omega) ?_
    refine ev_ic f_X12_isPort (nx := 19) (v := 0) rfl (by decide) rfl ?_
    refine ev_retK1 f_X12_isPort rfl rfl rfl ?_
    refine ev_t f_X12_sound (t1 := 20) (t2 := 8) rfl rfl rfl (by decide) ?_
    refine ev_loc f_X12_sound (nx := 21) rfl rfl rfl rfl ?_
    refine ev_ic f_X12_sound (nx := 22) (v := 1) rfl (by decide) rfl ?_
    refine ev_inV2 f_X12_sound (nx := 25) (lo2 := [(0, .ref 69), (1, .int 1)]) rfl rfl rfl rfl f_X12_refuse (hW.s rfl) rfl rfl rfl rfl rfl ?_
    refine ev_loc f_X12_refuse (nx := 1) rfl rfl rfl rfl ?_
    refine ev_loc f_X12_refuse (nx := 2) rfl rfl rfl rfl ?_
    refine ev_putI f_X12_refuse (nx := 5) rfl (hW.s rfl) rfl rfl rfl ?_
    refine ev_ic f_X12_refuse (nx := 6) (v := -1) rfl (by decide) rfl ?_
    refine ev_retK1 f_X12_refuse rfl rfl rfl ?_
    refine ev_aluvL f_X12_sound (nx := 26) (w := -1) rfl rfl rfl (by decide) rfl ?_
    refine ev_retK1 f_X12_sound rfl rfl rfl ?_
    refine ev_aluvI f_L_law (nx := 784) (w := 0) rfl rfl rfl (by decide) rfl ?_
    refine ev_t f_L_law (t1 := 1628) (t2 := 787) rfl rfl rfl (by decide) ?_
    refine ev_incv f_L_law (nx := 1631) (c := 6) (w := 6) (lo' := [(3, .int 6), (2, .ref 69), (1, .ref 0), (0, .retAddr 30)]) rfl rfl (by decide) (by decide) rfl rfl rfl ?_
    refine ev_jmp f_L_law (nx := 18) rfl rfl rfl ?_
    refine ev_loc f_L_law (nx := 19) rfl rfl rfl rfl ?_
    refine ev_loc f_L_law (nx := 20) rfl rfl rfl rfl ?_
    refine ev_alenX f_L_law (nx := 21) rfl hX rfl ?_
    refine ev_bp f_L_law (nx := 23) (v := 6) rfl (by decide) rfl ?_
    refine ev_aluvI f_L_law (nx := 24) (w := 0) rfl rfl rfl (by decide) rfl ?_
    refine ev_t f_L_law (t1 := 1634) (t2 := 27) rfl rfl rfl (by decide) ?_
    refine ev_ic f_L_law (nx := 1635) (v := 1) rfl (by decide) rfl ?_
    refine ev_ret f_L_law rfl rfl rfl ?_
    exact ⟨rfl, hz⟩
set_option maxRecDepth 20000 in
theorem pc_17 (hR : x_R W1 (sh, gi, gl, gr)) (hX : X.1 = 6) : x_Ev X 1000 n_L_law 789 [(3, .int 0), (2, .ref 69), (1, .ref 0), (0, .retAddr 30)] [] (sh, gi, gl, gr) x_P1 := by
  have hW := W1_WF hR
  have hz := W1_hz hR
  refine ev_loc f_L_law (nx := 790) rfl rfl rfl rfl ?_
  refine ev_loc f_L_law (nx := 791) rfl rfl rfl rfl ?_
  refine ev_loc f_L_law (nx := 792) rfl rfl rfl rfl ?_
  refine ev_ic f_L_law (nx := 793) (v := 1) rfl (by decide) rfl ?_
  refine ev_aluvI f_L_law (nx := 794) (w := 1) rfl rfl rfl (by decide) rfl ?_
  refine ev_scr f_L_law (nx := 795) (j := 1) rfl hX (by decide) (by decide) (by decide) rfl ?_
  refine ev_inV2 f_L_law (nx := 798) (lo2 := [(0, .ref 0), (1, .int ((X.2 1)))]) rfl rfl rfl rfl f_X11_heard (hW.s rfl) rfl rfl rfl rfl rfl ?_
  refine ev_loc f_X11_heard (nx := 1) rfl rfl rfl rfl ?_
  refine ev_loc f_X11_heard (nx := 2) rfl rfl rfl rfl ?_
  refine ev_inV2 f_X11_heard (nx := 5) (lo2 := [(0, .ref 0), (1, .int ((X.2 1)))]) rfl rfl rfl rfl f_X11_isPort (hW.s rfl) rfl rfl rfl rfl rfl ?_
  refine ev_loc f_X11_isPort (nx := 1) rfl rfl rfl rfl ?_
  refine ev_if f_X11_isPort (t1 := 19) (t2 := 4) rfl rfl rfl (fun h12 => ?_) (fun h12 => ?_)
  · have q12 := h12; rw [Int32.lt_iff_toInt_lt, (by decide : (0 : Int32).toInt = 0)] at q12
    refine ev_ic f_X11_isPort (nx := 20) (v := 0) rfl (by decide) rfl ?_
    refine ev_retK1 f_X11_isPort rfl rfl rfl ?_
    refine ev_t f_X11_heard (t1 := 23) (t2 := 8) rfl rfl rfl (by decide) ?_
    refine ev_loc f_X11_heard (nx := 24) rfl rfl rfl rfl ?_
    refine ev_ic f_X11_heard (nx := 25) (v := 1) rfl (by decide) rfl ?_
    refine ev_inV2 f_X11_heard (nx := 28) (lo2 := [(0, .ref 0), (1, .int 1)]) rfl rfl rfl rfl f_X11_refuse (hW.s rfl) rfl rfl rfl rfl rfl ?_
    refine ev_loc f_X11_refuse (nx := 1) rfl rfl rfl rfl ?_
    refine ev_loc f_X11_refuse (nx := 2) rfl rfl rfl rfl ?_
    refine ev_putI f_X11_refuse (nx := 5) rfl (hW.s rfl) rfl rfl rfl ?_
    refine ev_ic f_X11_refuse (nx := 6) (v := -1) rfl (by decide) rfl ?_
    refine ev_retK1 f_X11_refuse rfl rfl rfl ?_
    refine ev_aluvL f_X11_heard (nx := 29) (w := -1) rfl rfl rfl (by decide) rfl ?_
    refine ev_retK1 f_X11_heard rfl rfl rfl ?_
    refine ev_loc f_L_law (nx := 799) rfl rfl rfl rfl ?_
    refine ev_loc f_L_law (nx := 800) rfl rfl rfl rfl ?_
    refine ev_loc f_L_law (nx := 801) rfl rfl rfl rfl ?_
    refine ev_ic f_L_law (nx := 802) (v := 1) rfl (by decide) rfl ?_
    refine ev_aluvI f_L_law (nx := 803) (w := 1) rfl rfl rfl (by decide) rfl ?_
    refine ev_scr f_L_law (nx := 804) (j := 1) rfl hX (by decide) (by decide) (by decide) rfl ?_
    refine ev_inV2 f_L_law (nx := 807) (lo2 := [(0, .ref 69), (1, .int ((X.2 1)))]) rfl rfl rfl rfl f_X12_heard (hW.s rfl) rfl rfl rfl rfl rfl ?_
    refine ev_loc f_X12_heard (nx := 1) rfl rfl rfl rfl ?_
    refine ev_loc f_X12_heard (nx := 2) rfl rfl rfl rfl ?_
    refine ev_inV2 f_X12_heard (nx := 5) (lo2 := [(0, .ref 69), (1, .int ((X.2 1)))]) rfl rfl rfl rfl f_X12_isPort (hW.s rfl) rfl rfl rfl rfl rfl ?_
    refine ev_loc f_X12_isPort (nx := 1) rfl rfl rfl rfl ?_
    refine ev_t f_X12_isPort (t1 := 18) (t2 := 4) rfl rfl rfl (by rw [Int32.lt_iff_toInt_lt, (by decide : (0 : Int32).toInt = 0)]; omega) ?_
    refine ev_ic f_X12_isPort (nx := 19) (v := 0) rfl (by decide) rfl ?_
    refine ev_retK1 f_X12_isPort rfl rfl rfl ?_
    refine ev_t f_X12_heard (t1 := 20) (t2 := 8) rfl rfl rfl (by decide) ?_
    refine ev_loc f_X12_heard (nx := 21) rfl rfl rfl rfl ?_
    refine ev_ic f_X12_heard (nx := 22) (v := 1) rfl (by decide) rfl ?_
    refine ev_inV2 f_X12_heard (nx := 25) (lo2 := [(0, .ref 69), (1, .int 1)]) rfl rfl rfl rfl f_X12_refuse (hW.s rfl) rfl rfl rfl rfl rfl ?_
    refine ev_loc f_X12_refuse (nx := 1) rfl rfl rfl rfl ?_
    refine ev_loc f_X12_refuse (nx := 2) rfl rfl rfl rfl ?_
    refine ev_putI f_X12_refuse (nx := 5) rfl (hW.s rfl) rfl rfl rfl ?_
    refine ev_ic f_X12_refuse (nx := 6) (v := -1) rfl (by decide) rfl ?_
    refine ev_retK1 f_X12_refuse rfl rfl rfl ?_
    refine ev_aluvL f_X12_heard (nx := 26) (w := -1) rfl rfl rfl (by decide) rfl ?_
    refine ev_retK1 f_X12_heard rfl rfl rfl ?_
    refine ev_aluvI f_L_law (nx := 808) (w := 0) rfl rfl rfl (by decide) rfl ?_
    refine ev_t f_L_law (t1 := 1628) (t2 := 811) rfl rfl rfl (by decide) ?_
    refine ev_incv f_L_law (nx := 1631) (c := 6) (w := 6) (lo' := [(3, .int 6), (2, .ref 69), (1, .ref 0), (0, .retAddr 30)]) rfl rfl (by decide) (by decide) rfl rfl rfl ?_
    refine ev_jmp f_L_law (nx := 18) rfl rfl rfl ?_
    refine ev_loc f_L_law (nx := 19) rfl rfl rfl rfl ?_
    refine ev_loc f_L_law (nx := 20) rfl rfl rfl rfl ?_
    refine ev_alenX f_L_law (nx := 21) rfl hX rfl ?_
    refine ev_bp f_L_law (nx := 23) (v := 6) rfl (by decide) rfl ?_
    refine ev_aluvI f_L_law (nx := 24) (w := 0) rfl rfl rfl (by decide) rfl ?_
    refine ev_t f_L_law (t1 := 1634) (t2 := 27) rfl rfl rfl (by decide) ?_
    refine ev_ic f_L_law (nx := 1635) (v := 1) rfl (by decide) rfl ?_
    refine ev_ret f_L_law rfl rfl rfl ?_
    exact ⟨rfl, hz⟩
  · have q12 := h12; rw [Int32.lt_iff_toInt_lt, (by decide : (0 : Int32).toInt = 0)] at q12
    refine ev_loc f_X11_isPort (nx := 5) rfl rfl rfl rfl ?_
    refine ev_loc f_X11_isPort (nx := 6) rfl rfl rfl rfl ?_
    refine ev_getR f_X11_isPort (nx := 9) rfl (hW.s rfl) rfl rfl (wr_0_6 (gr := gr) hR) rfl rfl ?_
    refine ev_gvI f_X11_isPort (nx := 12) (w := 0) rfl (hW.s rfl) rfl rfl (wi_3_0 (gi := gi) hR) rfl ?_
    refine ev_t f_X11_isPort (t1 := 19) (t2 := 15) rfl rfl rfl (by rw [Int32.le_iff_toInt_le, (by decide : (0 : Int32).toInt = 0)]; omega) ?_
    refine ev_ic f_X11_isPort (nx := 20) (v := 0) rfl (by decide) rfl ?_
    refine ev_retK1 f_X11_isPort rfl rfl rfl ?_
    refine ev_t f_X11_heard (t1 := 23) (t2 := 8) rfl rfl rfl (by decide) ?_
    refine ev_loc f_X11_heard (nx := 24) rfl rfl rfl rfl ?_
    refine ev_ic f_X11_heard (nx := 25) (v := 1) rfl (by decide) rfl ?_
    refine ev_inV2 f_X11_heard (nx := 28) (lo2 := [(0, .ref 0), (1, .int 1)]) rfl rfl rfl rfl f_X11_refuse (hW.s rfl) rfl rfl rfl rfl rfl ?_
    refine ev_loc f_X11_refuse (nx := 1) rfl rfl rfl rfl ?_
    refine ev_loc f_X11_refuse (nx := 2) rfl rfl rfl rfl ?_
    refine ev_putI f_X11_refuse (nx := 5) rfl (hW.s rfl) rfl rfl rfl ?_
    refine ev_ic f_X11_refuse (nx := 6) (v := -1) rfl (by decide) rfl ?_
    refine ev_retK1 f_X11_refuse rfl rfl rfl ?_
    refine ev_aluvL f_X11_heard (nx := 29) (w := -1) rfl rfl rfl (by decide) rfl ?_
    refine ev_retK1 f_X11_heard rfl rfl rfl ?_
    refine ev_loc f_L_law (nx := 799) rfl rfl rfl rfl ?_
    refine ev_loc f_L_law (nx := 800) rfl rfl rfl rfl ?_
    refine ev_loc f_L_law (nx := 801) rfl rfl rfl rfl ?_
    refine ev_ic f_L_law (nx := 802) (v := 1) rfl (by decide) rfl ?_
    refine ev_aluvI f_L_law (nx := 803) (w := 1) rfl rfl rfl (by decide) rfl ?_
    refine ev_scr f_L_law (nx := 804) (j := 1) rfl hX (by decide) (by decide) (by decide) rfl ?_
    refine ev_inV2 f_L_law (nx := 807) (lo2 := [(0, .ref 69), (1, .int ((X.2 1)))]) rfl rfl rfl rfl f_X12_heard (hW.s rfl) rfl rfl rfl rfl rfl ?_
    refine ev_loc f_X12_heard (nx := 1) rfl rfl rfl rfl ?_
    refine ev_loc f_X12_heard (nx := 2) rfl rfl rfl rfl ?_
    refine ev_inV2 f_X12_heard (nx := 5) (lo2 := [(0, .ref 69), (1, .int ((X.2 1)))]) rfl rfl rfl rfl f_X12_isPort (hW.s rfl) rfl rfl rfl rfl rfl ?_
    refine ev_loc f_X12_isPort (nx := 1) rfl rfl rfl rfl ?_
    refine ev_f f_X12_isPort (t1 := 18) (t2 := 4) rfl rfl rfl (by rw [Int32.lt_iff_toInt_lt, (by decide : (0 : Int32).toInt = 0)]; omega) ?_
    refine ev_loc f_X12_isPort (nx := 5) rfl rfl rfl rfl ?_
    refine ev_loc f_X12_isPort (nx := 6) rfl rfl rfl rfl ?_
    refine ev_getR f_X12_isPort (nx := 9) rfl (hW.s rfl) rfl rfl (hW.r rfl) rfl rfl ?_
    refine ev_ic f_X12_isPort (nx := 10) (v := 0) rfl (by decide) rfl ?_
    refine ev_ialdv f_X12_isPort (nx := 11) (j := 0) (w := 0) rfl (hW.s rfl) (by decide) (by decide) (by decide) (wi_70_0 (gi := gi) hR) rfl ?_
    refine ev_t f_X12_isPort (t1 := 18) (t2 := 14) rfl rfl rfl (by rw [Int32.le_iff_toInt_le, (by decide : (0 : Int32).toInt = 0)]; omega) ?_
    refine ev_ic f_X12_isPort (nx := 19) (v := 0) rfl (by decide) rfl ?_
    refine ev_retK1 f_X12_isPort rfl rfl rfl ?_
    refine ev_t f_X12_heard (t1 := 20) (t2 := 8) rfl rfl rfl (by decide) ?_
    refine ev_loc f_X12_heard (nx := 21) rfl rfl rfl rfl ?_
    refine ev_ic f_X12_heard (nx := 22) (v := 1) rfl (by decide) rfl ?_
    refine ev_inV2 f_X12_heard (nx := 25) (lo2 := [(0, .ref 69), (1, .int 1)]) rfl rfl rfl rfl f_X12_refuse (hW.s rfl) rfl rfl rfl rfl rfl ?_
    refine ev_loc f_X12_refuse (nx := 1) rfl rfl rfl rfl ?_
    refine ev_loc f_X12_refuse (nx := 2) rfl rfl rfl rfl ?_
    refine ev_putI f_X12_refuse (nx := 5) rfl (hW.s rfl) rfl rfl rfl ?_
    refine ev_ic f_X12_refuse (nx := 6) (v := -1) rfl (by decide) rfl ?_
    refine ev_retK1 f_X12_refuse rfl rfl rfl ?_
    refine ev_aluvL f_X12_heard (nx := 26) (w := -1) rfl rfl rfl (by decide) rfl ?_
    refine ev_retK1 f_X12_heard rfl rfl rfl ?_
    refine ev_aluvI f_L_law (nx := 808) (w := 0) rfl rfl rfl (by decide) rfl ?_
    refine ev_t f_L_law (t1 := 1628) (t2 := 811) rfl rfl rfl (by decide) ?_
    refine ev_incv f_L_law (nx := 1631) (c := 6) (w := 6) (lo' := [(3, .int 6), (2, .ref 69), (1, .ref 0), (0, .retAddr 30)]) rfl rfl (by decide) (by decide) rfl rfl rfl ?_
    refine ev_jmp f_L_law (nx := 18) rfl rfl rfl ?_
    refine ev_loc f_L_law (nx := 19) rfl rfl rfl rfl ?_
    refine ev_loc f_L_law (nx := 20) rfl rfl rfl rfl ?_
    refine ev_alenX f_L_law (nx := 21) rfl hX rfl ?_
    refine ev_bp f_L_law (nx := 23) (v := 6) rfl (by decide) rfl ?_
    refine ev_aluvI f_L_law (nx := 24) (w := 0) rfl rfl rfl (by decide) rfl ?_
    refine ev_t f_L_law (t1 := 1634) (t2 := 27) rfl rfl rfl (by decide) ?_
    refine ev_ic f_L_law (nx := 1635) (v := 1) rfl (by decide) rfl ?_
    refine ev_ret f_L_law rfl rfl rfl ?_
    exact ⟨rfl, hz⟩
set_option maxRecDepth 20000 in
theorem pc_18 (hR : x_R W1 (sh, gi, gl, gr)) (hX : X.1 = 6) : x_Ev X 1000 n_L_law 813 [(3, .int 0), (2, .ref 69), (1, .ref 0), (0, .retAddr 30)] [] (sh, gi, gl, gr) x_P1 := by
  have hW := W1_WF hR
  have hz := W1_hz hR
  refine ev_loc f_L_law (nx := 814) rfl rfl rfl rfl ?_
  refine ev_loc f_L_law (nx := 815) rfl rfl rfl rfl ?_
  refine ev_loc f_L_law (nx := 816) rfl rfl rfl rfl ?_
  refine ev_ic f_L_law (nx := 817) (v := 1) rfl (by decide) rfl ?_
  refine ev_aluvI f_L_law (nx := 818) (w := 1) rfl rfl rfl (by decide) rfl ?_
  refine ev_scr f_L_law (nx := 819) (j := 1) rfl hX (by decide) (by decide) (by decide) rfl ?_
  refine ev_loc f_L_law (nx := 820) rfl rfl rfl rfl ?_
  refine ev_loc f_L_law (nx := 821) rfl rfl rfl rfl ?_
  refine ev_ic f_L_law (nx := 822) (v := 2) rfl (by decide) rfl ?_
  refine ev_aluvI f_L_law (nx := 823) (w := 2) rfl rfl rfl (by decide) rfl ?_
  refine ev_scr f_L_law (nx := 824) (j := 2) rfl hX (by decide) (by decide) (by decide) rfl ?_
  refine ev_loc f_L_law (nx := 825) rfl rfl rfl rfl ?_
  refine ev_loc f_L_law (nx := 826) rfl rfl rfl rfl ?_
  refine ev_ic f_L_law (nx := 827) (v := 3) rfl (by decide) rfl ?_
  refine ev_aluvI f_L_law (nx := 828) (w := 3) rfl rfl rfl (by decide) rfl ?_
  refine ev_scr f_L_law (nx := 829) (j := 3) rfl hX (by decide) (by decide) (by decide) rfl ?_
  refine ev_inV4 f_L_law (nx := 832) (lo2 := [(0, .ref 0), (1, .int ((X.2 1))), (2, .int ((X.2 2))), (3, .int ((X.2 3)))]) rfl rfl rfl rfl f_X11_together (hW.s rfl) rfl rfl rfl rfl rfl ?_
  refine ev_loc f_X11_together (nx := 1) rfl rfl rfl rfl ?_
  refine ev_loc f_X11_together (nx := 2) rfl rfl rfl rfl ?_
  refine ev_inV2 f_X11_together (nx := 5) (lo2 := [(0, .ref 0), (1, .int ((X.2 1)))]) rfl rfl rfl rfl f_X11_isPort (hW.s rfl) rfl rfl rfl rfl rfl ?_
  refine ev_loc f_X11_isPort (nx := 1) rfl rfl rfl rfl ?_
  refine ev_if f_X11_isPort (t1 := 19) (t2 := 4) rfl rfl rfl (fun h22 => ?_) (fun h22 => ?_)
  · have q22 := h22; rw [Int32.lt_iff_toInt_lt, (by decide : (0 : Int32).toInt = 0)] at q22
    refine ev_ic f_X11_isPort (nx := 20) (v := 0) rfl (by decide) rfl ?_
    refine ev_retK1 f_X11_isPort rfl rfl rfl ?_
    refine ev_t f_X11_together (t1 := 26) (t2 := 8) rfl rfl rfl (by decide) ?_
    refine ev_loc f_X11_together (nx := 27) rfl rfl rfl rfl ?_
    refine ev_ic f_X11_together (nx := 28) (v := 1) rfl (by decide) rfl ?_
    refine ev_inV2 f_X11_together (nx := 31) (lo2 := [(0, .ref 0), (1, .int 1)]) rfl rfl rfl rfl f_X11_refuse (hW.s rfl) rfl rfl rfl rfl rfl ?_
    refine ev_loc f_X11_refuse (nx := 1) rfl rfl rfl rfl ?_
    refine ev_loc f_X11_refuse (nx := 2) rfl rfl rfl rfl ?_
    refine ev_putI f_X11_refuse (nx := 5) rfl (hW.s rfl) rfl rfl rfl ?_
    refine ev_ic f_X11_refuse (nx := 6) (v := -1) rfl (by decide) rfl ?_
    refine ev_retK1 f_X11_refuse rfl rfl rfl ?_
    refine ev_aluvL f_X11_together (nx := 32) (w := -1) rfl rfl rfl (by decide) rfl ?_
    refine ev_retK1 f_X11_together rfl rfl rfl ?_
    refine ev_loc f_L_law (nx := 833) rfl rfl rfl rfl ?_
    refine ev_loc f_L_law (nx := 834) rfl rfl rfl rfl ?_
    refine ev_loc f_L_law (nx := 835) rfl rfl rfl rfl ?_
    refine ev_ic f_L_law (nx := 836) (v := 1) rfl (by decide) rfl ?_
    refine ev_aluvI f_L_law (nx := 837) (w := 1) rfl rfl rfl (by decide) rfl ?_
    refine ev_scr f_L_law (nx := 838) (j := 1) rfl hX (by decide) (by decide) (by decide) rfl ?_
    refine ev_loc f_L_law (nx := 839) rfl rfl rfl rfl ?_
    refine ev_loc f_L_law (nx := 840) rfl rfl rfl rfl ?_
    refine ev_ic f_L_law (nx := 841) (v := 2) rfl (by decide) rfl ?_
    refine ev_aluvI f_L_law (nx := 842) (w := 2) rfl rfl rfl (by decide) rfl ?_
    refine ev_scr f_L_law (nx := 843) (j := 2) rfl hX (by decide) (by decide) (by decide) rfl ?_
    refine ev_loc f_L_law (nx := 844) rfl rfl rfl rfl ?_
    refine ev_loc f_L_law (nx := 845) rfl rfl rfl rfl ?_
    refine ev_ic f_L_law (nx := 846) (v := 3) rfl (by decide) rfl ?_
    refine ev_aluvI f_L_law (nx := 847) (w := 3) rfl rfl rfl (by decide) rfl ?_
    refine ev_scr f_L_law (nx := 848) (j := 3) rfl hX (by decide) (by decide) (by decide) rfl ?_
    refine ev_inV4 f_L_law (nx := 851) (lo2 := [(0, .ref 69), (1, .int ((X.2 1))), (2, .int ((X.2 2))), (3, .int ((X.2 3)))]) rfl rfl rfl rfl f_X12_together (hW.s rfl) rfl rfl rfl rfl rfl ?_
    refine ev_loc f_X12_together (nx := 1) rfl rfl rfl rfl ?_
    refine ev_loc f_X12_together (nx := 2) rfl rfl rfl rfl ?_
    refine ev_inV2 f_X12_together (nx := 5) (lo2 := [(0, .ref 69), (1, .int ((X.2 1)))]) rfl rfl rfl rfl f_X12_isPort (hW.s rfl) rfl rfl rfl rfl rfl ?_
    refine ev_loc f_X12_isPort (nx := 1) rfl rfl rfl rfl ?_
    refine ev_t f_X12_isPort (t1 := 18) (t2 := 4) rfl rfl rfl (by rw [Int32.lt_iff_toInt_lt, (by decide : (0 : Int32).toInt = 0)]; omega) ?_
    refine ev_ic f_X12_isPort (nx := 19) (v := 0) rfl (by decide) rfl ?_
    refine ev_retK1 f_X12_isPort rfl rfl rfl ?_
    refine ev_t f_X12_together (t1 := 48) (t2 := 8) rfl rfl rfl (by decide) ?_
    refine ev_loc f_X12_together (nx := 49) rfl rfl rfl rfl ?_
    refine ev_ic f_X12_together (nx := 50) (v := 1) rfl (by decide) rfl ?_
    refine ev_inV2 f_X12_together (nx := 53) (lo2 := [(0, .ref 69), (1, .int 1)]) rfl rfl rfl rfl f_X12_refuse (hW.s rfl) rfl rfl rfl rfl rfl ?_
    refine ev_loc f_X12_refuse (nx := 1) rfl rfl rfl rfl ?_
    refine ev_loc f_X12_refuse (nx := 2) rfl rfl rfl rfl ?_
    refine ev_putI f_X12_refuse (nx := 5) rfl (hW.s rfl) rfl rfl rfl ?_
    refine ev_ic f_X12_refuse (nx := 6) (v := -1) rfl (by decide) rfl ?_
    refine ev_retK1 f_X12_refuse rfl rfl rfl ?_
    refine ev_aluvL f_X12_together (nx := 54) (w := -1) rfl rfl rfl (by decide) rfl ?_
    refine ev_retK1 f_X12_together rfl rfl rfl ?_
    refine ev_aluvI f_L_law (nx := 852) (w := 0) rfl rfl rfl (by decide) rfl ?_
    refine ev_t f_L_law (t1 := 1628) (t2 := 855) rfl rfl rfl (by decide) ?_
    refine ev_incv f_L_law (nx := 1631) (c := 6) (w := 6) (lo' := [(3, .int 6), (2, .ref 69), (1, .ref 0), (0, .retAddr 30)]) rfl rfl (by decide) (by decide) rfl rfl rfl ?_
    refine ev_jmp f_L_law (nx := 18) rfl rfl rfl ?_
    refine ev_loc f_L_law (nx := 19) rfl rfl rfl rfl ?_
    refine ev_loc f_L_law (nx := 20) rfl rfl rfl rfl ?_
    refine ev_alenX f_L_law (nx := 21) rfl hX rfl ?_
    refine ev_bp f_L_law (nx := 23) (v := 6) rfl (by decide) rfl ?_
    refine ev_aluvI f_L_law (nx := 24) (w := 0) rfl rfl rfl (by decide) rfl ?_
    refine ev_t f_L_law (t1 := 1634) (t2 := 27) rfl rfl rfl (by decide) ?_
    refine ev_ic f_L_law (nx := 1635) (v := 1) rfl (by decide) rfl ?_
    refine ev_ret f_L_law rfl rfl rfl ?_
    exact ⟨rfl, hz⟩
  · have q22 := h22; rw [Int32.lt_iff_toInt_lt, (by decide : (0 : Int32).toInt = 0)] at q22
    refine ev_loc f_X11_isPort (nx := 5) rfl rfl rfl rfl ?_
    refine ev_loc f_X11_isPort (nx := 6) rfl rfl rfl rfl ?_
    refine ev_getR f_X11_isPort (nx := 9) rfl (hW.s rfl) rfl rfl (wr_0_6 (gr := gr) hR) rfl rfl ?_
    refine ev_gvI f_X11_isPort (nx := 12) (w := 0) rfl (hW.s rfl) rfl rfl (wi_3_0 (gi := gi) hR) rfl ?_
    refine ev_t f_X11_isPort (t1 := 19) (t2 := 15) rfl rfl rfl (by rw [Int32.le_iff_toInt_le, (by decide : (0 : Int32).toInt = 0)]; omega) ?_
    refine ev_ic f_X11_isPort (nx := 20) (v := 0) rfl (by decide) rfl ?_
    refine ev_retK1 f_X11_isPort rfl rfl rfl ?_
    refine ev_t f_X11_together (t1 := 26) (t2 := 8) rfl rfl rfl (by decide) ?_
    refine ev_loc f_X11_together (nx := 27) rfl rfl rfl rfl ?_
    refine ev_ic f_X11_together (nx := 28) (v := 1) rfl (by decide) rfl ?_
    refine ev_inV2 f_X11_together (nx := 31) (lo2 := [(0, .ref 0), (1, .int 1)]) rfl rfl rfl rfl f_X11_refuse (hW.s rfl) rfl rfl rfl rfl rfl ?_
    refine ev_loc f_X11_refuse (nx := 1) rfl rfl rfl rfl ?_
    refine ev_loc f_X11_refuse (nx := 2) rfl rfl rfl rfl ?_
    refine ev_putI f_X11_refuse (nx := 5) rfl (hW.s rfl) rfl rfl rfl ?_
    refine ev_ic f_X11_refuse (nx := 6) (v := -1) rfl (by decide) rfl ?_
    refine ev_retK1 f_X11_refuse rfl rfl rfl ?_
    refine ev_aluvL f_X11_together (nx := 32) (w := -1) rfl rfl rfl (by decide) rfl ?_
    refine ev_retK1 f_X11_together rfl rfl rfl ?_
    refine ev_loc f_L_law (nx := 833) rfl rfl rfl rfl ?_
    refine ev_loc f_L_law (nx := 834) rfl rfl rfl rfl ?_
    refine ev_loc f_L_law (nx := 835) rfl rfl rfl rfl ?_
    refine ev_ic f_L_law (nx := 836) (v := 1) rfl (by decide) rfl ?_
    refine ev_aluvI f_L_law (nx := 837) (w := 1) rfl rfl rfl (by decide) rfl ?_
    refine ev_scr f_L_law (nx := 838) (j := 1) rfl hX (by decide) (by decide) (by decide) rfl ?_
    refine ev_loc f_L_law (nx := 839) rfl rfl rfl rfl ?_
    refine ev_loc f_L_law (nx := 840) rfl rfl rfl rfl ?_
    refine ev_ic f_L_law (nx := 841) (v := 2) rfl (by decide) rfl ?_
    refine ev_aluvI f_L_law (nx := 842) (w := 2) rfl rfl rfl (by decide) rfl ?_
    refine ev_scr f_L_law (nx := 843) (j := 2) rfl hX (by decide) (by decide) (by decide) rfl ?_
    refine ev_loc f_L_law (nx := 844) rfl rfl rfl rfl ?_
    refine ev_loc f_L_law (nx := 845) rfl rfl rfl rfl ?_
    refine ev_ic f_L_law (nx := 846) (v := 3) rfl (by decide) rfl ?_
    refine ev_aluvI f_L_law (nx := 847) (w := 3) rfl rfl rfl (by decide) rfl ?_
    refine ev_scr f_L_law (nx := 848) (j := 3) rfl hX (by decide) (by decide) (by decide) rfl ?_
    refine ev_inV4 f_L_law (nx := 851) (lo2 := [(0, .ref 69), (1, .int ((X.2 1))), (2, .int ((X.2 2))), (3, .int ((X.2 3)))]) rfl rfl rfl rfl f_X12_together (hW.s rfl) rfl rfl rfl rfl rfl ?_
    refine ev_loc f_X12_together (nx := 1) rfl rfl rfl rfl ?_
    refine ev_loc f_X12_together (nx := 2) rfl rfl rfl rfl ?_
    refine ev_inV2 f_X12_together (nx := 5) (lo2 := [(0, .ref 69), (1, .int ((X.2 1)))]) rfl rfl rfl rfl f_X12_isPort (hW.s rfl) rfl rfl rfl rfl rfl ?_
    refine ev_loc f_X12_isPort (nx := 1) rfl rfl rfl rfl ?_
    refine ev_f f_X12_isPort (t1 := 18) (t2 := 4) rfl rfl rfl (by rw [Int32.lt_iff_toInt_lt, (by decide : (0 : Int32).toInt = 0)]; omega) ?_
    refine ev_loc f_X12_isPort (nx := 5) rfl rfl rfl rfl ?_
    refine ev_loc f_X12_isPort (nx := 6) rfl rfl rfl rfl ?_
    refine ev_getR f_X12_isPort (nx := 9) rfl (hW.s rfl) rfl rfl (hW.r rfl) rfl rfl ?_
    refine ev_ic f_X12_isPort (nx := 10) (v := 0) rfl (by decide) rfl ?_
    refine ev_ialdv f_X12_isPort (nx := 11) (j := 0) (w := 0) rfl (hW.s rfl) (by decide) (by decide) (by decide) (wi_70_0 (gi := gi) hR) rfl ?_
    refine ev_t f_X12_isPort (t1 := 18) (t2 := 14) rfl rfl rfl (by rw [Int32.le_iff_toInt_le, (by decide : (0 : Int32).toInt = 0)]; omega) ?_
    refine ev_ic f_X12_isPort (nx := 19) (v := 0) rfl (by decide) rfl ?_
    refine ev_retK1 f_X12_isPort rfl rfl rfl ?_
    refine ev_t f_X12_together (t1 := 48) (t2 := 8) rfl rfl rfl (by decide) ?_
    refine ev_loc f_X12_together (nx := 49) rfl rfl rfl rfl ?_
    refine ev_ic f_X12_together (nx := 50) (v := 1) rfl (by decide) rfl ?_
    refine ev_inV2 f_X12_together (nx := 53) (lo2 := [(0, .ref 69), (1, .int 1)]) rfl rfl rfl rfl f_X12_refuse (hW.s rfl) rfl rfl rfl rfl rfl ?_
    refine ev_loc f_X12_refuse (nx := 1) rfl rfl rfl rfl ?_
    refine ev_loc f_X12_refuse (nx := 2) rfl rfl rfl rfl ?_
    refine ev_putI f_X12_refuse (nx := 5) rfl (hW.s rfl) rfl rfl rfl ?_
    refine ev_ic f_X12_refuse (nx := 6) (v := -1) rfl (by decide) rfl ?_
    refine ev_retK1 f_X12_refuse rfl rfl rfl ?_
    refine ev_aluvL f_X12_together (nx := 54) (w := -1) rfl rfl rfl (by decide) rfl ?_
    refine ev_retK1 f_X12_together rfl rfl rfl ?_
    refine ev_aluvI f_L_law (nx := 852) (w := 0) rfl rfl rfl (by decide) rfl ?_
    refine ev_t f_L_law (t1 := 1628) (t2 := 855) rfl rfl rfl (by decide) ?_
    refine ev_incv f_L_law (nx := 1631) (c := 6) (w := 6) (lo' := [(3, .int 6), (2, .ref 69), (1, .ref 0), (0, .retAddr 30)]) rfl rfl (by decide) (by decide) rfl rfl rfl ?_
    refine ev_jmp f_L_law (nx := 18) rfl rfl rfl ?_
    refine ev_loc f_L_law (nx := 19) rfl rfl rfl rfl ?_
    refine ev_loc f_L_law (nx := 20) rfl rfl rfl rfl ?_
    refine ev_alenX f_L_law (nx := 21) rfl hX rfl ?_
    refine ev_bp f_L_law (nx := 23) (v := 6) rfl (by decide) rfl ?_
    refine ev_aluvI f_L_law (nx := 24) (w := 0) rfl rfl rfl (by decide) rfl ?_
    refine ev_t f_L_law (t1 := 1634) (t2 := 27) rfl rfl rfl (by decide) ?_
    refine ev_ic f_L_law (nx := 1635) (v := 1) rfl (by decide) rfl ?_
    refine ev_ret f_L_law rfl rfl rfl ?_
    exact ⟨rfl, hz⟩
set_option maxRecDepth 20000 in
theorem pc_19 (hR : x_R W1 (sh, gi, gl, gr)) (hX : X.1 = 6) : x_Ev X 1000 n_L_law 857 [(3, .int 0), (2, .ref 69), (1, .ref 0), (0, .retAddr 30)] [] (sh, gi, gl, gr) x_P1 := by
  have hW := W1_WF hR
  have hz := W1_hz hR
  refine ev_loc f_L_law (nx := 858) rfl rfl rfl rfl ?_
  refine ev_loc f_L_law (nx := 859) rfl rfl rfl rfl ?_
  refine ev_loc f_L_law (nx := 860) rfl rfl rfl rfl ?_
  refine ev_ic f_L_law (nx := 861) (v := 1) rfl (by decide) rfl ?_
  refine ev_aluvI f_L_law (nx := 862) (w := 1) rfl rfl rfl (by decide) rfl ?_
  refine ev_scr f_L_law (nx := 863) (j := 1) rfl hX (by decide) (by decide) (by decide) rfl ?_
  refine ev_inV2 f_L_law (nx := 866) (lo2 := [(0, .ref 0), (1, .int ((X.2 1)))]) rfl rfl rfl rfl f_X11_lasts (hW.s rfl) rfl rfl rfl rfl rfl ?_
  refine ev_loc f_X11_lasts (nx := 1) rfl rfl rfl rfl ?_
  refine ev_loc f_X11_lasts (nx := 2) rfl rfl rfl rfl ?_
  refine ev_inV2 f_X11_lasts (nx := 5) (lo2 := [(0, .ref 0), (1, .int ((X.2 1)))]) rfl rfl rfl rfl f_X11_isPort (hW.s rfl) rfl rfl rfl rfl rfl ?_
  refine ev_loc f_X11_isPort (nx := 1) rfl rfl rfl rfl ?_
  refine ev_if f_X11_isPort (t1 := 19) (t2 := 4) rfl rfl rfl (fun h12 => ?_) (fun h12 => ?_)
  · have q12 := h12; rw [Int32.lt_iff_toInt_lt, (by decide : (0 : Int32).toInt = 0)] at q12
    refine ev_ic f_X11_isPort (nx := 20) (v := 0) rfl (by decide) rfl ?_
    refine ev_retK1 f_X11_isPort rfl rfl rfl ?_
    refine ev_t f_X11_lasts (t1 := 8) (t2 := 14) rfl rfl rfl (by decide) ?_
    refine ev_loc f_X11_lasts (nx := 9) rfl rfl rfl rfl ?_
    refine ev_ic f_X11_lasts (nx := 10) (v := 1) rfl (by decide) rfl ?_
    refine ev_inV2 f_X11_lasts (nx := 13) (lo2 := [(0, .ref 0), (1, .int 1)]) rfl rfl rfl rfl f_X11_refuse (hW.s rfl) rfl rfl rfl rfl rfl ?_
    refine ev_loc f_X11_refuse (nx := 1) rfl rfl rfl rfl ?_
    refine ev_loc f_X11_refuse (nx := 2) rfl rfl rfl rfl ?_
    refine ev_putI f_X11_refuse (nx := 5) rfl (hW.s rfl) rfl rfl rfl ?_
    refine ev_ic f_X11_refuse (nx := 6) (v := -1) rfl (by decide) rfl ?_
    refine ev_retK1 f_X11_refuse rfl rfl rfl ?_
    refine ev_retK1 f_X11_lasts rfl rfl rfl ?_
    refine ev_loc f_L_law (nx := 867) rfl rfl rfl rfl ?_
    refine ev_loc f_L_law (nx := 868) rfl rfl rfl rfl ?_
    refine ev_loc f_L_law (nx := 869) rfl rfl rfl rfl ?_
    refine ev_ic f_L_law (nx := 870) (v := 1) rfl (by decide) rfl ?_
    refine ev_aluvI f_L_law (nx := 871) (w := 1) rfl rfl rfl (by decide) rfl ?_
    refine ev_scr f_L_law (nx := 872) (j := 1) rfl hX (by decide) (by decide) (by decide) rfl ?_
    refine ev_inV2 f_L_law (nx := 875) (lo2 := [(0, .ref 69), (1, .int ((X.2 1)))]) rfl rfl rfl rfl f_X12_lasts (hW.s rfl) rfl rfl rfl rfl rfl ?_
    refine ev_loc f_X12_lasts (nx := 1) rfl rfl rfl rfl ?_
    refine ev_loc f_X12_lasts (nx := 2) rfl rfl rfl rfl ?_
    refine ev_inV2 f_X12_lasts (nx := 5) (lo2 := [(0, .ref 69), (1, .int ((X.2 1)))]) rfl rfl rfl rfl f_X12_isPort (hW.s rfl) rfl rfl rfl rfl rfl ?_
    refine ev_loc f_X12_isPort (nx := 1) rfl rfl rfl rfl ?_
    refine ev_t f_X12_isPort (t1 := 18) (t2 := 4) rfl rfl rfl (by rw [Int32.lt_iff_toInt_lt, (by decide : (0 : Int32).toInt = 0)]; omega) ?_
    refine ev_ic f_X12_isPort (nx := 19) (v := 0) rfl (by decide) rfl ?_
    refine ev_retK1 f_X12_isPort rfl rfl rfl ?_
    refine ev_t f_X12_lasts (t1 := 8) (t2 := 14) rfl rfl rfl (by decide) ?_
    refine ev_loc f_X12_lasts (nx := 9) rfl rfl rfl rfl ?_
    refine ev_ic f_X12_lasts (nx := 10) (v := 1) rfl (by decide) rfl ?_
    refine ev_inV2 f_X12_lasts (nx := 13) (lo2 := [(0, .ref 69), (1, .int 1)]) rfl rfl rfl rfl f_X12_refuse (hW.s rfl) rfl rfl rfl rfl rfl ?_
    refine ev_loc f_X12_refuse (nx := 1) rfl rfl rfl rfl ?_
    refine ev_loc f_X12_refuse (nx := 2) rfl rfl rfl rfl ?_
    refine ev_putI f_X12_refuse (nx := 5) rfl (hW.s rfl) rfl rfl rfl ?_
    refine ev_ic f_X12_refuse (nx := 6) (v := -1) rfl (by decide) rfl ?_
    refine ev_retK1 f_X12_refuse rfl rfl rfl ?_
    refine ev_retK1 f_X12_lasts rfl rfl rfl ?_
    refine ev_t f_L_law (t1 := 1628) (t2 := 878) rfl rfl rfl (by decide) ?_
    refine ev_incv f_L_law (nx := 1631) (c := 6) (w := 6) (lo' := [(3, .int 6), (2, .ref 69), (1, .ref 0), (0, .retAddr 30)]) rfl rfl (by decide) (by decide) rfl rfl rfl ?_
    refine ev_jmp f_L_law (nx := 18) rfl rfl rfl ?_
    refine ev_loc f_L_law (nx := 19) rfl rfl rfl rfl ?_
    refine ev_loc f_L_law (nx := 20) rfl rfl rfl rfl ?_
    refine ev_alenX f_L_law (nx := 21) rfl hX rfl ?_
    refine ev_bp f_L_law (nx := 23) (v := 6) rfl (by decide) rfl ?_
    refine ev_aluvI f_L_law (nx := 24) (w := 0) rfl rfl rfl (by decide) rfl ?_
    refine ev_t f_L_law (t1 := 1634) (t2 := 27) rfl rfl rfl (by decide) ?_
    refine ev_ic f_L_law (nx := 1635) (v := 1) rfl (by decide) rfl ?_
    refine ev_ret f_L_law rfl rfl rfl ?_
    exact ⟨rfl, hz⟩
  · have q12 := h12; rw [Int32.lt_iff_toInt_lt, (by decide : (0 : Int32).toInt = 0)] at q12
    refine ev_loc f_X11_isPort (nx := 5) rfl rfl rfl rfl ?_
    refine ev_loc f_X11_isPort (nx := 6) rfl rfl rfl rfl ?_
    refine ev_getR f_X11_isPort (nx := 9) rfl (hW.s rfl) rfl rfl (wr_0_6 (gr := gr) hR) rfl rfl ?_
    refine ev_gvI f_X11_isPort (nx := 12) (w := 0) rfl (hW.s rfl) rfl rfl (wi_3_0 (gi := gi) hR) rfl ?_
    refine ev_t f_X11_isPort (t1 := 19) (t2 := 15) rfl rfl rfl (by rw [Int32.le_iff_toInt_le, (by decide : (0 : Int32).toInt = 0)]; omega) ?_
    refine ev_ic f_X11_isPort (nx := 20) (v := 0) rfl (by decide) rfl ?_
    refine ev_retK1 f_X11_isPort rfl rfl rfl ?_
    refine ev_t f_X11_lasts (t1 := 8) (t2 := 14) rfl rfl rfl (by decide) ?_
    refine ev_loc f_X11_lasts (nx := 9) rfl rfl rfl rfl ?_
    refine ev_ic f_X11_lasts (nx := 10) (v := 1) rfl (by decide) rfl ?_
    refine ev_inV2 f_X11_lasts (nx := 13) (lo2 := [(0, .ref 0), (1, .int 1)]) rfl rfl rfl rfl f_X11_refuse (hW.s rfl) rfl rfl rfl rfl rfl ?_
    refine ev_loc f_X11_refuse (nx := 1) rfl rfl rfl rfl ?_
    refine ev_loc f_X11_refuse (nx := 2) rfl rfl rfl rfl ?_
    refine ev_putI f_X11_refuse (nx := 5) rfl (hW.s rfl) rfl rfl rfl ?_
    refine ev_ic f_X11_refuse (nx := 6) (v := -1) rfl (by decide) rfl ?_
    refine ev_retK1 f_X11_refuse rfl rfl rfl ?_
    refine ev_retK1 f_X11_lasts rfl rfl rfl ?_
    refine ev_loc f_L_law (nx := 867) rfl rfl rfl rfl ?_
    refine ev_loc f_L_law (nx := 868) rfl rfl rfl rfl ?_
    refine ev_loc f_L_law (nx := 869) rfl rfl rfl rfl ?_
    refine ev_ic f_L_law (nx := 870) (v := 1) rfl (by decide) rfl ?_
    refine ev_aluvI f_L_law (nx := 871) (w := 1) rfl rfl rfl (by decide) rfl ?_
    refine ev_scr f_L_law (nx := 872) (j := 1) rfl hX (by decide) (by decide) (by decide) rfl ?_
    refine ev_inV2 f_L_law (nx := 875) (lo2 := [(0, .ref 69), (1, .int ((X.2 1)))]) rfl rfl rfl rfl f_X12_lasts (hW.s rfl) rfl rfl rfl rfl rfl ?_
    refine ev_loc f_X12_lasts (nx := 1) rfl rfl rfl rfl ?_
    refine ev_loc f_X12_lasts (nx := 2) rfl rfl rfl rfl ?_
    refine ev_inV2 f_X12_lasts (nx := 5) (lo2 := [(0, .ref 69), (1, .int ((X.2 1)))]) rfl rfl rfl rfl f_X12_isPort (hW.s rfl) rfl rfl rfl rfl rfl ?_
    refine ev_loc f_X12_isPort (nx := 1) rfl rfl rfl rfl ?_
    refine ev_f f_X12_isPort (t1 := 18) (t2 := 4) rfl rfl rfl (by rw [Int32.lt_iff_toInt_lt, (by decide : (0 : Int32).toInt = 0)]; omega) ?_
    refine ev_loc f_X12_isPort (nx := 5) rfl rfl rfl rfl ?_
    refine ev_loc f_X12_isPort (nx := 6) rfl rfl rfl rfl ?_
    refine ev_getR f_X12_isPort (nx := 9) rfl (hW.s rfl) rfl rfl (hW.r rfl) rfl rfl ?_
    refine ev_ic f_X12_isPort (nx := 10) (v := 0) rfl (by decide) rfl ?_
    refine ev_ialdv f_X12_isPort (nx := 11) (j := 0) (w := 0) rfl (hW.s rfl) (by decide) (by decide) (by decide) (wi_70_0 (gi := gi) hR) rfl ?_
    refine ev_t f_X12_isPort (t1 := 18) (t2 := 14) rfl rfl rfl (by rw [Int32.le_iff_toInt_le, (by decide : (0 : Int32).toInt = 0)]; omega) ?_
    refine ev_ic f_X12_isPort (nx := 19) (v := 0) rfl (by decide) rfl ?_
    refine ev_retK1 f_X12_isPort rfl rfl rfl ?_
    refine ev_t f_X12_lasts (t1 := 8) (t2 := 14) rfl rfl rfl (by decide) ?_
    refine ev_loc f_X12_lasts (nx := 9) rfl rfl rfl rfl ?_
    refine ev_ic f_X12_lasts (nx := 10) (v := 1) rfl (by decide) rfl ?_
    refine ev_inV2 f_X12_lasts (nx := 13) (lo2 := [(0, .ref 69), (1, .int 1)]) rfl rfl rfl rfl f_X12_refuse (hW.s rfl) rfl rfl rfl rfl rfl ?_
    refine ev_loc f_X12_refuse (nx := 1) rfl rfl rfl rfl ?_
    refine ev_loc f_X12_refuse (nx := 2) rfl rfl rfl rfl ?_
    refine ev_putI f_X12_refuse (nx := 5) rfl (hW.s rfl) rfl rfl rfl ?_
    refine ev_ic f_X12_refuse (nx := 6) (v := -1) rfl (by decide) rfl ?_
    refine ev_retK1 f_X12_refuse rfl rfl rfl ?_
    refine ev_retK1 f_X12_lasts rfl rfl rfl ?_
    refine ev_t f_L_law (t1 := 1628) (t2 := 878) rfl rfl rfl (by decide) ?_
    refine ev_incv f_L_law (nx := 1631) (c := 6) (w := 6) (lo' := [(3, .int 6), (2, .ref 69), (1, .ref 0), (0, .retAddr 30)]) rfl rfl (by decide) (by decide) rfl rfl rfl ?_
    refine ev_jmp f_L_law (nx := 18) rfl rfl rfl ?_
    refine ev_loc f_L_law (nx := 19) rfl rfl rfl rfl ?_
    refine ev_loc f_L_law (nx := 20) rfl rfl rfl rfl ?_
    refine ev_alenX f_L_law (nx := 21) rfl hX rfl ?_
    refine ev_bp f_L_law (nx := 23) (v := 6) rfl (by decide) rfl ?_
    refine ev_aluvI f_L_law (nx := 24) (w := 0) rfl rfl rfl (by decide) rfl ?_
    refine ev_t f_L_law (t1 := 1634) (t2 := 27) rfl rfl rfl (by decide) ?_
    refine ev_ic f_L_law (nx := 1635) (v := 1) rfl (by decide) rfl ?_
    refine ev_ret f_L_law rfl rfl rfl ?_
    exact ⟨rfl, hz⟩
set_option maxRecDepth 20000 in
theorem pc_20 (hR : x_R W1 (sh, gi, gl, gr)) (hX : X.1 = 6) : x_Ev X 1000 n_L_law 880 [(3, .int 0), (2, .ref 69), (1, .ref 0), (0, .retAddr 30)] [] (sh, gi, gl, gr) x_P1 := by
  have hW := W1_WF hR
  have hz := W1_hz hR
  refine ev_loc f_L_law (nx := 881) rfl rfl rfl rfl ?_
  refine ev_loc f_L_law (nx := 882) rfl rfl rfl rfl ?_
  refine ev_loc f_L_law (nx := 883) rfl rfl rfl rfl ?_
  refine ev_ic f_L_law (nx := 884) (v := 1) rfl (by decide) rfl ?_
  refine ev_aluvI f_L_law (nx := 885) (w := 1) rfl rfl rfl (by decide) rfl ?_
  refine ev_scr f_L_law (nx := 886) (j := 1) rfl hX (by decide) (by decide) (by decide) rfl ?_
  refine ev_loc f_L_law (nx := 887) rfl rfl rfl rfl ?_
  refine ev_loc f_L_law (nx := 888) rfl rfl rfl rfl ?_
  refine ev_ic f_L_law (nx := 889) (v := 2) rfl (by decide) rfl ?_
  refine ev_aluvI f_L_law (nx := 890) (w := 2) rfl rfl rfl (by decide) rfl ?_
  refine ev_scr f_L_law (nx := 891) (j := 2) rfl hX (by decide) (by decide) (by decide) rfl ?_
  refine ev_inV3 f_L_law (nx := 894) (lo2 := [(0, .ref 0), (1, .int ((X.2 1))), (2, .int ((X.2 2)))]) rfl rfl rfl rfl f_X11_far (hW.s rfl) rfl rfl rfl rfl rfl ?_
  refine ev_loc f_X11_far (nx := 1) rfl rfl rfl rfl ?_
  refine ev_loc f_X11_far (nx := 2) rfl rfl rfl rfl ?_
  refine ev_inV2 f_X11_far (nx := 5) (lo2 := [(0, .ref 0), (1, .int ((X.2 1)))]) rfl rfl rfl rfl f_X11_isPort (hW.s rfl) rfl rfl rfl rfl rfl ?_
  refine ev_loc f_X11_isPort (nx := 1) rfl rfl rfl rfl ?_
  refine ev_if f_X11_isPort (t1 := 19) (t2 := 4) rfl rfl rfl (fun h17 => ?_) (fun h17 => ?_)
  · have q17 := h17; rw [Int32.lt_iff_toInt_lt, (by decide : (0 : Int32).toInt = 0)] at q17
    refine ev_ic f_X11_isPort (nx := 20) (v := 0) rfl (by decide) rfl ?_
    refine ev_retK1 f_X11_isPort rfl rfl rfl ?_
    refine ev_t f_X11_far (t1 := 16) (t2 := 8) rfl rfl rfl (by decide) ?_
    refine ev_loc f_X11_far (nx := 17) rfl rfl rfl rfl ?_
    refine ev_ic f_X11_far (nx := 18) (v := 1) rfl (by decide) rfl ?_
    refine ev_inV2 f_X11_far (nx := 21) (lo2 := [(0, .ref 0), (1, .int 1)]) rfl rfl rfl rfl f_X11_refuse (hW.s rfl) rfl rfl rfl rfl rfl ?_
    refine ev_loc f_X11_refuse (nx := 1) rfl rfl rfl rfl ?_
    refine ev_loc f_X11_refuse (nx := 2) rfl rfl rfl rfl ?_
    refine ev_putI f_X11_refuse (nx := 5) rfl (hW.s rfl) rfl rfl rfl ?_
    refine ev_ic f_X11_refuse (nx := 6) (v := -1) rfl (by decide) rfl ?_
    refine ev_retK1 f_X11_refuse rfl rfl rfl ?_
    refine ev_retK1 f_X11_far rfl rfl rfl ?_
    refine ev_loc f_L_law (nx := 895) rfl rfl rfl rfl ?_
    refine ev_loc f_L_law (nx := 896) rfl rfl rfl rfl ?_
    refine ev_loc f_L_law (nx := 897) rfl rfl rfl rfl ?_
    refine ev_ic f_L_law (nx := 898) (v := 1) rfl (by decide) rfl ?_
    refine ev_aluvI f_L_law (nx := 899) (w := 1) rfl rfl rfl (by decide) rfl ?_
    refine ev_scr f_L_law (nx := 900) (j := 1) rfl hX (by decide) (by decide) (by decide) rfl ?_
    refine ev_loc f_L_law (nx := 901) rfl rfl rfl rfl ?_
    refine ev_loc f_L_law (nx := 902) rfl rfl rfl rfl ?_
    refine ev_ic f_L_law (nx := 903) (v := 2) rfl (by decide) rfl ?_
    refine ev_aluvI f_L_law (nx := 904) (w := 2) rfl rfl rfl (by decide) rfl ?_
    refine ev_scr f_L_law (nx := 905) (j := 2) rfl hX (by decide) (by decide) (by decide) rfl ?_
    refine ev_inV3 f_L_law (nx := 908) (lo2 := [(0, .ref 69), (1, .int ((X.2 1))), (2, .int ((X.2 2)))]) rfl rfl rfl rfl f_X12_far (hW.s rfl) rfl rfl rfl rfl rfl ?_
    refine ev_loc f_X12_far (nx := 1) rfl rfl rfl rfl ?_
    refine ev_loc f_X12_far (nx := 2) rfl rfl rfl rfl ?_
    refine ev_inV2 f_X12_far (nx := 5) (lo2 := [(0, .ref 69), (1, .int ((X.2 1)))]) rfl rfl rfl rfl f_X12_isPort (hW.s rfl) rfl rfl rfl rfl rfl ?_
    refine ev_loc f_X12_isPort (nx := 1) rfl rfl rfl rfl ?_
    refine ev_t f_X12_isPort (t1 := 18) (t2 := 4) rfl rfl rfl (by rw [Int32.lt_iff_toInt_lt, (by decide : (0 : Int32).toInt = 0)]; omega) ?_
    refine ev_ic f_X12_isPort (nx := 19) (v := 0) rfl (by decide) rfl ?_
    refine ev_retK1 f_X12_isPort rfl rfl rfl ?_
    refine ev_t f_X12_far (t1 := 37) (t2 := 8) rfl rfl rfl (by decide) ?_
    refine ev_loc f_X12_far (nx := 38) rfl rfl rfl rfl ?_
    refine ev_ic f_X12_far (nx := 39) (v := 1) rfl (by decide) rfl ?_
    refine ev_inV2 f_X12_far (nx := 42) (lo2 := [(0, .ref 69), (1, .int 1)]) rfl rfl rfl rfl f_X12_refuse (hW.s rfl) rfl rfl rfl rfl rfl ?_
    refine ev_loc f_X12_refuse (nx := 1) rfl rfl rfl rfl ?_
    refine ev_loc f_X12_refuse (nx := 2) rfl rfl rfl rfl ?_
    refine ev_putI f_X12_refuse (nx := 5) rfl (hW.s rfl) rfl rfl rfl ?_
    refine ev_ic f_X12_refuse (nx := 6) (v := -1) rfl (by decide) rfl ?_
    refine ev_retK1 f_X12_refuse rfl rfl rfl ?_
    refine ev_retK1 f_X12_far rfl rfl rfl ?_
    refine ev_t f_L_law (t1 := 1628) (t2 := 911) rfl rfl rfl (by decide) ?_
    refine ev_incv f_L_law (nx := 1631) (c := 6) (w := 6) (lo' := [(3, .int 6), (2, .ref 69), (1, .ref 0), (0, .retAddr 30)]) rfl rfl (by decide) (by decide) rfl rfl rfl ?_
    refine ev_jmp f_L_law (nx := 18) rfl rfl rfl ?_
    refine ev_loc f_L_law (nx := 19) rfl rfl rfl rfl ?_
    refine ev_loc f_L_law (nx := 20) rfl rfl rfl rfl ?_
    refine ev_alenX f_L_law (nx := 21) rfl hX rfl ?_
    refine ev_bp f_L_law (nx := 23) (v := 6) rfl (by decide) rfl ?_
    refine ev_aluvI f_L_law (nx := 24) (w := 0) rfl rfl rfl (by decide) rfl ?_
    refine ev_t f_L_law (t1 := 1634) (t2 := 27) rfl rfl rfl (by decide) ?_
    refine ev_ic f_L_law (nx := 1635) (v := 1) rfl (by decide) rfl ?_
    refine ev_ret f_L_law rfl rfl rfl ?_
    exact ⟨rfl, hz⟩
  · have q17 := h17; rw [Int32.lt_iff_toInt_lt, (by decide : (0 : Int32).toInt = 0)] at q17
    refine ev_loc f_X11_isPort (nx := 5) rfl rfl rfl rfl ?_
    refine ev_loc f_X11_isPort (nx := 6) rfl rfl rfl rfl ?_
    refine ev_getR f_X11_isPort (nx := 9) rfl (hW.s rfl) rfl rfl (wr_0_6 (gr := gr) hR) rfl rfl ?_
    refine ev_gvI f_X11_isPort (nx := 12) (w := 0) rfl (hW.s rfl) rfl rfl (wi_3_0 (gi := gi) hR) rfl ?_
    refine ev_t f_X11_isPort (t1 := 19) (t2 := 15) rfl rfl rfl (by rw [Int32.le_iff_toInt_le, (by decide : (0 : Int32).toInt = 0)]; omega) ?_
    refine ev_ic f_X11_isPort (nx := 20) (v := 0) rfl (by decide) rfl ?_
    refine ev_retK1 f_X11_isPort rfl rfl rfl ?_
    refine ev_t f_X11_far (t1 := 16) (t2 := 8) rfl rfl rfl (by decide) ?_
    refine ev_loc f_X11_far (nx := 17) rfl rfl rfl rfl ?_
    refine ev_ic f_X11_far (nx := 18) (v := 1) rfl (by decide) rfl ?_
    refine ev_inV2 f_X11_far (nx := 21) (lo2 := [(0, .ref 0), (1, .int 1)]) rfl rfl rfl rfl f_X11_refuse (hW.s rfl) rfl rfl rfl rfl rfl ?_
    refine ev_loc f_X11_refuse (nx := 1) rfl rfl rfl rfl ?_
    refine ev_loc f_X11_refuse (nx := 2) rfl rfl rfl rfl ?_
    refine ev_putI f_X11_refuse (nx := 5) rfl (hW.s rfl) rfl rfl rfl ?_
    refine ev_ic f_X11_refuse (nx := 6) (v := -1) rfl (by decide) rfl ?_
    refine ev_retK1 f_X11_refuse rfl rfl rfl ?_
    refine ev_retK1 f_X11_far rfl rfl rfl ?_
    refine ev_loc f_L_law (nx := 895) rfl rfl rfl rfl ?_
    refine ev_loc f_L_law (nx := 896) rfl rfl rfl rfl ?_
    refine ev_loc f_L_law (nx := 897) rfl rfl rfl rfl ?_
    refine ev_ic f_L_law (nx := 898) (v := 1) rfl (by decide) rfl ?_
    refine ev_aluvI f_L_law (nx := 899) (w := 1) rfl rfl rfl (by decide) rfl ?_
    refine ev_scr f_L_law (nx := 900) (j := 1) rfl hX (by decide) (by decide) (by decide) rfl ?_
    refine ev_loc f_L_law (nx := 901) rfl rfl rfl rfl ?_
    refine ev_loc f_L_law (nx := 902) rfl rfl rfl rfl ?_
    refine ev_ic f_L_law (nx := 903) (v := 2) rfl (by decide) rfl ?_
    refine ev_aluvI f_L_law (nx := 904) (w := 2) rfl rfl rfl (by decide) rfl ?_
    refine ev_scr f_L_law (nx := 905) (j := 2) rfl hX (by decide) (by decide) (by decide) rfl ?_
    refine ev_inV3 f_L_law (nx := 908) (lo2 := [(0, .ref 69), (1, .int ((X.2 1))), (2, .int ((X.2 2)))]) rfl rfl rfl rfl f_X12_far (hW.s rfl) rfl rfl rfl rfl rfl ?_
    refine ev_loc f_X12_far (nx := 1) rfl rfl rfl rfl ?_
    refine ev_loc f_X12_far (nx := 2) rfl rfl rfl rfl ?_
    refine ev_inV2 f_X12_far (nx := 5) (lo2 := [(0, .ref 69), (1, .int ((X.2 1)))]) rfl rfl rfl rfl f_X12_isPort (hW.s rfl) rfl rfl rfl rfl rfl ?_
    refine ev_loc f_X12_isPort (nx := 1) rfl rfl rfl rfl ?_
    refine ev_f f_X12_isPort (t1 := 18) (t2 := 4) rfl rfl rfl (by rw [Int32.lt_iff_toInt_lt, (by decide : (0 : Int32).toInt = 0)]; omega) ?_
    refine ev_loc f_X12_isPort (nx := 5) rfl rfl rfl rfl ?_
    refine ev_loc f_X12_isPort (nx := 6) rfl rfl rfl rfl ?_
    refine ev_getR f_X12_isPort (nx := 9) rfl (hW.s rfl) rfl rfl (hW.r rfl) rfl rfl ?_
    refine ev_ic f_X12_isPort (nx := 10) (v := 0) rfl (by decide) rfl ?_
    refine ev_ialdv f_X12_isPort (nx := 11) (j := 0) (w := 0) rfl (hW.s rfl) (by decide) (by decide) (by decide) (wi_70_0 (gi := gi) hR) rfl ?_
    refine ev_t f_X12_isPort (t1 := 18) (t2 := 14) rfl rfl rfl (by rw [Int32.le_iff_toInt_le, (by decide : (0 : Int32).toInt = 0)]; omega) ?_
    refine ev_ic f_X12_isPort (nx := 19) (v := 0) rfl (by decide) rfl ?_
    refine ev_retK1 f_X12_isPort rfl rfl rfl ?_
    refine ev_t f_X12_far (t1 := 37) (t2 := 8) rfl rfl rfl (by decide) ?_
    refine ev_loc f_X12_far (nx := 38) rfl rfl rfl rfl ?_
    refine ev_ic f_X12_far (nx := 39) (v := 1) rfl (by decide) rfl ?_
    refine ev_inV2 f_X12_far (nx := 42) (lo2 := [(0, .ref 69), (1, .int 1)]) rfl rfl rfl rfl f_X12_refuse (hW.s rfl) rfl rfl rfl rfl rfl ?_
    refine ev_loc f_X12_refuse (nx := 1) rfl rfl rfl rfl ?_
    refine ev_loc f_X12_refuse (nx := 2) rfl rfl rfl rfl ?_
    refine ev_putI f_X12_refuse (nx := 5) rfl (hW.s rfl) rfl rfl rfl ?_
    refine ev_ic f_X12_refuse (nx := 6) (v := -1) rfl (by decide) rfl ?_
    refine ev_retK1 f_X12_refuse rfl rfl rfl ?_
    refine ev_retK1 f_X12_far rfl rfl rfl ?_
    refine ev_t f_L_law (t1 := 1628) (t2 := 911) rfl rfl rfl (by decide) ?_
    refine ev_incv f_L_law (nx := 1631) (c := 6) (w := 6) (lo' := [(3, .int 6), (2, .ref 69), (1, .ref 0), (0, .retAddr 30)]) rfl rfl (by decide) (by decide) rfl rfl rfl ?_
    refine ev_jmp f_L_law (nx := 18) rfl rfl rfl ?_
    refine ev_loc f_L_law (nx := 19) rfl rfl rfl rfl ?_
    refine ev_loc f_L_law (nx := 20) rfl rfl rfl rfl ?_
    refine ev_alenX f_L_law (nx := 21) rfl hX rfl ?_
    refine ev_bp f_L_law (nx := 23) (v := 6) rfl (by decide) rfl ?_
    refine ev_aluvI f_L_law (nx := 24) (w := 0) rfl rfl rfl (by decide) rfl ?_
    refine ev_t f_L_law (t1 := 1634) (t2 := 27) rfl rfl rfl (by decide) ?_
    refine ev_ic f_L_law (nx := 1635) (v := 1) rfl (by decide) rfl ?_
    refine ev_ret f_L_law rfl rfl rfl ?_
    exact ⟨rfl, hz⟩
set_option maxRecDepth 20000 in
theorem pc_21 (hR : x_R W1 (sh, gi, gl, gr)) (hX : X.1 = 6) : x_Ev X 1000 n_L_law 913 [(3, .int 0), (2, .ref 69), (1, .ref 0), (0, .retAddr 30)] [] (sh, gi, gl, gr) x_P1 := by
  have hW := W1_WF hR
  have hz := W1_hz hR
  refine ev_loc f_L_law (nx := 914) rfl rfl rfl rfl ?_
  refine ev_loc f_L_law (nx := 915) rfl rfl rfl rfl ?_
  refine ev_loc f_L_law (nx := 916) rfl rfl rfl rfl ?_
  refine ev_ic f_L_law (nx := 917) (v := 1) rfl (by decide) rfl ?_
  refine ev_aluvI f_L_law (nx := 918) (w := 1) rfl rfl rfl (by decide) rfl ?_
  refine ev_scr f_L_law (nx := 919) (j := 1) rfl hX (by decide) (by decide) (by decide) rfl ?_
  refine ev_alu f_L_law (nx := 920) rfl rfl rfl rfl ?_
  refine ev_bp f_L_law (nx := 922) (v := 32) rfl (by decide) rfl ?_
  refine ev_alu f_L_law (nx := 923) rfl rfl rfl rfl ?_
  refine ev_loc f_L_law (nx := 924) rfl rfl rfl rfl ?_
  refine ev_loc f_L_law (nx := 925) rfl rfl rfl rfl ?_
  refine ev_ic f_L_law (nx := 926) (v := 2) rfl (by decide) rfl ?_
  refine ev_aluvI f_L_law (nx := 927) (w := 2) rfl rfl rfl (by decide) rfl ?_
  refine ev_scr f_L_law (nx := 928) (j := 2) rfl hX (by decide) (by decide) (by decide) rfl ?_
  refine ev_alu f_L_law (nx := 929) rfl rfl rfl rfl ?_
  refine ev_ldL f_L_law (nx := 932) (v := 4294967295) rfl (by decide) rfl ?_
  refine ev_alu f_L_law (nx := 933) rfl rfl rfl rfl ?_
  refine ev_alu f_L_law (nx := 934) rfl rfl rfl rfl ?_
  refine ev_inV2 f_L_law (nx := 937) (lo2 := [(0, .ref 0), (1, .long (((((X.2 1) : Int32).toInt64 <<< ((32 : Int32).toInt64 &&& 63)) ||| (((X.2 2) : Int32).toInt64 &&& 4294967295))))]) rfl rfl rfl rfl f_X11_readings (hW.s rfl) rfl rfl rfl rfl rfl ?_
  refine ev_loc f_X11_readings (nx := 1) rfl rfl rfl rfl ?_
  refine ev_lc f_X11_readings (nx := 2) (v := 1) rfl (by decide) rfl ?_
  refine ev_alu f_X11_readings (nx := 3) rfl rfl rfl rfl ?_
  refine ev_if f_X11_readings (t1 := 12) (t2 := 6) rfl rfl rfl (fun h23 => ?_) (fun h23 => ?_)
  · refine ev_loc f_X11_readings (nx := 13) rfl rfl rfl rfl ?_
    refine ev_ic f_X11_readings (nx := 14) (v := 0) rfl (by decide) rfl ?_
    refine ev_putI f_X11_readings (nx := 17) rfl (hW.s rfl) rfl rfl rfl ?_
    refine ev_ic f_X11_readings (nx := 18) (v := 0) rfl (by decide) rfl ?_
    refine ev_loc f_X11_readings (nx := 19) (lo' := [(3, .int 0), (0, .ref 0), (1, .long (((((X.2 1) : Int32).toInt64 <<< ((32 : Int32).toInt64 &&& 63)) ||| (((X.2 2) : Int32).toInt64 &&& 4294967295))))]) rfl rfl rfl rfl ?_
    refine ev_loc f_X11_readings (nx := 20) rfl rfl rfl rfl ?_
    refine ev_loc f_X11_readings (nx := 21) rfl rfl rfl rfl ?_
    refine ev_getR f_X11_readings (nx := 24) rfl (hW.s rfl) rfl rfl (wr_0_6 (gr := gr) hR) rfl rfl ?_
    refine ev_gvI f_X11_readings (nx := 27) (w := 0) rfl (hW.s rfl) rfl rfl (wi_3_0 (gi := gi) hR) rfl ?_
    refine ev_t f_X11_readings (t1 := 57) (t2 := 30) rfl rfl rfl (by decide) ?_
    refine ev_ic f_X11_readings (nx := 58) (v := 0) rfl (by decide) rfl ?_
    refine ev_loc f_X11_readings (nx := 59) (lo' := [(3, .int 0), (0, .ref 0), (1, .long (((((X.2 1) : Int32).toInt64 <<< ((32 : Int32).toInt64 &&& 63)) ||| (((X.2 2) : Int32).toInt64 &&& 4294967295))))]) rfl rfl rfl rfl ?_
    refine ev_loc f_X11_readings (nx := 60) rfl rfl rfl rfl ?_
    refine ev_loc f_X11_readings (nx := 61) rfl rfl rfl rfl ?_
    refine ev_getR f_X11_readings (nx := 64) rfl (hW.s rfl) rfl rfl (wr_0_6 (gr := gr) hR) rfl rfl ?_
    refine ev_gvI f_X11_readings (nx := 67) (w := 0) rfl (hW.s rfl) rfl rfl (wi_3_0 (gi := gi) hR) rfl ?_
    refine ev_t f_X11_readings (t1 := 148) (t2 := 70) rfl rfl rfl (by decide) ?_
    refine ev_loc f_X11_readings (nx := 149) rfl rfl rfl rfl ?_
    refine ev_loc f_X11_readings (nx := 150) rfl rfl rfl rfl ?_
    refine ev_gvI f_X11_readings (nx := 153) (w := 0) rfl (hW.s rfl) rfl rfl rfl rfl ?_
    refine ev_inV2 f_X11_readings (nx := 156) (lo2 := [(0, .ref 0), (1, .int 0)]) rfl rfl rfl rfl f_X11_answer (hW.s rfl) rfl rfl rfl rfl rfl ?_
    refine ev_loc f_X11_answer (nx := 1) rfl rfl rfl rfl ?_
    refine ev_ic f_X11_answer (nx := 2) (v := 0) rfl (by decide) rfl ?_
    refine ev_putI f_X11_answer (nx := 5) rfl (hW.s rfl) rfl rfl rfl ?_
    refine ev_loc f_X11_answer (nx := 6) rfl rfl rfl rfl ?_
    refine ev_retK1 f_X11_answer rfl rfl rfl ?_
    refine ev_retK1 f_X11_readings rfl rfl rfl ?_
    refine ev_loc f_L_law (nx := 938) rfl rfl rfl rfl ?_
    refine ev_loc f_L_law (nx := 939) rfl rfl rfl rfl ?_
    refine ev_loc f_L_law (nx := 940) rfl rfl rfl rfl ?_
    refine ev_ic f_L_law (nx := 941) (v := 1) rfl (by decide) rfl ?_
    refine ev_aluvI f_L_law (nx := 942) (w := 1) rfl rfl rfl (by decide) rfl ?_
    refine ev_scr f_L_law (nx := 943) (j := 1) rfl hX (by decide) (by decide) (by decide) rfl ?_
    refine ev_alu f_L_law (nx := 944) rfl rfl rfl rfl ?_
    refine ev_bp f_L_law (nx := 946) (v := 32) rfl (by decide) rfl ?_
    refine ev_alu f_L_law (nx := 947) rfl rfl rfl rfl ?_
    refine ev_loc f_L_law (nx := 948) rfl rfl rfl rfl ?_
    refine ev_loc f_L_law (nx := 949) rfl rfl rfl rfl ?_
    refine ev_ic f_L_law (nx := 950) (v := 2) rfl (by decide) rfl ?_
    refine ev_aluvI f_L_law (nx := 951) (w := 2) rfl rfl rfl (by decide) rfl ?_
    refine ev_scr f_L_law (nx := 952) (j := 2) rfl hX (by decide) (by decide) (by decide) rfl ?_
    refine ev_alu f_L_law (nx := 953) rfl rfl rfl rfl ?_
    refine ev_ldL f_L_law (nx := 956) (v := 4294967295) rfl (by decide) rfl ?_
    refine ev_alu f_L_law (nx := 957) rfl rfl rfl rfl ?_
    refine ev_alu f_L_law (nx := 958) rfl rfl rfl rfl ?_
    refine ev_inV2 f_L_law (nx := 961) (lo2 := [(0, .ref 69), (1, .long (((((X.2 1) : Int32).toInt64 <<< ((32 : Int32).toInt64 &&& 63)) ||| (((X.2 2) : Int32).toInt64 &&& 4294967295))))]) rfl rfl rfl rfl f_X12_readings (hW.s rfl) rfl rfl rfl rfl rfl ?_
    refine ev_loc f_X12_readings (nx := 1) rfl rfl rfl rfl ?_
    refine ev_lc f_X12_readings (nx := 2) (v := 1) rfl (by decide) rfl ?_
    refine ev_alu f_X12_readings (nx := 3) rfl rfl rfl rfl ?_
    refine ev_t f_X12_readings (t1 := 12) (t2 := 6) rfl rfl rfl h23 ?_
    refine ev_loc f_X12_readings (nx := 13) rfl rfl rfl rfl ?_
    refine ev_loc f_X12_readings (nx := 14) rfl rfl rfl rfl ?_
    refine ev_inV2 f_X12_readings (nx := 17) (lo2 := [(0, .ref 69), (1, .long (((((X.2 1) : Int32).toInt64 <<< ((32 : Int32).toInt64 &&& 63)) ||| (((X.2 2) : Int32).toInt64 &&& 4294967295))))]) rfl rfl rfl rfl f_X12_findsReadings (hW.s rfl) rfl rfl rfl rfl rfl ?_
    refine ev_loc f_X12_findsReadings (nx := 1) rfl rfl rfl rfl ?_
    refine ev_ic f_X12_findsReadings (nx := 2) (v := 0) rfl (by decide) rfl ?_
    refine ev_putI f_X12_findsReadings (nx := 5) rfl (hW.s rfl) rfl rfl rfl ?_
    refine ev_loc f_X12_findsReadings (nx := 6) rfl rfl rfl rfl ?_
    refine ev_getR f_X12_findsReadings (nx := 9) rfl (hW.s rfl) rfl rfl (hW.r rfl) rfl rfl ?_
    refine ev_ic f_X12_findsReadings (nx := 10) (v := 0) rfl (by decide) rfl ?_
    refine ev_ialdv f_X12_findsReadings (nx := 11) (j := 0) (w := 0) rfl (hW.s rfl) (by decide) (by decide) (by decide) (wi_70_0 (gi := gi) hR) rfl ?_
    refine ev_loc f_X12_findsReadings (nx := 12) (lo' := [(3, .int 0), (0, .ref 69), (1, .long (((((X.2 1) : Int32).toInt64 <<< ((32 : Int32).toInt64 &&& 63)) ||| (((X.2 2) : Int32).toInt64 &&& 4294967295))))]) rfl rfl rfl rfl ?_
    refine ev_ic f_X12_findsReadings (nx := 13) (v := 0) rfl (by decide) rfl ?_
    refine ev_loc f_X12_findsReadings (nx := 15) (lo' := [(4, .int 0), (3, .int 0), (0, .ref 69), (1, .long (((((X.2 1) : Int32).toInt64 <<< ((32 : Int32).toInt64 &&& 63)) ||| (((X.2 2) : Int32).toInt64 &&& 4294967295))))]) rfl rfl rfl rfl ?_
    refine ev_loc f_X12_findsReadings (nx := 17) rfl rfl rfl rfl ?_
    refine ev_loc f_X12_findsReadings (nx := 18) rfl rfl rfl rfl ?_
    refine ev_t f_X12_findsReadings (t1 := 46) (t2 := 21) rfl rfl rfl (by decide) ?_
    refine ev_ic f_X12_findsReadings (nx := 47) (v := 0) rfl (by decide) rfl ?_
    refine ev_loc f_X12_findsReadings (nx := 49) (lo' := [(4, .int 0), (3, .int 0), (0, .ref 69), (1, .long (((((X.2 1) : Int32).toInt64 <<< ((32 : Int32).toInt64 &&& 63)) ||| (((X.2 2) : Int32).toInt64 &&& 4294967295))))]) rfl rfl rfl rfl ?_
    refine ev_loc f_X12_findsReadings (nx := 51) rfl rfl rfl rfl ?_
    refine ev_loc f_X12_findsReadings (nx := 52) rfl rfl rfl rfl ?_
    refine ev_t f_X12_findsReadings (t1 := 134) (t2 := 55) rfl rfl rfl (by decide) ?_
    refine ev_retK0 f_X12_findsReadings rfl rfl rfl ?_
    refine ev_ic f_X12_readings (nx := 18) (v := 0) rfl (by decide) rfl ?_
    refine ev_loc f_X12_readings (nx := 19) (lo' := [(3, .int 0), (0, .ref 69), (1, .long (((((X.2 1) : Int32).toInt64 <<< ((32 : Int32).toInt64 &&& 63)) ||| (((X.2 2) : Int32).toInt64 &&& 4294967295))))]) rfl rfl rfl rfl ?_
    refine ev_loc f_X12_readings (nx := 20) rfl rfl rfl rfl ?_
    refine ev_loc f_X12_readings (nx := 21) rfl rfl rfl rfl ?_
    refine ev_gvI f_X12_readings (nx := 24) (w := 0) rfl (hW.s rfl) rfl rfl rfl rfl ?_
    refine ev_t f_X12_readings (t1 := 69) (t2 := 27) rfl rfl rfl (by decide) ?_
    refine ev_loc f_X12_readings (nx := 70) rfl rfl rfl rfl ?_
    refine ev_loc f_X12_readings (nx := 71) rfl rfl rfl rfl ?_
    refine ev_gvI f_X12_readings (nx := 74) (w := 0) rfl (hW.s rfl) rfl rfl rfl rfl ?_
    refine ev_putI f_X12_readings (nx := 77) rfl (hW.s rfl) rfl rfl rfl ?_
    refine ev_loc f_X12_readings (nx := 78) rfl rfl rfl rfl ?_
    refine ev_loc f_X12_readings (nx := 79) rfl rfl rfl rfl ?_
    refine ev_gvI f_X12_readings (nx := 82) (w := 0) rfl (hW.s rfl) rfl rfl rfl rfl ?_
    refine ev_inV2 f_X12_readings (nx := 85) (lo2 := [(0, .ref 69), (1, .int 0)]) rfl rfl rfl rfl f_X12_gives (hW.s rfl) rfl rfl rfl rfl rfl ?_
    refine ev_loc f_X12_gives (nx := 1) rfl rfl rfl rfl ?_
    refine ev_ic f_X12_gives (nx := 2) (v := 0) rfl (by decide) rfl ?_
    refine ev_putI f_X12_gives (nx := 5) rfl (hW.s rfl) rfl rfl rfl ?_
    refine ev_loc f_X12_gives (nx := 6) rfl rfl rfl rfl ?_
    refine ev_retK1 f_X12_gives rfl rfl rfl ?_
    refine ev_retK1 f_X12_readings rfl rfl rfl ?_
    refine ev_t f_L_law (t1 := 1628) (t2 := 964) rfl rfl rfl (by decide) ?_
    refine ev_incv f_L_law (nx := 1631) (c := 6) (w := 6) (lo' := [(3, .int 6), (2, .ref 69), (1, .ref 0), (0, .retAddr 30)]) rfl rfl (by decide) (by decide) rfl rfl rfl ?_
    refine ev_jmp f_L_law (nx := 18) rfl rfl rfl ?_
    refine ev_loc f_L_law (nx := 19) rfl rfl rfl rfl ?_
    refine ev_loc f_L_law (nx := 20) rfl rfl rfl rfl ?_
    refine ev_alenX f_L_law (nx := 21) rfl hX rfl ?_
    refine ev_bp f_L_law (nx := 23) (v := 6) rfl (by decide) rfl ?_
    refine ev_aluvI f_L_law (nx := 24) (w := 0) rfl rfl rfl (by decide) rfl ?_
    refine ev_t f_L_law (t1 := 1634) (t2 := 27) rfl rfl rfl (by decide) ?_
    refine ev_ic f_L_law (nx := 1635) (v := 1) rfl (by decide) rfl ?_
    refine ev_ret f_L_law rfl rfl rfl ?_
    exact ⟨rfl, hz⟩
  · refine ev_loc f_X11_readings (nx := 7) rfl rfl rfl rfl ?_
    refine ev_ic f_X11_readings (nx := 8) (v := 1) rfl (by decide) rfl ?_
    refine ev_inV2 f_X11_readings (nx := 11) (lo2 := [(0, .ref 0), (1, .int 1)]) rfl rfl rfl rfl f_X11_refuse (hW.s rfl) rfl rfl rfl rfl rfl ?_
    refine ev_loc f_X11_refuse (nx := 1) rfl rfl rfl rfl ?_
    refine ev_loc f_X11_refuse (nx := 2) rfl rfl rfl rfl ?_
    refine ev_putI f_X11_refuse (nx := 5) rfl (hW.s rfl) rfl rfl rfl ?_
    refine ev_ic f_X11_refuse (nx := 6) (v := -1) rfl (by decide) rfl ?_
    refine ev_retK1 f_X11_refuse rfl rfl rfl ?_
    refine ev_retK1 f_X11_readings rfl rfl rfl ?_
    refine ev_loc f_L_law (nx := 938) rfl rfl rfl rfl ?_
    refine ev_loc f_L_law (nx := 939) rfl rfl rfl rfl ?_
    refine ev_loc f_L_law (nx := 940) rfl rfl rfl rfl ?_
    refine ev_ic f_L_law (nx := 941) (v := 1) rfl (by decide) rfl ?_
    refine ev_aluvI f_L_law (nx := 942) (w := 1) rfl rfl rfl (by decide) rfl ?_
    refine ev_scr f_L_law (nx := 943) (j := 1) rfl hX (by decide) (by decide) (by decide) rfl ?_
    refine ev_alu f_L_law (nx := 944) rfl rfl rfl rfl ?_
    refine ev_bp f_L_law (nx := 946) (v := 32) rfl (by decide) rfl ?_
    refine ev_alu f_L_law (nx := 947) rfl rfl rfl rfl ?_
    refine ev_loc f_L_law (nx := 948) rfl rfl rfl rfl ?_
    refine ev_loc f_L_law (nx := 949) rfl rfl rfl rfl ?_
    refine ev_ic f_L_law (nx := 950) (v := 2) rfl (by decide) rfl ?_
    refine ev_aluvI f_L_law (nx := 951) (w := 2) rfl rfl rfl (by decide) rfl ?_
    refine ev_scr f_L_law (nx := 952) (j := 2) rfl hX (by decide) (by decide) (by decide) rfl ?_
    refine ev_alu f_L_law (nx := 953) rfl rfl rfl rfl ?_
    refine ev_ldL f_L_law (nx := 956) (v := 4294967295) rfl (by decide) rfl ?_
    refine ev_alu f_L_law (nx := 957) rfl rfl rfl rfl ?_
    refine ev_alu f_L_law (nx := 958) rfl rfl rfl rfl ?_
    refine ev_inV2 f_L_law (nx := 961) (lo2 := [(0, .ref 69), (1, .long (((((X.2 1) : Int32).toInt64 <<< ((32 : Int32).toInt64 &&& 63)) ||| (((X.2 2) : Int32).toInt64 &&& 4294967295))))]) rfl rfl rfl rfl f_X12_readings (hW.s rfl) rfl rfl rfl rfl rfl ?_
    refine ev_loc f_X12_readings (nx := 1) rfl rfl rfl rfl ?_
    refine ev_lc f_X12_readings (nx := 2) (v := 1) rfl (by decide) rfl ?_
    refine ev_alu f_X12_readings (nx := 3) rfl rfl rfl rfl ?_
    refine ev_f f_X12_readings (t1 := 12) (t2 := 6) rfl rfl rfl h23 ?_
    refine ev_loc f_X12_readings (nx := 7) rfl rfl rfl rfl ?_
    refine ev_ic f_X12_readings (nx := 8) (v := 1) rfl (by decide) rfl ?_
    refine ev_inV2 f_X12_readings (nx := 11) (lo2 := [(0, .ref 69), (1, .int 1)]) rfl rfl rfl rfl f_X12_refuse (hW.s rfl) rfl rfl rfl rfl rfl ?_
    refine ev_loc f_X12_refuse (nx := 1) rfl rfl rfl rfl ?_
    refine ev_loc f_X12_refuse (nx := 2) rfl rfl rfl rfl ?_
    refine ev_putI f_X12_refuse (nx := 5) rfl (hW.s rfl) rfl rfl rfl ?_
    refine ev_ic f_X12_refuse (nx := 6) (v := -1) rfl (by decide) rfl ?_
    refine ev_retK1 f_X12_refuse rfl rfl rfl ?_
    refine ev_retK1 f_X12_readings rfl rfl rfl ?_
    refine ev_t f_L_law (t1 := 1628) (t2 := 964) rfl rfl rfl (by decide) ?_
    refine ev_incv f_L_law (nx := 1631) (c := 6) (w := 6) (lo' := [(3, .int 6), (2, .ref 69), (1, .ref 0), (0, .retAddr 30)]) rfl rfl (by decide) (by decide) rfl rfl rfl ?_
    refine ev_jmp f_L_law (nx := 18) rfl rfl rfl ?_
    refine ev_loc f_L_law (nx := 19) rfl rfl rfl rfl ?_
    refine ev_loc f_L_law (nx := 20) rfl rfl rfl rfl ?_
    refine ev_alenX f_L_law (nx := 21) rfl hX rfl ?_
    refine ev_bp f_L_law (nx := 23) (v := 6) rfl (by decide) rfl ?_
    refine ev_aluvI f_L_law (nx := 24) (w := 0) rfl rfl rfl (by decide) rfl ?_
    refine ev_t f_L_law (t1 := 1634) (t2 := 27) rfl rfl rfl (by decide) ?_
    refine ev_ic f_L_law (nx := 1635) (v := 1) rfl (by decide) rfl ?_
    refine ev_ret f_L_law rfl rfl rfl ?_
    exact ⟨rfl, hz⟩
set_option maxRecDepth 20000 in
theorem pc_22 (hR : x_R W1 (sh, gi, gl, gr)) (hX : X.1 = 6) : x_Ev X 1000 n_L_law 966 [(3, .int 0), (2, .ref 69), (1, .ref 0), (0, .retAddr 30)] [] (sh, gi, gl, gr) x_P1 := by
  have hW := W1_WF hR
  have hz := W1_hz hR
  refine ev_loc f_L_law (nx := 967) rfl rfl rfl rfl ?_
  refine ev_loc f_L_law (nx := 968) rfl rfl rfl rfl ?_
  refine ev_loc f_L_law (nx := 969) rfl rfl rfl rfl ?_
  refine ev_ic f_L_law (nx := 970) (v := 1) rfl (by decide) rfl ?_
  refine ev_aluvI f_L_law (nx := 971) (w := 1) rfl rfl rfl (by decide) rfl ?_
  refine ev_scr f_L_law (nx := 972) (j := 1) rfl hX (by decide) (by decide) (by decide) rfl ?_
  refine ev_loc f_L_law (nx := 973) rfl rfl rfl rfl ?_
  refine ev_loc f_L_law (nx := 974) rfl rfl rfl rfl ?_
  refine ev_ic f_L_law (nx := 975) (v := 2) rfl (by decide) rfl ?_
  refine ev_aluvI f_L_law (nx := 976) (w := 2) rfl rfl rfl (by decide) rfl ?_
  refine ev_scr f_L_law (nx := 977) (j := 2) rfl hX (by decide) (by decide) (by decide) rfl ?_
  refine ev_inV3 f_L_law (nx := 980) (lo2 := [(0, .ref 0), (1, .int ((X.2 1))), (2, .int ((X.2 2)))]) rfl rfl rfl rfl f_X11_reading (hW.s rfl) rfl rfl rfl rfl rfl ?_
  refine ev_loc f_X11_reading (nx := 1) rfl rfl rfl rfl ?_
  refine ev_if f_X11_reading (t1 := 9) (t2 := 4) rfl rfl rfl (fun h14 => ?_) (fun h14 => ?_)
  · have q14 := h14; rw [Int32.lt_iff_toInt_lt, (by decide : (0 : Int32).toInt = 0)] at q14
    refine ev_loc f_X11_reading (nx := 10) rfl rfl rfl rfl ?_
    refine ev_ic f_X11_reading (nx := 11) (v := 1) rfl (by decide) rfl ?_
    refine ev_inV2 f_X11_reading (nx := 14) (lo2 := [(0, .ref 0), (1, .int 1)]) rfl rfl rfl rfl f_X11_refuse (hW.s rfl) rfl rfl rfl rfl rfl ?_
    refine ev_loc f_X11_refuse (nx := 1) rfl rfl rfl rfl ?_
    refine ev_loc f_X11_refuse (nx := 2) rfl rfl rfl rfl ?_
    refine ev_putI f_X11_refuse (nx := 5) rfl (hW.s rfl) rfl rfl rfl ?_
    refine ev_ic f_X11_refuse (nx := 6) (v := -1) rfl (by decide) rfl ?_
    refine ev_retK1 f_X11_refuse rfl rfl rfl ?_
    refine ev_retK1 f_X11_reading rfl rfl rfl ?_
    refine ev_loc f_L_law (nx := 981) rfl rfl rfl rfl ?_
    refine ev_loc f_L_law (nx := 982) rfl rfl rfl rfl ?_
    refine ev_loc f_L_law (nx := 983) rfl rfl rfl rfl ?_
    refine ev_ic f_L_law (nx := 984) (v := 1) rfl (by decide) rfl ?_
    refine ev_aluvI f_L_law (nx := 985) (w := 1) rfl rfl rfl (by decide) rfl ?_
    refine ev_scr f_L_law (nx := 986) (j := 1) rfl hX (by decide) (by decide) (by decide) rfl ?_
    refine ev_loc f_L_law (nx := 987) rfl rfl rfl rfl ?_
    refine ev_loc f_L_law (nx := 988) rfl rfl rfl rfl ?_
    refine ev_ic f_L_law (nx := 989) (v := 2) rfl (by decide) rfl ?_
    refine ev_aluvI f_L_law (nx := 990) (w := 2) rfl rfl rfl (by decide) rfl ?_
    refine ev_scr f_L_law (nx := 991) (j := 2) rfl hX (by decide) (by decide) (by decide) rfl ?_
    refine ev_inV3 f_L_law (nx := 994) (lo2 := [(0, .ref 69), (1, .int ((X.2 1))), (2, .int ((X.2 2)))]) rfl rfl rfl rfl f_X12_reading (hW.s rfl) rfl rfl rfl rfl rfl ?_
    refine ev_loc f_X12_reading (nx := 1) rfl rfl rfl rfl ?_
    refine ev_t f_X12_reading (t1 := 9) (t2 := 4) rfl rfl rfl (by rw [Int32.lt_iff_toInt_lt, (by decide : (0 : Int32).toInt = 0)]; omega) ?_
    refine ev_loc f_X12_reading (nx := 10) rfl rfl rfl rfl ?_
    refine ev_ic f_X12_reading (nx := 11) (v := 1) rfl (by decide) rfl ?_
    refine ev_inV2 f_X12_reading (nx := 14) (lo2 := [(0, .ref 69), (1, .int 1)]) rfl rfl rfl rfl f_X12_refuse (hW.s rfl) rfl rfl rfl rfl rfl ?_
    refine ev_loc f_X12_refuse (nx := 1) rfl rfl rfl rfl ?_
    refine ev_loc f_X12_refuse (nx := 2) rfl rfl rfl rfl ?_
    refine ev_putI f_X12_refuse (nx := 5) rfl (hW.s rfl) rfl rfl rfl ?_
    refine ev_ic f_X12_refuse (nx := 6) (v := -1) rfl (by decide) rfl ?_
    refine ev_retK1 f_X12_refuse rfl rfl rfl ?_
    refine ev_retK1 f_X12_reading rfl rfl rfl ?_
    refine ev_t f_L_law (t1 := 1628) (t2 := 997) rfl rfl rfl (by decide) ?_
    refine ev_incv f_L_law (nx := 1631) (c := 6) (w := 6) (lo' := [(3, .int 6), (2, .ref 69), (1, .ref 0), (0, .retAddr 30)]) rfl rfl (by decide) (by decide) rfl rfl rfl ?_
    refine ev_jmp f_L_law (nx := 18) rfl rfl rfl ?_
    refine ev_loc f_L_law (nx := 19) rfl rfl rfl rfl ?_
    refine ev_loc f_L_law (nx := 20) rfl rfl rfl rfl ?_
    refine ev_alenX f_L_law (nx := 21) rfl hX rfl ?_
    refine ev_bp f_L_law (nx := 23) (v := 6) rfl (by decide) rfl ?_
    refine ev_aluvI f_L_law (nx := 24) (w := 0) rfl rfl rfl (by decide) rfl ?_
    refine ev_t f_L_law (t1 := 1634) (t2 := 27) rfl rfl rfl (by decide) ?_
    refine ev_ic f_L_law (nx := 1635) (v := 1) rfl (by decide) rfl ?_
    refine ev_ret f_L_law rfl rfl rfl ?_
    exact ⟨rfl, hz⟩
  · have q14 := h14; rw [Int32.lt_iff_toInt_lt, (by decide : (0 : Int32).toInt = 0)] at q14
    refine ev_loc f_X11_reading (nx := 5) rfl rfl rfl rfl ?_
    refine ev_ic f_X11_reading (nx := 6) (v := 2) rfl (by decide) rfl ?_
    refine ev_if f_X11_reading (t1 := 15) (t2 := 9) rfl rfl rfl (fun h60 => ?_) (fun h60 => ?_)
    · have q60 := h60; rw [Int32.le_iff_toInt_le, (by decide : (2 : Int32).toInt = 2)] at q60
      refine ev_loc f_X11_reading (nx := 16) rfl rfl rfl rfl ?_
      refine ev_if f_X11_reading (t1 := 27) (t2 := 19) rfl rfl rfl (fun h62 => ?_) (fun h62 => ?_)
      · have q62 := h62; rw [Int32.lt_iff_toInt_lt, (by decide : (0 : Int32).toInt = 0)] at q62
        refine ev_loc f_X11_reading (nx := 28) rfl rfl rfl rfl ?_
        refine ev_bp f_X11_reading (nx := 30) (v := 6) rfl (by decide) rfl ?_
        refine ev_inV2 f_X11_reading (nx := 33) (lo2 := [(0, .ref 0), (1, .int 6)]) rfl rfl rfl rfl f_X11_refuse (hW.s rfl) rfl rfl rfl rfl rfl ?_
        refine ev_loc f_X11_refuse (nx := 1) rfl rfl rfl rfl ?_
        refine ev_loc f_X11_refuse (nx := 2) rfl rfl rfl rfl ?_
        refine ev_putI f_X11_refuse (nx := 5) rfl (hW.s rfl) rfl rfl rfl ?_
        refine ev_ic f_X11_refuse (nx := 6) (v := -1) rfl (by decide) rfl ?_
        refine ev_retK1 f_X11_refuse rfl rfl rfl ?_
        refine ev_retK1 f_X11_reading rfl rfl rfl ?_
        refine ev_loc f_L_law (nx := 981) rfl rfl rfl rfl ?_
        refine ev_loc f_L_law (nx := 982) rfl rfl rfl rfl ?_
        refine ev_loc f_L_law (nx := 983) rfl rfl rfl rfl ?_
        refine ev_ic f_L_law (nx := 984) (v := 1) rfl (by decide) rfl ?_
        refine ev_aluvI f_L_law (nx := 985) (w := 1) rfl rfl rfl (by decide) rfl ?_
        refine ev_scr f_L_law (nx := 986) (j := 1) rfl hX (by decide) (by decide) (by decide) rfl ?_
        refine ev_loc f_L_law (nx := 987) rfl rfl rfl rfl ?_
        refine ev_loc f_L_law (nx := 988) rfl rfl rfl rfl ?_
        refine ev_ic f_L_law (nx := 989) (v := 2) rfl (by decide) rfl ?_
        refine ev_aluvI f_L_law (nx := 990) (w := 2) rfl rfl rfl (by decide) rfl ?_
        refine ev_scr f_L_law (nx := 991) (j := 2) rfl hX (by decide) (by decide) (by decide) rfl ?_
        refine ev_inV3 f_L_law (nx := 994) (lo2 := [(0, .ref 69), (1, .int ((X.2 1))), (2, .int ((X.2 2)))]) rfl rfl rfl rfl f_X12_reading (hW.s rfl) rfl rfl rfl rfl rfl ?_
        refine ev_loc f_X12_reading (nx := 1) rfl rfl rfl rfl ?_
        refine ev_f f_X12_reading (t1 := 9) (t2 := 4) rfl rfl rfl (by rw [Int32.lt_iff_toInt_lt, (by decide : (0 : Int32).toInt = 0)]; omega) ?_
        refine ev_loc f_X12_reading (nx := 5) rfl rfl rfl rfl ?_
        refine ev_ic f_X12_reading (nx := 6) (v := 2) rfl (by decide) rfl ?_
        refine ev_t f_X12_reading (t1 := 15) (t2 := 9) rfl rfl rfl (by rw [Int32.le_iff_toInt_le, (by decide : (2 : Int32).toInt = 2)]; omega) ?_
        refine ev_loc f_X12_reading (nx := 16) rfl rfl rfl rfl ?_
        refine ev_t f_X12_reading (t1 := 27) (t2 := 19) rfl rfl rfl (by rw [Int32.lt_iff_toInt_lt, (by decide : (0 : Int32).toInt = 0)]; omega) ?_
        refine ev_loc f_X12_reading (nx := 28) rfl rfl rfl rfl ?_
        refine ev_bp f_X12_reading (nx := 30) (v := 6) rfl (by decide) rfl ?_
        refine ev_inV2 f_X12_reading (nx := 33) (lo2 := [(0, .ref 69), (1, .int 6)]) rfl rfl rfl rfl f_X12_refuse (hW.s rfl) rfl rfl rfl rfl rfl ?_
        refine ev_loc f_X12_refuse (nx := 1) rfl rfl rfl rfl ?_
        refine ev_loc f_X12_refuse (nx := 2) rfl rfl rfl rfl ?_
        refine ev_putI f_X12_refuse (nx := 5) rfl (hW.s rfl) rfl rfl rfl ?_
        refine ev_ic f_X12_refuse (nx := 6) (v := -1) rfl (by decide) rfl ?_
        refine ev_retK1 f_X12_refuse rfl rfl rfl ?_
        refine ev_retK1 f_X12_reading rfl rfl rfl ?_
        refine ev_t f_L_law (t1 := 1628) (t2 := 997) rfl rfl rfl (by decide) ?_
        refine ev_incv f_L_law (nx := 1631) (c := 6) (w := 6) (lo' := [(3, .int 6), (2, .ref 69), (1, .ref 0), (0, .retAddr 30)]) rfl rfl (by decide) (by decide) rfl rfl rfl ?_
        refine ev_jmp f_L_law (nx := 18) rfl rfl rfl ?_
        refine ev_loc f_L_law (nx := 19) rfl rfl rfl rfl ?_
        refine ev_loc f_L_law (nx := 20) rfl rfl rfl rfl ?_
        refine ev_alenX f_L_law (nx := 21) rfl hX rfl ?_
        refine ev_bp f_L_law (nx := 23) (v := 6) rfl (by decide) rfl ?_
        refine ev_aluvI f_L_law (nx := 24) (w := 0) rfl rfl rfl (by decide) rfl ?_
        refine ev_t f_L_law (t1 := 1634) (t2 := 27) rfl rfl rfl (by decide) ?_
        refine ev_ic f_L_law (nx := 1635) (v := 1) rfl (by decide) rfl ?_
        refine ev_ret f_L_law rfl rfl rfl ?_
        exact ⟨rfl, hz⟩
      · have q62 := h62; rw [Int32.lt_iff_toInt_lt, (by decide : (0 : Int32).toInt = 0)] at q62
        refine ev_loc f_X11_reading (nx := 20) rfl rfl rfl rfl ?_
        refine ev_loc f_X11_reading (nx := 21) rfl rfl rfl rfl ?_
        refine ev_gvI f_X11_reading (nx := 24) (w := 0) rfl (hW.s rfl) rfl rfl (wi_0_14 (gi := gi) hR) rfl ?_
        refine ev_f f_X11_reading (t1 := 34) (t2 := 27) rfl rfl rfl (by rw [Int32.lt_iff_toInt_lt, (by decide : (0 : Int32).toInt = 0)]; omega) ?_
        refine ev_loc f_X11_reading (nx := 28) rfl rfl rfl rfl ?_
        refine ev_bp f_X11_reading (nx := 30) (v := 6) rfl (by decide) rfl ?_
        refine ev_inV2 f_X11_reading (nx := 33) (lo2 := [(0, .ref 0), (1, .int 6)]) rfl rfl rfl rfl f_X11_refuse (hW.s rfl) rfl rfl rfl rfl rfl ?_
        refine ev_loc f_X11_refuse (nx := 1) rfl rfl rfl rfl ?_
        refine ev_loc f_X11_refuse (nx := 2) rfl rfl rfl rfl ?_
        refine ev_putI f_X11_refuse (nx := 5) rfl (hW.s rfl) rfl rfl rfl ?_
        refine ev_ic f_X11_refuse (nx := 6) (v := -1) rfl (by decide) rfl ?_
        refine ev_retK1 f_X11_refuse rfl rfl rfl ?_
        refine ev_retK1 f_X11_reading rfl rfl rfl ?_
        refine ev_loc f_L_law (nx := 981) rfl rfl rfl rfl ?_
        refine ev_loc f_L_law (nx := 982) rfl rfl rfl rfl ?_
        refine ev_loc f_L_law (nx := 983) rfl rfl rfl rfl ?_
        refine ev_ic f_L_law (nx := 984) (v := 1) rfl (by decide) rfl ?_
        refine ev_aluvI f_L_law (nx := 985) (w := 1) rfl rfl rfl (by decide) rfl ?_
        refine ev_scr f_L_law (nx := 986) (j := 1) rfl hX (by decide) (by decide) (by decide) rfl ?_
        refine ev_loc f_L_law (nx := 987) rfl rfl rfl rfl ?_
        refine ev_loc f_L_law (nx := 988) rfl rfl rfl rfl ?_
        refine ev_ic f_L_law (nx := 989) (v := 2) rfl (by decide) rfl ?_
        refine ev_aluvI f_L_law (nx := 990) (w := 2) rfl rfl rfl (by decide) rfl ?_
        refine ev_scr f_L_law (nx := 991) (j := 2) rfl hX (by decide) (by decide) (by decide) rfl ?_
        refine ev_inV3 f_L_law (nx := 994) (lo2 := [(0, .ref 69), (1, .int ((X.2 1))), (2, .int ((X.2 2)))]) rfl rfl rfl rfl f_X12_reading (hW.s rfl) rfl rfl rfl rfl rfl ?_
        refine ev_loc f_X12_reading (nx := 1) rfl rfl rfl rfl ?_
        refine ev_f f_X12_reading (t1 := 9) (t2 := 4) rfl rfl rfl (by rw [Int32.lt_iff_toInt_lt, (by decide : (0 : Int32).toInt = 0)]; omega) ?_
        refine ev_loc f_X12_reading (nx := 5) rfl rfl rfl rfl ?_
        refine ev_ic f_X12_reading (nx := 6) (v := 2) rfl (by decide) rfl ?_
        refine ev_t f_X12_reading (t1 := 15) (t2 := 9) rfl rfl rfl (by rw [Int32.le_iff_toInt_le, (by decide : (2 : Int32).toInt = 2)]; omega) ?_
        refine ev_loc f_X12_reading (nx := 16) rfl rfl rfl rfl ?_
        refine ev_f f_X12_reading (t1 := 27) (t2 := 19) rfl rfl rfl (by rw [Int32.lt_iff_toInt_lt, (by decide : (0 : Int32).toInt = 0)]; omega) ?_
        refine ev_loc f_X12_reading (nx := 20) rfl rfl rfl rfl ?_
        refine ev_loc f_X12_reading (nx := 21) rfl rfl rfl rfl ?_
        refine ev_gvI f_X12_reading (nx := 24) (w := 0) rfl (hW.s rfl) rfl rfl (wi_69_30 (gi := gi) hR) rfl ?_
        refine ev_f f_X12_reading (t1 := 34) (t2 := 27) rfl rfl rfl (by rw [Int32.lt_iff_toInt_lt, (by decide : (0 : Int32).toInt = 0)]; omega) ?_
        refine ev_loc f_X12_reading (nx := 28) rfl rfl rfl rfl ?_
        refine ev_bp f_X12_reading (nx := 30) (v := 6) rfl (by decide) rfl ?_
        refine ev_inV2 f_X12_reading (nx := 33) (lo2 := [(0, .ref 69), (1, .int 6)]) rfl rfl rfl rfl f_X12_refuse (hW.s rfl) rfl rfl rfl rfl rfl ?_
        refine ev_loc f_X12_refuse (nx := 1) rfl rfl rfl rfl ?_
        refine ev_loc f_X12_refuse (nx := 2) rfl rfl rfl rfl ?_
        refine ev_putI f_X12_refuse (nx := 5) rfl (hW.s rfl) rfl rfl rfl ?_
        refine ev_ic f_X12_refuse (nx := 6) (v := -1) rfl (by decide) rfl ?_
        refine ev_retK1 f_X12_refuse rfl rfl rfl ?_
        refine ev_retK1 f_X12_reading rfl rfl rfl ?_
        refine ev_t f_L_law (t1 := 1628) (t2 := 997) rfl rfl rfl (by decide) ?_
        refine ev_incv f_L_law (nx := 1631) (c := 6) (w := 6) (lo' := [(3, .int 6), (2, .ref 69), (1, .ref 0), (0, .retAddr 30)]) rfl rfl (by decide) (by decide) rfl rfl rfl ?_
        refine ev_jmp f_L_law (nx := 18) rfl rfl rfl ?_
        refine ev_loc f_L_law (nx := 19) rfl rfl rfl rfl ?_
        refine ev_loc f_L_law (nx := 20) rfl rfl rfl rfl ?_
        refine ev_alenX f_L_law (nx := 21) rfl hX rfl ?_
        refine ev_bp f_L_law (nx := 23) (v := 6) rfl (by decide) rfl ?_
        refine ev_aluvI f_L_law (nx := 24) (w := 0) rfl rfl rfl (by decide) rfl ?_
        refine ev_t f_L_law (t1 := 1634) (t2 := 27) rfl rfl rfl (by decide) ?_
        refine ev_ic f_L_law (nx := 1635) (v := 1) rfl (by decide) rfl ?_
        refine ev_ret f_L_law rfl rfl rfl ?_
        exact ⟨rfl, hz⟩
    · have q60 := h60; rw [Int32.le_iff_toInt_le, (by decide : (2 : Int32).toInt = 2)] at q60
      refine ev_loc f_X11_reading (nx := 10) rfl rfl rfl rfl ?_
      refine ev_ic f_X11_reading (nx := 11) (v := 1) rfl (by decide) rfl ?_
      refine ev_inV2 f_X11_reading (nx := 14) (lo2 := [(0, .ref 0), (1, .int 1)]) rfl rfl rfl rfl f_X11_refuse (hW.s rfl) rfl rfl rfl rfl rfl ?_
      refine ev_loc f_X11_refuse (nx := 1) rfl rfl rfl rfl ?_
      refine ev_loc f_X11_refuse (nx := 2) rfl rfl rfl rfl ?_
      refine ev_putI f_X11_refuse (nx := 5) rfl (hW.s rfl) rfl rfl rfl ?_
      refine ev_ic f_X11_refuse (nx := 6) (v := -1) rfl (by decide) rfl ?_
      refine ev_retK1 f_X11_refuse rfl rfl rfl ?_
      refine ev_retK1 f_X11_reading rfl rfl rfl ?_
      refine ev_loc f_L_law (nx := 981) rfl rfl rfl rfl ?_
      refine ev_loc f_L_law (nx := 982) rfl rfl rfl rfl ?_
      refine ev_loc f_L_law (nx := 983) rfl rfl rfl rfl ?_
      refine ev_ic f_L_law (nx := 984) (v := 1) rfl (by decide) rfl ?_
      refine ev_aluvI f_L_law (nx := 985) (w := 1) rfl rfl rfl (by decide) rfl ?_
      refine ev_scr f_L_law (nx := 986) (j := 1) rfl hX (by decide) (by decide) (by decide) rfl ?_
      refine ev_loc f_L_law (nx := 987) rfl rfl rfl rfl ?_
      refine ev_loc f_L_law (nx := 988) rfl rfl rfl rfl ?_
      refine ev_ic f_L_law (nx := 989) (v := 2) rfl (by decide) rfl ?_
      refine ev_aluvI f_L_law (nx := 990) (w := 2) rfl rfl rfl (by decide) rfl ?_
      refine ev_scr f_L_law (nx := 991) (j := 2) rfl hX (by decide) (by decide) (by decide) rfl ?_
      refine ev_inV3 f_L_law (nx := 994) (lo2 := [(0, .ref 69), (1, .int ((X.2 1))), (2, .int ((X.2 2)))]) rfl rfl rfl rfl f_X12_reading (hW.s rfl) rfl rfl rfl rfl rfl ?_
      refine ev_loc f_X12_reading (nx := 1) rfl rfl rfl rfl ?_
      refine ev_f f_X12_reading (t1 := 9) (t2 := 4) rfl rfl rfl (by rw [Int32.lt_iff_toInt_lt, (by decide : (0 : Int32).toInt = 0)]; omega) ?_
      refine ev_loc f_X12_reading (nx := 5) rfl rfl rfl rfl ?_
      refine ev_ic f_X12_reading (nx := 6) (v := 2) rfl (by decide) rfl ?_
      refine ev_f f_X12_reading (t1 := 15) (t2 := 9) rfl rfl rfl (by rw [Int32.le_iff_toInt_le, (by decide : (2 : Int32).toInt = 2)]; omega) ?_
      refine ev_loc f_X12_reading (nx := 10) rfl rfl rfl rfl ?_
      refine ev_ic f_X12_reading (nx := 11) (v := 1) rfl (by decide) rfl ?_
      refine ev_inV2 f_X12_reading (nx := 14) (lo2 := [(0, .ref 69), (1, .int 1)]) rfl rfl rfl rfl f_X12_refuse (hW.s rfl) rfl rfl rfl rfl rfl ?_
      refine ev_loc f_X12_refuse (nx := 1) rfl rfl rfl rfl ?_
      refine ev_loc f_X12_refuse (nx := 2) rfl rfl rfl rfl ?_
      refine ev_putI f_X12_refuse (nx := 5) rfl (hW.s rfl) rfl rfl rfl ?_
      refine ev_ic f_X12_refuse (nx := 6) (v := -1) rfl (by decide) rfl ?_
      refine ev_retK1 f_X12_refuse rfl rfl rfl ?_
      refine ev_retK1 f_X12_reading rfl rfl rfl ?_
      refine ev_t f_L_law (t1 := 1628) (t2 := 997) rfl rfl rfl (by decide) ?_
      refine ev_incv f_L_law (nx := 1631) (c := 6) (w := 6) (lo' := [(3, .int 6), (2, .ref 69), (1, .ref 0), (0, .retAddr 30)]) rfl rfl (by decide) (by decide) rfl rfl rfl ?_
      refine ev_jmp f_L_law (nx := 18) rfl rfl rfl ?_
      refine ev_loc f_L_law (nx := 19) rfl rfl rfl rfl ?_
      refine ev_loc f_L_law (nx := 20) rfl rfl rfl rfl ?_
      refine ev_alenX f_L_law (nx := 21) rfl hX rfl ?_
      refine ev_bp f_L_law (nx := 23) (v := 6) rfl (by decide) rfl ?_
      refine ev_aluvI f_L_law (nx := 24) (w := 0) rfl rfl rfl (by decide) rfl ?_
      refine ev_t f_L_law (t1 := 1634) (t2 := 27) rfl rfl rfl (by decide) ?_
      refine ev_ic f_L_law (nx := 1635) (v := 1) rfl (by decide) rfl ?_
      refine ev_ret f_L_law rfl rfl rfl ?_
      exact ⟨rfl, hz⟩
set_option maxRecDepth 20000 in
theorem pc_23 (hR : x_R W1 (sh, gi, gl, gr)) (hX : X.1 = 6) : x_Ev X 1000 n_L_law 999 [(3, .int 0), (2, .ref 69), (1, .ref 0), (0, .retAddr 30)] [] (sh, gi, gl, gr) x_P1 := by
  have hW := W1_WF hR
  have hz := W1_hz hR
  refine ev_loc f_L_law (nx := 1000) rfl rfl rfl rfl ?_
  refine ev_loc f_L_law (nx := 1001) rfl rfl rfl rfl ?_
  refine ev_loc f_L_law (nx := 1002) rfl rfl rfl rfl ?_
  refine ev_ic f_L_law (nx := 1003) (v := 1) rfl (by decide) rfl ?_
  refine ev_aluvI f_L_law (nx := 1004) (w := 1) rfl rfl rfl (by decide) rfl ?_
  refine ev_scr f_L_law (nx := 1005) (j := 1) rfl hX (by decide) (by decide) (by decide) rfl ?_
  refine ev_alu f_L_law (nx := 1006) rfl rfl rfl rfl ?_
  refine ev_bp f_L_law (nx := 1008) (v := 32) rfl (by decide) rfl ?_
  refine ev_alu f_L_law (nx := 1009) rfl rfl rfl rfl ?_
  refine ev_loc f_L_law (nx := 1010) rfl rfl rfl rfl ?_
  refine ev_loc f_L_law (nx := 1011) rfl rfl rfl rfl ?_
  refine ev_ic f_L_law (nx := 1012) (v := 2) rfl (by decide) rfl ?_
  refine ev_aluvI f_L_law (nx := 1013) (w := 2) rfl rfl rfl (by decide) rfl ?_
  refine ev_scr f_L_law (nx := 1014) (j := 2) rfl hX (by decide) (by decide) (by decide) rfl ?_
  refine ev_alu f_L_law (nx := 1015) rfl rfl rfl rfl ?_
  refine ev_ldL f_L_law (nx := 1018) (v := 4294967295) rfl (by decide) rfl ?_
  refine ev_alu f_L_law (nx := 1019) rfl rfl rfl rfl ?_
  refine ev_alu f_L_law (nx := 1020) rfl rfl rfl rfl ?_
  refine ev_loc f_L_law (nx := 1021) rfl rfl rfl rfl ?_
  refine ev_loc f_L_law (nx := 1022) rfl rfl rfl rfl ?_
  refine ev_ic f_L_law (nx := 1023) (v := 3) rfl (by decide) rfl ?_
  refine ev_aluvI f_L_law (nx := 1024) (w := 3) rfl rfl rfl (by decide) rfl ?_
  refine ev_scr f_L_law (nx := 1025) (j := 3) rfl hX (by decide) (by decide) (by decide) rfl ?_
  refine ev_inV3 f_L_law (nx := 1028) (lo2 := [(0, .ref 0), (1, .long (((((X.2 1) : Int32).toInt64 <<< ((32 : Int32).toInt64 &&& 63)) ||| (((X.2 2) : Int32).toInt64 &&& 4294967295)))), (3, .int ((X.2 3)))]) rfl rfl rfl rfl f_X11_doubt (hW.s rfl) rfl rfl rfl rfl rfl ?_
  refine ev_loc f_X11_doubt (nx := 1) rfl rfl rfl rfl ?_
  refine ev_lc f_X11_doubt (nx := 2) (v := 1) rfl (by decide) rfl ?_
  refine ev_alu f_X11_doubt (nx := 3) rfl rfl rfl rfl ?_
  refine ev_if f_X11_doubt (t1 := 14) (t2 := 6) rfl rfl rfl (fun h28 => ?_) (fun h28 => ?_)
  · refine ev_loc f_X11_doubt (nx := 15) rfl rfl rfl rfl ?_
    refine ev_ic f_X11_doubt (nx := 16) (v := 1) rfl (by decide) rfl ?_
    refine ev_inV2 f_X11_doubt (nx := 19) (lo2 := [(0, .ref 0), (1, .int 1)]) rfl rfl rfl rfl f_X11_deny (hW.s rfl) rfl rfl rfl rfl rfl ?_
    refine ev_loc f_X11_deny (nx := 1) rfl rfl rfl rfl ?_
    refine ev_loc f_X11_deny (nx := 2) rfl rfl rfl rfl ?_
    refine ev_putI f_X11_deny (nx := 5) rfl (hW.s rfl) rfl rfl rfl ?_
    refine ev_ic f_X11_deny (nx := 6) (v := 0) rfl (by decide) rfl ?_
    refine ev_retK1 f_X11_deny rfl rfl rfl ?_
    refine ev_retK1 f_X11_doubt rfl rfl rfl ?_
    refine ev_loc f_L_law (nx := 1029) rfl rfl rfl rfl ?_
    refine ev_loc f_L_law (nx := 1030) rfl rfl rfl rfl ?_
    refine ev_loc f_L_law (nx := 1031) rfl rfl rfl rfl ?_
    refine ev_ic f_L_law (nx := 1032) (v := 1) rfl (by decide) rfl ?_
    refine ev_aluvI f_L_law (nx := 1033) (w := 1) rfl rfl rfl (by decide) rfl ?_
    refine ev_scr f_L_law (nx := 1034) (j := 1) rfl hX (by decide) (by decide) (by decide) rfl ?_
    refine ev_alu f_L_law (nx := 1035) rfl rfl rfl rfl ?_
    refine ev_bp f_L_law (nx := 1037) (v := 32) rfl (by decide) rfl ?_
    refine ev_alu f_L_law (nx := 1038) rfl rfl rfl rfl ?_
    refine ev_loc f_L_law (nx := 1039) rfl rfl rfl rfl ?_
    refine ev_loc f_L_law (nx := 1040) rfl rfl rfl rfl ?_
    refine ev_ic f_L_law (nx := 1041) (v := 2) rfl (by decide) rfl ?_
    refine ev_aluvI f_L_law (nx := 1042) (w := 2) rfl rfl rfl (by decide) rfl ?_
    refine ev_scr f_L_law (nx := 1043) (j := 2) rfl hX (by decide) (by decide) (by decide) rfl ?_
    refine ev_alu f_L_law (nx := 1044) rfl rfl rfl rfl ?_
    refine ev_ldL f_L_law (nx := 1047) (v := 4294967295) rfl (by decide) rfl ?_
    refine ev_alu f_L_law (nx := 1048) rfl rfl rfl rfl ?_
    refine ev_alu f_L_law (nx := 1049) rfl rfl rfl rfl ?_
    refine ev_loc f_L_law (nx := 1050) rfl rfl rfl rfl ?_
    refine ev_loc f_L_law (nx := 1051) rfl rfl rfl rfl ?_
    refine ev_ic f_L_law (nx := 1052) (v := 3) rfl (by decide) rfl ?_
    refine ev_aluvI f_L_law (nx := 1053) (w := 3) rfl rfl rfl (by decide) rfl ?_
    refine ev_scr f_L_law (nx := 1054) (j := 3) rfl hX (by decide) (by decide) (by decide) rfl ?_
    refine ev_inV3 f_L_law (nx := 1057) (lo2 := [(0, .ref 69), (1, .long (((((X.2 1) : Int32).toInt64 <<< ((32 : Int32).toInt64 &&& 63)) ||| (((X.2 2) : Int32).toInt64 &&& 4294967295)))), (3, .int ((X.2 3)))]) rfl rfl rfl rfl f_X12_doubt (hW.s rfl) rfl rfl rfl rfl rfl ?_
    refine ev_loc f_X12_doubt (nx := 1) rfl rfl rfl rfl ?_
    refine ev_lc f_X12_doubt (nx := 2) (v := 1) rfl (by decide) rfl ?_
    refine ev_alu f_X12_doubt (nx := 3) rfl rfl rfl rfl ?_
    refine ev_t f_X12_doubt (t1 := 14) (t2 := 6) rfl rfl rfl h28 ?_
    refine ev_loc f_X12_doubt (nx := 15) rfl rfl rfl rfl ?_
    refine ev_ic f_X12_doubt (nx := 16) (v := 1) rfl (by decide) rfl ?_
    refine ev_inV2 f_X12_doubt (nx := 19) (lo2 := [(0, .ref 69), (1, .int 1)]) rfl rfl rfl rfl f_X12_is (hW.s rfl) rfl rfl rfl rfl rfl ?_
    refine ev_loc f_X12_is (nx := 1) rfl rfl rfl rfl ?_
    refine ev_loc f_X12_is (nx := 2) rfl rfl rfl rfl ?_
    refine ev_putI f_X12_is (nx := 5) rfl (hW.s rfl) rfl rfl rfl ?_
    refine ev_loc f_X12_is (nx := 6) rfl rfl rfl rfl ?_
    refine ev_f f_X12_is (t1 := 9) (t2 := 13) rfl rfl rfl (by decide) ?_
    refine ev_ic f_X12_is (nx := 14) (v := 0) rfl (by decide) rfl ?_
    refine ev_retK1 f_X12_is rfl rfl rfl ?_
    refine ev_retK1 f_X12_doubt rfl rfl rfl ?_
    refine ev_t f_L_law (t1 := 1628) (t2 := 1060) rfl rfl rfl (by decide) ?_
    refine ev_incv f_L_law (nx := 1631) (c := 6) (w := 6) (lo' := [(3, .int 6), (2, .ref 69), (1, .ref 0), (0, .retAddr 30)]) rfl rfl (by decide) (by decide) rfl rfl rfl ?_
    refine ev_jmp f_L_law (nx := 18) rfl rfl rfl ?_
    refine ev_loc f_L_law (nx := 19) rfl rfl rfl rfl ?_
    refine ev_loc f_L_law (nx := 20) rfl rfl rfl rfl ?_
    refine ev_alenX f_L_law (nx := 21) rfl hX rfl ?_
    refine ev_bp f_L_law (nx := 23) (v := 6) rfl (by decide) rfl ?_
    refine ev_aluvI f_L_law (nx := 24) (w := 0) rfl rfl rfl (by decide) rfl ?_
    refine ev_t f_L_law (t1 := 1634) (t2 := 27) rfl rfl rfl (by decide) ?_
    refine ev_ic f_L_law (nx := 1635) (v := 1) rfl (by decide) rfl ?_
    refine ev_ret f_L_law rfl rfl rfl ?_
    exact ⟨rfl, hz⟩
  · refine ev_loc f_X11_doubt (nx := 7) rfl rfl rfl rfl ?_
    refine ev_loc f_X11_doubt (nx := 8) rfl rfl rfl rfl ?_
    refine ev_inV2 f_X11_doubt (nx := 11) (lo2 := [(0, .ref 0), (1, .int ((X.2 3)))]) rfl rfl rfl rfl f_X11_isPort (hW.s rfl) rfl rfl rfl rfl rfl ?_
    refine ev_loc f_X11_isPort (nx := 1) rfl rfl rfl rfl ?_
    refine ev_if f_X11_isPort (t1 := 19) (t2 := 4) rfl rfl rfl (fun h92 => ?_) (fun h92 => ?_)
    · have q92 := h92; rw [Int32.lt_iff_toInt_lt, (by decide : (0 : Int32).toInt = 0)] at q92
      refine ev_ic f_X11_isPort (nx := 20) (v := 0) rfl (by decide) rfl ?_
      refine ev_retK1 f_X11_isPort rfl rfl rfl ?_
      refine ev_t f_X11_doubt (t1 := 14) (t2 := 20) rfl rfl rfl (by decide) ?_
      refine ev_loc f_X11_doubt (nx := 15) rfl rfl rfl rfl ?_
      refine ev_ic f_X11_doubt (nx := 16) (v := 1) rfl (by decide) rfl ?_
      refine ev_inV2 f_X11_doubt (nx := 19) (lo2 := [(0, .ref 0), (1, .int 1)]) rfl rfl rfl rfl f_X11_deny (hW.s rfl) rfl rfl rfl rfl rfl ?_
      refine ev_loc f_X11_deny (nx := 1) rfl rfl rfl rfl ?_
      refine ev_loc f_X11_deny (nx := 2) rfl rfl rfl rfl ?_
      refine ev_putI f_X11_deny (nx := 5) rfl (hW.s rfl) rfl rfl rfl ?_
      refine ev_ic f_X11_deny (nx := 6) (v := 0) rfl (by decide) rfl ?_
      refine ev_retK1 f_X11_deny rfl rfl rfl ?_
      refine ev_retK1 f_X11_doubt rfl rfl rfl ?_
      refine ev_loc f_L_law (nx := 1029) rfl rfl rfl rfl ?_
      refine ev_loc f_L_law (nx := 1030) rfl rfl rfl rfl ?_
      refine ev_loc f_L_law (nx := 1031) rfl rfl rfl rfl ?_
      refine ev_ic f_L_law (nx := 1032) (v := 1) rfl (by decide) rfl ?_
      refine ev_aluvI f_L_law (nx := 1033) (w := 1) rfl rfl rfl (by decide) rfl ?_
      refine ev_scr f_L_law (nx := 1034) (j := 1) rfl hX (by decide) (by decide) (by decide) rfl ?_
      refine ev_alu f_L_law (nx := 1035) rfl rfl rfl rfl ?_
      refine ev_bp f_L_law (nx := 1037) (v := 32) rfl (by decide) rfl ?_
      refine ev_alu f_L_law (nx := 1038) rfl rfl rfl rfl ?_
      refine ev_loc f_L_law (nx := 1039) rfl rfl rfl rfl ?_
      refine ev_loc f_L_law (nx := 1040) rfl rfl rfl rfl ?_
      refine ev_ic f_L_law (nx := 1041) (v := 2) rfl (by decide) rfl ?_
      refine ev_aluvI f_L_law (nx := 1042) (w := 2) rfl rfl rfl (by decide) rfl ?_
      refine ev_scr f_L_law (nx := 1043) (j := 2) rfl hX (by decide) (by decide) (by decide) rfl ?_
      refine ev_alu f_L_law (nx := 1044) rfl rfl rfl rfl ?_
      refine ev_ldL f_L_law (nx := 1047) (v := 4294967295) rfl (by decide) rfl ?_
      refine ev_alu f_L_law (nx := 1048) rfl rfl rfl rfl ?_
      refine ev_alu f_L_law (nx := 1049) rfl rfl rfl rfl ?_
      refine ev_loc f_L_law (nx := 1050) rfl rfl rfl rfl ?_
      refine ev_loc f_L_law (nx := 1051) rfl rfl rfl rfl ?_
      refine ev_ic f_L_law (nx := 1052) (v := 3) rfl (by decide) rfl ?_
      refine ev_aluvI f_L_law (nx := 1053) (w := 3) rfl rfl rfl (by decide) rfl ?_
      refine ev_scr f_L_law (nx := 1054) (j := 3) rfl hX (by decide) (by decide) (by decide) rfl ?_
      refine ev_inV3 f_L_law (nx := 1057) (lo2 := [(0, .ref 69), (1, .long (((((X.2 1) : Int32).toInt64 <<< ((32 : Int32).toInt64 &&& 63)) ||| (((X.2 2) : Int32).toInt64 &&& 4294967295)))), (3, .int ((X.2 3)))]) rfl rfl rfl rfl f_X12_doubt (hW.s rfl) rfl rfl rfl rfl rfl ?_
      refine ev_loc f_X12_doubt (nx := 1) rfl rfl rfl rfl ?_
      refine ev_lc f_X12_doubt (nx := 2) (v := 1) rfl (by decide) rfl ?_
      refine ev_alu f_X12_doubt (nx := 3) rfl rfl rfl rfl ?_
      refine ev_f f_X12_doubt (t1 := 14) (t2 := 6) rfl rfl rfl h28 ?_
      refine ev_loc f_X12_doubt (nx := 7) rfl rfl rfl rfl ?_
      refine ev_loc f_X12_doubt (nx := 8) rfl rfl rfl rfl ?_
      refine ev_inV2 f_X12_doubt (nx := 11) (lo2 := [(0, .ref 69), (1, .int ((X.2 3)))]) rfl rfl rfl rfl f_X12_isPort (hW.s rfl) rfl rfl rfl rfl rfl ?_
      refine ev_loc f_X12_isPort (nx := 1) rfl rfl rfl rfl ?_
      refine ev_t f_X12_isPort (t1 := 18) (t2 := 4) rfl rfl rfl (by rw [Int32.lt_iff_toInt_lt, (by decide : (0 : Int32).toInt = 0)]; omega) ?_
      refine ev_ic f_X12_isPort (nx := 19) (v := 0) rfl (by decide) rfl ?_
      refine ev_retK1 f_X12_isPort rfl rfl rfl ?_
      refine ev_t f_X12_doubt (t1 := 14) (t2 := 20) rfl rfl rfl (by decide) ?_
      refine ev_loc f_X12_doubt (nx := 15) rfl rfl rfl rfl ?_
      refine ev_ic f_X12_doubt (nx := 16) (v := 1) rfl (by decide) rfl ?_
      refine ev_inV2 f_X12_doubt (nx := 19) (lo2 := [(0, .ref 69), (1, .int 1)]) rfl rfl rfl rfl f_X12_is (hW.s rfl) rfl rfl rfl rfl rfl ?_
      refine ev_loc f_X12_is (nx := 1) rfl rfl rfl rfl ?_
      refine ev_loc f_X12_is (nx := 2) rfl rfl rfl rfl ?_
      refine ev_putI f_X12_is (nx := 5) rfl (hW.s rfl) rfl rfl rfl ?_
      refine ev_loc f_X12_is (nx := 6) rfl rfl rfl rfl ?_
      refine ev_f f_X12_is (t1 := 9) (t2 := 13) rfl rfl rfl (by decide) ?_
      refine ev_ic f_X12_is (nx := 14) (v := 0) rfl (by decide) rfl ?_
      refine ev_retK1 f_X12_is rfl rfl rfl ?_
      refine ev_retK1 f_X12_doubt rfl rfl rfl ?_
      refine ev_t f_L_law (t1 := 1628) (t2 := 1060) rfl rfl rfl (by decide) ?_
      refine ev_incv f_L_law (nx := 1631) (c := 6) (w := 6) (lo' := [(3, .int 6), (2, .ref 69), (1, .ref 0), (0, .retAddr 30)]) rfl rfl (by decide) (by decide) rfl rfl rfl ?_
      refine ev_jmp f_L_law (nx := 18) rfl rfl rfl ?_
      refine ev_loc f_L_law (nx := 19) rfl rfl rfl rfl ?_
      refine ev_loc f_L_law (nx := 20) rfl rfl rfl rfl ?_
      refine ev_alenX f_L_law (nx := 21) rfl hX rfl ?_
      refine ev_bp f_L_law (nx := 23) (v := 6) rfl (by decide) rfl ?_
      refine ev_aluvI f_L_law (nx := 24) (w := 0) rfl rfl rfl (by decide) rfl ?_
      refine ev_t f_L_law (t1 := 1634) (t2 := 27) rfl rfl rfl (by decide) ?_
      refine ev_ic f_L_law (nx := 1635) (v := 1) rfl (by decide) rfl ?_
      refine ev_ret f_L_law rfl rfl rfl ?_
      exact ⟨rfl, hz⟩
    · have q92 := h92; rw [Int32.lt_iff_toInt_lt, (by decide : (0 : Int32).toInt = 0)] at q92
      refine ev_loc f_X11_isPort (nx := 5) rfl rfl rfl rfl ?_
      refine ev_loc f_X11_isPort (nx := 6) rfl rfl rfl rfl ?_
      refine ev_getR f_X11_isPort (nx := 9) rfl (hW.s rfl) rfl rfl (wr_0_6 (gr := gr) hR) rfl rfl ?_
      refine ev_gvI f_X11_isPort (nx := 12) (w := 0) rfl (hW.s rfl) rfl rfl (wi_3_0 (gi := gi) hR) rfl ?_
      refine ev_t f_X11_isPort (t1 := 19) (t2 := 15) rfl rfl rfl (by rw [Int32.le_iff_toInt_le, (by decide : (0 : Int32).toInt = 0)]; omega) ?_
      refine ev_ic f_X11_isPort (nx := 20) (v := 0) rfl (by decide) rfl ?_
      refine ev_retK1 f_X11_isPort rfl rfl rfl ?_
      refine ev_t f_X11_doubt (t1 := 14) (t2 := 20) rfl rfl rfl (by decide) ?_
      refine ev_loc f_X11_doubt (nx := 15) rfl rfl rfl rfl ?_
      refine ev_ic f_X11_doubt (nx := 16) (v := 1) rfl (by decide) rfl ?_
      refine ev_inV2 f_X11_doubt (nx := 19) (lo2 := [(0, .ref 0), (1, .int 1)]) rfl rfl rfl rfl f_X11_deny (hW.s rfl) rfl rfl rfl rfl rfl ?_
      refine ev_loc f_X11_deny (nx := 1) rfl rfl rfl rfl ?_
      refine ev_loc f_X11_deny (nx := 2) rfl rfl rfl rfl ?_
      refine ev_putI f_X11_deny (nx := 5) rfl (hW.s rfl) rfl rfl rfl ?_
      refine ev_ic f_X11_deny (nx := 6) (v := 0) rfl (by decide) rfl ?_
      refine ev_retK1 f_X11_deny rfl rfl rfl ?_
      refine ev_retK1 f_X11_doubt rfl rfl rfl ?_
      refine ev_loc f_L_law (nx := 1029) rfl rfl rfl rfl ?_
      refine ev_loc f_L_law (nx := 1030) rfl rfl rfl rfl ?_
      refine ev_loc f_L_law (nx := 1031) rfl rfl rfl rfl ?_
      refine ev_ic f_L_law (nx := 1032) (v := 1) rfl (by decide) rfl ?_
      refine ev_aluvI f_L_law (nx := 1033) (w := 1) rfl rfl rfl (by decide) rfl ?_
      refine ev_scr f_L_law (nx := 1034) (j := 1) rfl hX (by decide) (by decide) (by decide) rfl ?_
      refine ev_alu f_L_law (nx := 1035) rfl rfl rfl rfl ?_
      refine ev_bp f_L_law (nx := 1037) (v := 32) rfl (by decide) rfl ?_
      refine ev_alu f_L_law (nx := 1038) rfl rfl rfl rfl ?_
      refine ev_loc f_L_law (nx := 1039) rfl rfl rfl rfl ?_
      refine ev_loc f_L_law (nx := 1040) rfl rfl rfl rfl ?_
      refine ev_ic f_L_law (nx := 1041) (v := 2) rfl (by decide) rfl ?_
      refine ev_aluvI f_L_law (nx := 1042) (w := 2) rfl rfl rfl (by decide) rfl ?_
      refine ev_scr f_L_law (nx := 1043) (j := 2) rfl hX (by decide) (by decide) (by decide) rfl ?_
      refine ev_alu f_L_law (nx := 1044) rfl rfl rfl rfl ?_
      refine ev_ldL f_L_law (nx := 1047) (v := 4294967295) rfl (by decide) rfl ?_
      refine ev_alu f_L_law (nx := 1048) rfl rfl rfl rfl ?_
      refine ev_alu f_L_law (nx := 1049) rfl rfl rfl rfl ?_
      refine ev_loc f_L_law (nx := 1050) rfl rfl rfl rfl ?_
      refine ev_loc f_L_law (nx := 1051) rfl rfl rfl rfl ?_
      refine ev_ic f_L_law (nx := 1052) (v := 3) rfl (by decide) rfl ?_
      refine ev_aluvI f_L_law (nx := 1053) (w := 3) rfl rfl rfl (by decide) rfl ?_
      refine ev_scr f_L_law (nx := 1054) (j := 3) rfl hX (by decide) (by decide) (by decide) rfl ?_
      refine ev_inV3 f_L_law (nx := 1057) (lo2 := [(0, .ref 69), (1, .long (((((X.2 1) : Int32).toInt64 <<< ((32 : Int32).toInt64 &&& 63)) ||| (((X.2 2) : Int32).toInt64 &&& 4294967295)))), (3, .int ((X.2 3)))]) rfl rfl rfl rfl f_X12_doubt (hW.s rfl) rfl rfl rfl rfl rfl ?_
      refine ev_loc f_X12_doubt (nx := 1) rfl rfl rfl rfl ?_
      refine ev_lc f_X12_doubt (nx := 2) (v := 1) rfl (by decide) rfl ?_
      refine ev_alu f_X12_doubt (nx := 3) rfl rfl rfl rfl ?_
      refine ev_f f_X12_doubt (t1 := 14) (t2 := 6) rfl rfl rfl h28 ?_
      refine ev_loc f_X12_doubt (nx := 7) rfl rfl rfl rfl ?_
      refine ev_loc f_X12_doubt (nx := 8) rfl rfl rfl rfl ?_
      refine ev_inV2 f_X12_doubt (nx := 11) (lo2 := [(0, .ref 69), (1, .int ((X.2 3)))]) rfl rfl rfl rfl f_X12_isPort (hW.s rfl) rfl rfl rfl rfl rfl ?_
      refine ev_loc f_X12_isPort (nx := 1) rfl rfl rfl rfl ?_
      refine ev_f f_X12_isPort (t1 := 18) (t2 := 4) rfl rfl rfl (by rw [Int32.lt_iff_toInt_lt, (by decide : (0 : Int32).toInt = 0)]; omega) ?_
      refine ev_loc f_X12_isPort (nx := 5) rfl rfl rfl rfl ?_
      refine ev_loc f_X12_isPort (nx := 6) rfl rfl rfl rfl ?_
      refine ev_getR f_X12_isPort (nx := 9) rfl (hW.s rfl) rfl rfl (hW.r rfl) rfl rfl ?_
      refine ev_ic f_X12_isPort (nx := 10) (v := 0) rfl (by decide) rfl ?_
      refine ev_ialdv f_X12_isPort (nx := 11) (j := 0) (w := 0) rfl (hW.s rfl) (by decide) (by decide) (by decide) (wi_70_0 (gi := gi) hR) rfl ?_
      refine ev_t f_X12_isPort (t1 := 18) (t2 := 14) rfl rfl rfl (by rw [Int32.le_iff_toInt_le, (by decide : (0 : Int32).toInt = 0)]; omega) ?_
      refine ev_ic f_X12_isPort (nx := 19) (v := 0) rfl (by decide) rfl ?_
      refine ev_retK1 f_X12_isPort rfl rfl rfl ?_
      refine ev_t f_X12_doubt (t1 := 14) (t2 := 20) rfl rfl rfl (by decide) ?_
      refine ev_loc f_X12_doubt (nx := 15) rfl rfl rfl rfl ?_
      refine ev_ic f_X12_doubt (nx := 16) (v := 1) rfl (by decide) rfl ?_
      refine ev_inV2 f_X12_doubt (nx := 19) (lo2 := [(0, .ref 69), (1, .int 1)]) rfl rfl rfl rfl f_X12_is (hW.s rfl) rfl rfl rfl rfl rfl ?_
      refine ev_loc f_X12_is (nx := 1) rfl rfl rfl rfl ?_
      refine ev_loc f_X12_is (nx := 2) rfl rfl rfl rfl ?_
      refine ev_putI f_X12_is (nx := 5) rfl (hW.s rfl) rfl rfl rfl ?_
      refine ev_loc f_X12_is (nx := 6) rfl rfl rfl rfl ?_
      refine ev_f f_X12_is (t1 := 9) (t2 := 13) rfl rfl rfl (by decide) ?_
      refine ev_ic f_X12_is (nx := 14) (v := 0) rfl (by decide) rfl ?_
      refine ev_retK1 f_X12_is rfl rfl rfl ?_
      refine ev_retK1 f_X12_doubt rfl rfl rfl ?_
      refine ev_t f_L_law (t1 := 1628) (t2 := 1060) rfl rfl rfl (by decide) ?_
      refine ev_incv f_L_law (nx := 1631) (c := 6) (w := 6) (lo' := [(3, .int 6), (2, .ref 69), (1, .ref 0), (0, .retAddr 30)]) rfl rfl (by decide) (by decide) rfl rfl rfl ?_
      refine ev_jmp f_L_law (nx := 18) rfl rfl rfl ?_
      refine ev_loc f_L_law (nx := 19) rfl rfl rfl rfl ?_
      refine ev_loc f_L_law (nx := 20) rfl rfl rfl rfl ?_
      refine ev_alenX f_L_law (nx := 21) rfl hX rfl ?_
      refine ev_bp f_L_law (nx := 23) (v := 6) rfl (by decide) rfl ?_
      refine ev_aluvI f_L_law (nx := 24) (w := 0) rfl rfl rfl (by decide) rfl ?_
      refine ev_t f_L_law (t1 := 1634) (t2 := 27) rfl rfl rfl (by decide) ?_
      refine ev_ic f_L_law (nx := 1635) (v := 1) rfl (by decide) rfl ?_
      refine ev_ret f_L_law rfl rfl rfl ?_
      exact ⟨rfl, hz⟩
end XC
