/-! ===== printed by gen63.py: calls walked in place ===== -/
section XC
variable {X : x_Ext} {sh : List (Nat ⊕ (Nat × Nat))} {gi : Nat → Nat → Int32} {gl : Nat → Nat → Int64} {gr : Nat → Nat → Value}
set_option maxRecDepth 20000 in
theorem pc_24 (hR : x_R W1 (sh, gi, gl, gr)) (hX : X.1 = 6) : x_Ev X 1000 n_L_law 1062 [(3, .int 0), (2, .ref 69), (1, .ref 0), (0, .retAddr 30)] [] (sh, gi, gl, gr) x_P1 := by
  have hW := W1_WF hR
  have hz := W1_hz hR
  refine ev_loc f_L_law (nx := 1063) rfl rfl rfl rfl ?_
  refine ev_inV1 f_L_law (nx := 1066) (lo2 := [(0, .ref 0)]) rfl rfl rfl rfl f_X11_alike (hW.s rfl) rfl rfl rfl rfl rfl ?_
  refine ev_loc f_X11_alike (nx := 1) rfl rfl rfl rfl ?_
  refine ev_loc f_X11_alike (nx := 2) rfl rfl rfl rfl ?_
  refine ev_getR f_X11_alike (nx := 5) rfl (hW.s rfl) rfl rfl (wr_0_6 (gr := gr) hR) rfl rfl ?_
  refine ev_loc f_X11_alike (nx := 6) rfl rfl rfl rfl ?_
  refine ev_getR f_X11_alike (nx := 9) rfl (hW.s rfl) rfl rfl (wr_0_6 (gr := gr) hR) rfl rfl ?_
  refine ev_gvI f_X11_alike (nx := 12) (w := 0) rfl (hW.s rfl) rfl rfl (wi_3_6 (gi := gi) hR) rfl ?_
  refine ev_inV2 f_X11_alike (nx := 15) (lo2 := [(0, .ref 3), (1, .int 0)]) rfl rfl rfl rfl f_X5_couplesAlike (hW.s rfl) rfl rfl rfl rfl rfl ?_
  refine ev_ic f_X5_couplesAlike (nx := 1) (v := 0) rfl (by decide) rfl ?_
  refine ev_loc f_X5_couplesAlike (nx := 2) (lo' := [(2, .int 0), (0, .ref 3), (1, .int 0)]) rfl rfl rfl rfl ?_
  refine ev_ic f_X5_couplesAlike (nx := 3) (v := 0) rfl (by decide) rfl ?_
  refine ev_loc f_X5_couplesAlike (nx := 4) (lo' := [(3, .int 0), (2, .int 0), (0, .ref 3), (1, .int 0)]) rfl rfl rfl rfl ?_
  refine ev_loc f_X5_couplesAlike (nx := 5) rfl rfl rfl rfl ?_
  refine ev_loc f_X5_couplesAlike (nx := 6) rfl rfl rfl rfl ?_
  refine ev_gvI f_X5_couplesAlike (nx := 9) (w := 0) rfl (hW.s rfl) rfl rfl (wi_3_0 (gi := gi) hR) rfl ?_
  refine ev_t f_X5_couplesAlike (t1 := 66) (t2 := 12) rfl rfl rfl (by decide) ?_
  refine ev_loc f_X5_couplesAlike (nx := 67) rfl rfl rfl rfl ?_
  refine ev_retK1 f_X5_couplesAlike rfl rfl rfl ?_
  refine ev_inV2 f_X11_alike (nx := 18) (lo2 := [(0, .ref 0), (1, .int 0)]) rfl rfl rfl rfl f_X11_answer (hW.s rfl) rfl rfl rfl rfl rfl ?_
  refine ev_loc f_X11_answer (nx := 1) rfl rfl rfl rfl ?_
  refine ev_ic f_X11_answer (nx := 2) (v := 0) rfl (by decide) rfl ?_
  refine ev_putI f_X11_answer (nx := 5) rfl (hW.s rfl) rfl rfl rfl ?_
  refine ev_loc f_X11_answer (nx := 6) rfl rfl rfl rfl ?_
  refine ev_retK1 f_X11_answer rfl rfl rfl ?_
  refine ev_retK1 f_X11_alike rfl rfl rfl ?_
  refine ev_loc f_L_law (nx := 1067) rfl rfl rfl rfl ?_
  refine ev_inV1 f_L_law (nx := 1070) (lo2 := [(0, .ref 69)]) rfl rfl rfl rfl f_X12_alike (hW.s rfl) rfl rfl rfl rfl rfl ?_
  refine ev_loc f_X12_alike (nx := 1) rfl rfl rfl rfl ?_
  refine ev_loc f_X12_alike (nx := 2) rfl rfl rfl rfl ?_
  refine ev_loc f_X12_alike (nx := 3) rfl rfl rfl rfl ?_
  refine ev_getR f_X12_alike (nx := 6) rfl (hW.s rfl) rfl rfl (hW.r rfl) rfl rfl ?_
  refine ev_bp f_X12_alike (nx := 8) (v := 7) rfl (by decide) rfl ?_
  refine ev_ialdv f_X12_alike (nx := 9) (j := 7) (w := 0) rfl (hW.s rfl) (by decide) (by decide) (by decide) (wi_70_7 (gi := gi) hR) rfl ?_
  refine ev_inV2 f_X12_alike (nx := 12) (lo2 := [(0, .ref 69), (1, .int 0)]) rfl rfl rfl rfl f_X12_alikeBy (hW.s rfl) rfl rfl rfl rfl rfl ?_
  refine ev_ic f_X12_alikeBy (nx := 1) (v := 0) rfl (by decide) rfl ?_
  refine ev_loc f_X12_alikeBy (nx := 2) (lo' := [(2, .int 0), (0, .ref 69), (1, .int 0)]) rfl rfl rfl rfl ?_
  refine ev_ic f_X12_alikeBy (nx := 3) (v := 0) rfl (by decide) rfl ?_
  refine ev_loc f_X12_alikeBy (nx := 4) (lo' := [(3, .int 0), (2, .int 0), (0, .ref 69), (1, .int 0)]) rfl rfl rfl rfl ?_
  refine ev_loc f_X12_alikeBy (nx := 5) rfl rfl rfl rfl ?_
  refine ev_loc f_X12_alikeBy (nx := 6) rfl rfl rfl rfl ?_
  refine ev_getR f_X12_alikeBy (nx := 9) rfl (hW.s rfl) rfl rfl (hW.r rfl) rfl rfl ?_
  refine ev_ic f_X12_alikeBy (nx := 10) (v := 0) rfl (by decide) rfl ?_
  refine ev_ialdv f_X12_alikeBy (nx := 11) (j := 0) (w := 0) rfl (hW.s rfl) (by decide) (by decide) (by decide) (wi_70_0 (gi := gi) hR) rfl ?_
  refine ev_t f_X12_alikeBy (t1 := 73) (t2 := 14) rfl rfl rfl (by decide) ?_
  refine ev_loc f_X12_alikeBy (nx := 74) rfl rfl rfl rfl ?_
  refine ev_retK1 f_X12_alikeBy rfl rfl rfl ?_
  refine ev_inV2 f_X12_alike (nx := 15) (lo2 := [(0, .ref 69), (1, .int 0)]) rfl rfl rfl rfl f_X12_gives (hW.s rfl) rfl rfl rfl rfl rfl ?_
  refine ev_loc f_X12_gives (nx := 1) rfl rfl rfl rfl ?_
  refine ev_ic f_X12_gives (nx := 2) (v := 0) rfl (by decide) rfl ?_
  refine ev_putI f_X12_gives (nx := 5) rfl (hW.s rfl) rfl rfl rfl ?_
  refine ev_loc f_X12_gives (nx := 6) rfl rfl rfl rfl ?_
  refine ev_retK1 f_X12_gives rfl rfl rfl ?_
  refine ev_retK1 f_X12_alike rfl rfl rfl ?_
  refine ev_t f_L_law (t1 := 1628) (t2 := 1073) rfl rfl rfl (by decide) ?_
  refine ev_incv f_L_law (nx := 1631) (c := 6) (w := 6) (lo' := [(3, .int 6), (2, .ref 69), (1, .ref 0), (0, .retAddr 30)]) rfl rfl (by decide) (by decide) rfl rfl rfl ?_
  refine ev_jmp f_L_law (nx := 18) rfl rfl rfl ?_
  refine ev_loc f_L_law (nx := 19) rfl rfl rfl rfl ?_
  refine ev_loc f_L_law (nx := 20) rfl rfl rfl rfl ?_
  refine ev_alenX f_L_law (nx := 21) rfl hX rfl ?_
  refine ev_bp f_L_law (nx := 23) (v := 6) rfl (by decide) rfl ?_
  refine ev_aluvI f_L_law (nx := 24) (w := 0) rfl rfl rfl (by decide) rfl ?_
  refine ev_t f_L_law (t1 := 1634) (t2 := 27) rfl rfl rfl (by decide) ?_
  refine ev_ic f_L_law (nx := 1635) (v := 1) rfl (by decide) rfl ?_
  refine ev_ret f_L_law rfl rfl rfl ?_
  exact ⟨rfl, hz⟩
set_option maxRecDepth 20000 in
theorem pc_26 (hR : x_R W1 (sh, gi, gl, gr)) (hX : X.1 = 6) : x_Ev X 1000 n_L_law 1118 [(3, .int 0), (2, .ref 69), (1, .ref 0), (0, .retAddr 30)] [] (sh, gi, gl, gr) x_P1 := by
  have hW := W1_WF hR
  have hz := W1_hz hR
  refine ev_loc f_L_law (nx := 1119) rfl rfl rfl rfl ?_
  refine ev_loc f_L_law (nx := 1120) rfl rfl rfl rfl ?_
  refine ev_loc f_L_law (nx := 1121) rfl rfl rfl rfl ?_
  refine ev_ic f_L_law (nx := 1122) (v := 1) rfl (by decide) rfl ?_
  refine ev_aluvI f_L_law (nx := 1123) (w := 1) rfl rfl rfl (by decide) rfl ?_
  refine ev_scr f_L_law (nx := 1124) (j := 1) rfl hX (by decide) (by decide) (by decide) rfl ?_
  refine ev_inV2 f_L_law (nx := 1127) (lo2 := [(0, .ref 0), (1, .int ((X.2 1)))]) rfl rfl rfl rfl f_X11_codeAt (hW.s rfl) rfl rfl rfl rfl rfl ?_
  refine ev_loc f_X11_codeAt (nx := 1) rfl rfl rfl rfl ?_
  refine ev_if f_X11_codeAt (t1 := 15) (t2 := 4) rfl rfl rfl (fun h9 => ?_) (fun h9 => ?_)
  · have q9 := h9; rw [Int32.lt_iff_toInt_lt, (by decide : (0 : Int32).toInt = 0)] at q9
    refine ev_loc f_X11_codeAt (nx := 16) rfl rfl rfl rfl ?_
    refine ev_bp f_X11_codeAt (nx := 18) (v := 6) rfl (by decide) rfl ?_
    refine ev_inV2 f_X11_codeAt (nx := 21) (lo2 := [(0, .ref 0), (1, .int 6)]) rfl rfl rfl rfl f_X11_refuse (hW.s rfl) rfl rfl rfl rfl rfl ?_
    refine ev_loc f_X11_refuse (nx := 1) rfl rfl rfl rfl ?_
    refine ev_loc f_X11_refuse (nx := 2) rfl rfl rfl rfl ?_
    refine ev_putI f_X11_refuse (nx := 5) rfl (hW.s rfl) rfl rfl rfl ?_
    refine ev_ic f_X11_refuse (nx := 6) (v := -1) rfl (by decide) rfl ?_
    refine ev_retK1 f_X11_refuse rfl rfl rfl ?_
    refine ev_aluvL f_X11_codeAt (nx := 22) (w := -1) rfl rfl rfl (by decide) rfl ?_
    refine ev_retK1 f_X11_codeAt rfl rfl rfl ?_
    refine ev_loc f_L_law (nx := 1128) rfl rfl rfl rfl ?_
    refine ev_loc f_L_law (nx := 1129) rfl rfl rfl rfl ?_
    refine ev_loc f_L_law (nx := 1130) rfl rfl rfl rfl ?_
    refine ev_ic f_L_law (nx := 1131) (v := 1) rfl (by decide) rfl ?_
    refine ev_aluvI f_L_law (nx := 1132) (w := 1) rfl rfl rfl (by decide) rfl ?_
    refine ev_scr f_L_law (nx := 1133) (j := 1) rfl hX (by decide) (by decide) (by decide) rfl ?_
    refine ev_inV2 f_L_law (nx := 1136) (lo2 := [(0, .ref 69), (1, .int ((X.2 1)))]) rfl rfl rfl rfl f_X12_codeAt (hW.s rfl) rfl rfl rfl rfl rfl ?_
    refine ev_loc f_X12_codeAt (nx := 1) rfl rfl rfl rfl ?_
    refine ev_t f_X12_codeAt (t1 := 12) (t2 := 4) rfl rfl rfl (by rw [Int32.lt_iff_toInt_lt, (by decide : (0 : Int32).toInt = 0)]; omega) ?_
    refine ev_loc f_X12_codeAt (nx := 13) rfl rfl rfl rfl ?_
    refine ev_bp f_X12_codeAt (nx := 15) (v := 6) rfl (by decide) rfl ?_
    refine ev_inV2 f_X12_codeAt (nx := 18) (lo2 := [(0, .ref 69), (1, .int 6)]) rfl rfl rfl rfl f_X12_refuse (hW.s rfl) rfl rfl rfl rfl rfl ?_
    refine ev_loc f_X12_refuse (nx := 1) rfl rfl rfl rfl ?_
    refine ev_loc f_X12_refuse (nx := 2) rfl rfl rfl rfl ?_
    refine ev_putI f_X12_refuse (nx := 5) rfl (hW.s rfl) rfl rfl rfl ?_
    refine ev_ic f_X12_refuse (nx := 6) (v := -1) rfl (by decide) rfl ?_
    refine ev_retK1 f_X12_refuse rfl rfl rfl ?_
    refine ev_aluvL f_X12_codeAt (nx := 19) (w := -1) rfl rfl rfl (by decide) rfl ?_
    refine ev_jmp f_X12_codeAt (nx := 32) rfl rfl rfl ?_
    refine ev_retK1 f_X12_codeAt rfl rfl rfl ?_
    refine ev_aluvI f_L_law (nx := 1137) (w := 0) rfl rfl rfl (by decide) rfl ?_
    refine ev_t f_L_law (t1 := 1628) (t2 := 1140) rfl rfl rfl (by decide) ?_
    refine ev_incv f_L_law (nx := 1631) (c := 6) (w := 6) (lo' := [(3, .int 6), (2, .ref 69), (1, .ref 0), (0, .retAddr 30)]) rfl rfl (by decide) (by decide) rfl rfl rfl ?_
    refine ev_jmp f_L_law (nx := 18) rfl rfl rfl ?_
    refine ev_loc f_L_law (nx := 19) rfl rfl rfl rfl ?_
    refine ev_loc f_L_law (nx := 20) rfl rfl rfl rfl ?_
    refine ev_alenX f_L_law (nx := 21) rfl hX rfl ?_
    refine ev_bp f_L_law (nx := 23) (v := 6) rfl (by decide) rfl ?_
    refine ev_aluvI f_L_law (nx := 24) (w := 0) rfl rfl rfl (by decide) rfl ?_
    refine ev_t f_L_law (t1 := 1634) (t2 := 27) rfl rfl rfl (by decide) ?_
    refine ev_ic f_L_law (nx := 1635) (v := 1) rfl (by decide) rfl ?_
    refine ev_ret f_L_law rfl rfl rfl ?_
    exact ⟨rfl, hz⟩
  · have q9 := h9; rw [Int32.lt_iff_toInt_lt, (by decide : (0 : Int32).toInt = 0)] at q9
    refine ev_loc f_X11_codeAt (nx := 5) rfl rfl rfl rfl ?_
    refine ev_loc f_X11_codeAt (nx := 6) rfl rfl rfl rfl ?_
    refine ev_getR f_X11_codeAt (nx := 9) rfl (hW.s rfl) rfl rfl (hW.r rfl) rfl rfl ?_
    refine ev_gvI f_X11_codeAt (nx := 12) (w := 0) rfl (hW.s rfl) rfl rfl (wi_22_6 (gi := gi) hR) rfl ?_
    refine ev_f f_X11_codeAt (t1 := 23) (t2 := 15) rfl rfl rfl (by rw [Int32.lt_iff_toInt_lt, (by decide : (0 : Int32).toInt = 0)]; omega) ?_
    refine ev_loc f_X11_codeAt (nx := 16) rfl rfl rfl rfl ?_
    refine ev_bp f_X11_codeAt (nx := 18) (v := 6) rfl (by decide) rfl ?_
    refine ev_inV2 f_X11_codeAt (nx := 21) (lo2 := [(0, .ref 0), (1, .int 6)]) rfl rfl rfl rfl f_X11_refuse (hW.s rfl) rfl rfl rfl rfl rfl ?_
    refine ev_loc f_X11_refuse (nx := 1) rfl rfl rfl rfl ?_
    refine ev_loc f_X11_refuse (nx := 2) rfl rfl rfl rfl ?_
    refine ev_putI f_X11_refuse (nx := 5) rfl (hW.s rfl) rfl rfl rfl ?_
    refine ev_ic f_X11_refuse (nx := 6) (v := -1) rfl (by decide) rfl ?_
    refine ev_retK1 f_X11_refuse rfl rfl rfl ?_
    refine ev_aluvL f_X11_codeAt (nx := 22) (w := -1) rfl rfl rfl (by decide) rfl ?_
    refine ev_retK1 f_X11_codeAt rfl rfl rfl ?_
    refine ev_loc f_L_law (nx := 1128) rfl rfl rfl rfl ?_
    refine ev_loc f_L_law (nx := 1129) rfl rfl rfl rfl ?_
    refine ev_loc f_L_law (nx := 1130) rfl rfl rfl rfl ?_
    refine ev_ic f_L_law (nx := 1131) (v := 1) rfl (by decide) rfl ?_
    refine ev_aluvI f_L_law (nx := 1132) (w := 1) rfl rfl rfl (by decide) rfl ?_
    refine ev_scr f_L_law (nx := 1133) (j := 1) rfl hX (by decide) (by decide) (by decide) rfl ?_
    refine ev_inV2 f_L_law (nx := 1136) (lo2 := [(0, .ref 69), (1, .int ((X.2 1)))]) rfl rfl rfl rfl f_X12_codeAt (hW.s rfl) rfl rfl rfl rfl rfl ?_
    refine ev_loc f_X12_codeAt (nx := 1) rfl rfl rfl rfl ?_
    refine ev_f f_X12_codeAt (t1 := 12) (t2 := 4) rfl rfl rfl (by rw [Int32.lt_iff_toInt_lt, (by decide : (0 : Int32).toInt = 0)]; omega) ?_
    refine ev_loc f_X12_codeAt (nx := 5) rfl rfl rfl rfl ?_
    refine ev_loc f_X12_codeAt (nx := 6) rfl rfl rfl rfl ?_
    refine ev_gvI f_X12_codeAt (nx := 9) (w := 0) rfl (hW.s rfl) rfl rfl (wi_69_40 (gi := gi) hR) rfl ?_
    refine ev_f f_X12_codeAt (t1 := 22) (t2 := 12) rfl rfl rfl (by rw [Int32.lt_iff_toInt_lt, (by decide : (0 : Int32).toInt = 0)]; omega) ?_
    refine ev_loc f_X12_codeAt (nx := 13) rfl rfl rfl rfl ?_
    refine ev_bp f_X12_codeAt (nx := 15) (v := 6) rfl (by decide) rfl ?_
    refine ev_inV2 f_X12_codeAt (nx := 18) (lo2 := [(0, .ref 69), (1, .int 6)]) rfl rfl rfl rfl f_X12_refuse (hW.s rfl) rfl rfl rfl rfl rfl ?_
    refine ev_loc f_X12_refuse (nx := 1) rfl rfl rfl rfl ?_
    refine ev_loc f_X12_refuse (nx := 2) rfl rfl rfl rfl ?_
    refine ev_putI f_X12_refuse (nx := 5) rfl (hW.s rfl) rfl rfl rfl ?_
    refine ev_ic f_X12_refuse (nx := 6) (v := -1) rfl (by decide) rfl ?_
    refine ev_retK1 f_X12_refuse rfl rfl rfl ?_
    refine ev_aluvL f_X12_codeAt (nx := 19) (w := -1) rfl rfl rfl (by decide) rfl ?_
    refine ev_jmp f_X12_codeAt (nx := 32) rfl rfl rfl ?_
    refine ev_retK1 f_X12_codeAt rfl rfl rfl ?_
    refine ev_aluvI f_L_law (nx := 1137) (w := 0) rfl rfl rfl (by decide) rfl ?_
    refine ev_t f_L_law (t1 := 1628) (t2 := 1140) rfl rfl rfl (by decide) ?_
    refine ev_incv f_L_law (nx := 1631) (c := 6) (w := 6) (lo' := [(3, .int 6), (2, .ref 69), (1, .ref 0), (0, .retAddr 30)]) rfl rfl (by decide) (by decide) rfl rfl rfl ?_
    refine ev_jmp f_L_law (nx := 18) rfl rfl rfl ?_
    refine ev_loc f_L_law (nx := 19) rfl rfl rfl rfl ?_
    refine ev_loc f_L_law (nx := 20) rfl rfl rfl rfl ?_
    refine ev_alenX f_L_law (nx := 21) rfl hX rfl ?_
    refine ev_bp f_L_law (nx := 23) (v := 6) rfl (by decide) rfl ?_
    refine ev_aluvI f_L_law (nx := 24) (w := 0) rfl rfl rfl (by decide) rfl ?_
    refine ev_t f_L_law (t1 := 1634) (t2 := 27) rfl rfl rfl (by decide) ?_
    refine ev_ic f_L_law (nx := 1635) (v := 1) rfl (by decide) rfl ?_
    refine ev_ret f_L_law rfl rfl rfl ?_
    exact ⟨rfl, hz⟩
set_option maxRecDepth 20000 in
theorem pc_27 (hR : x_R W1 (sh, gi, gl, gr)) (hX : X.1 = 6) : x_Ev X 1000 n_L_law 1142 [(3, .int 0), (2, .ref 69), (1, .ref 0), (0, .retAddr 30)] [] (sh, gi, gl, gr) x_P1 := by
  have hW := W1_WF hR
  have hz := W1_hz hR
  refine ev_loc f_L_law (nx := 1143) rfl rfl rfl rfl ?_
  refine ev_loc f_L_law (nx := 1144) rfl rfl rfl rfl ?_
  refine ev_loc f_L_law (nx := 1145) rfl rfl rfl rfl ?_
  refine ev_ic f_L_law (nx := 1146) (v := 1) rfl (by decide) rfl ?_
  refine ev_aluvI f_L_law (nx := 1147) (w := 1) rfl rfl rfl (by decide) rfl ?_
  refine ev_scr f_L_law (nx := 1148) (j := 1) rfl hX (by decide) (by decide) (by decide) rfl ?_
  refine ev_alu f_L_law (nx := 1149) rfl rfl rfl rfl ?_
  refine ev_bp f_L_law (nx := 1151) (v := 32) rfl (by decide) rfl ?_
  refine ev_alu f_L_law (nx := 1152) rfl rfl rfl rfl ?_
  refine ev_loc f_L_law (nx := 1153) rfl rfl rfl rfl ?_
  refine ev_loc f_L_law (nx := 1154) rfl rfl rfl rfl ?_
  refine ev_ic f_L_law (nx := 1155) (v := 2) rfl (by decide) rfl ?_
  refine ev_aluvI f_L_law (nx := 1156) (w := 2) rfl rfl rfl (by decide) rfl ?_
  refine ev_scr f_L_law (nx := 1157) (j := 2) rfl hX (by decide) (by decide) (by decide) rfl ?_
  refine ev_alu f_L_law (nx := 1158) rfl rfl rfl rfl ?_
  refine ev_ldL f_L_law (nx := 1161) (v := 4294967295) rfl (by decide) rfl ?_
  refine ev_alu f_L_law (nx := 1162) rfl rfl rfl rfl ?_
  refine ev_alu f_L_law (nx := 1163) rfl rfl rfl rfl ?_
  refine ev_inV2 f_L_law (nx := 1166) (lo2 := [(0, .ref 0), (1, .long (((((X.2 1) : Int32).toInt64 <<< ((32 : Int32).toInt64 &&& 63)) ||| (((X.2 2) : Int32).toInt64 &&& 4294967295))))]) rfl rfl rfl rfl f_X11_parts (hW.s rfl) rfl rfl rfl rfl rfl ?_
  refine ev_loc f_X11_parts (nx := 1) rfl rfl rfl rfl ?_
  refine ev_lc f_X11_parts (nx := 2) (v := 1) rfl (by decide) rfl ?_
  refine ev_alu f_X11_parts (nx := 3) rfl rfl rfl rfl ?_
  refine ev_if f_X11_parts (t1 := 12) (t2 := 6) rfl rfl rfl (fun h23 => ?_) (fun h23 => ?_)
  · refine ev_ic f_X11_parts (nx := 13) (v := 0) rfl (by decide) rfl ?_
    refine ev_loc f_X11_parts (nx := 14) (lo' := [(3, .int 0), (0, .ref 0), (1, .long (((((X.2 1) : Int32).toInt64 <<< ((32 : Int32).toInt64 &&& 63)) ||| (((X.2 2) : Int32).toInt64 &&& 4294967295))))]) rfl rfl rfl rfl ?_
    refine ev_ic f_X11_parts (nx := 15) (v := 0) rfl (by decide) rfl ?_
    refine ev_loc f_X11_parts (nx := 17) (lo' := [(4, .int 0), (3, .int 0), (0, .ref 0), (1, .long (((((X.2 1) : Int32).toInt64 <<< ((32 : Int32).toInt64 &&& 63)) ||| (((X.2 2) : Int32).toInt64 &&& 4294967295))))]) rfl rfl rfl rfl ?_
    refine ev_loc f_X11_parts (nx := 19) rfl rfl rfl rfl ?_
    refine ev_loc f_X11_parts (nx := 20) rfl rfl rfl rfl ?_
    refine ev_getR f_X11_parts (nx := 23) rfl (hW.s rfl) rfl rfl (wr_0_6 (gr := gr) hR) rfl rfl ?_
    refine ev_gvI f_X11_parts (nx := 26) (w := 0) rfl (hW.s rfl) rfl rfl (wi_3_0 (gi := gi) hR) rfl ?_
    refine ev_t f_X11_parts (t1 := 62) (t2 := 29) rfl rfl rfl (by decide) ?_
    refine ev_loc f_X11_parts (nx := 63) rfl rfl rfl rfl ?_
    refine ev_loc f_X11_parts (nx := 64) rfl rfl rfl rfl ?_
    refine ev_inV2 f_X11_parts (nx := 67) (lo2 := [(0, .ref 0), (1, .int 0)]) rfl rfl rfl rfl f_X11_answer (hW.s rfl) rfl rfl rfl rfl rfl ?_
    refine ev_loc f_X11_answer (nx := 1) rfl rfl rfl rfl ?_
    refine ev_ic f_X11_answer (nx := 2) (v := 0) rfl (by decide) rfl ?_
    refine ev_putI f_X11_answer (nx := 5) rfl (hW.s rfl) rfl rfl rfl ?_
    refine ev_loc f_X11_answer (nx := 6) rfl rfl rfl rfl ?_
    refine ev_retK1 f_X11_answer rfl rfl rfl ?_
    refine ev_retK1 f_X11_parts rfl rfl rfl ?_
    refine ev_loc f_L_law (nx := 1167) rfl rfl rfl rfl ?_
    refine ev_loc f_L_law (nx := 1168) rfl rfl rfl rfl ?_
    refine ev_loc f_L_law (nx := 1169) rfl rfl rfl rfl ?_
    refine ev_ic f_L_law (nx := 1170) (v := 1) rfl (by decide) rfl ?_
    refine ev_aluvI f_L_law (nx := 1171) (w := 1) rfl rfl rfl (by decide) rfl ?_
    refine ev_scr f_L_law (nx := 1172) (j := 1) rfl hX (by decide) (by decide) (by decide) rfl ?_
    refine ev_alu f_L_law (nx := 1173) rfl rfl rfl rfl ?_
    refine ev_bp f_L_law (nx := 1175) (v := 32) rfl (by decide) rfl ?_
    refine ev_alu f_L_law (nx := 1176) rfl rfl rfl rfl ?_
    refine ev_loc f_L_law (nx := 1177) rfl rfl rfl rfl ?_
    refine ev_loc f_L_law (nx := 1178) rfl rfl rfl rfl ?_
    refine ev_ic f_L_law (nx := 1179) (v := 2) rfl (by decide) rfl ?_
    refine ev_aluvI f_L_law (nx := 1180) (w := 2) rfl rfl rfl (by decide) rfl ?_
    refine ev_scr f_L_law (nx := 1181) (j := 2) rfl hX (by decide) (by decide) (by decide) rfl ?_
    refine ev_alu f_L_law (nx := 1182) rfl rfl rfl rfl ?_
    refine ev_ldL f_L_law (nx := 1185) (v := 4294967295) rfl (by decide) rfl ?_
    refine ev_alu f_L_law (nx := 1186) rfl rfl rfl rfl ?_
    refine ev_alu f_L_law (nx := 1187) rfl rfl rfl rfl ?_
    refine ev_inV2 f_L_law (nx := 1190) (lo2 := [(0, .ref 69), (1, .long (((((X.2 1) : Int32).toInt64 <<< ((32 : Int32).toInt64 &&& 63)) ||| (((X.2 2) : Int32).toInt64 &&& 4294967295))))]) rfl rfl rfl rfl f_X12_parts (hW.s rfl) rfl rfl rfl rfl rfl ?_
    refine ev_loc f_X12_parts (nx := 1) rfl rfl rfl rfl ?_
    refine ev_lc f_X12_parts (nx := 2) (v := 1) rfl (by decide) rfl ?_
    refine ev_alu f_X12_parts (nx := 3) rfl rfl rfl rfl ?_
    refine ev_t f_X12_parts (t1 := 12) (t2 := 6) rfl rfl rfl h23 ?_
    refine ev_ic f_X12_parts (nx := 13) (v := 0) rfl (by decide) rfl ?_
    refine ev_loc f_X12_parts (nx := 14) (lo' := [(3, .int 0), (0, .ref 69), (1, .long (((((X.2 1) : Int32).toInt64 <<< ((32 : Int32).toInt64 &&& 63)) ||| (((X.2 2) : Int32).toInt64 &&& 4294967295))))]) rfl rfl rfl rfl ?_
    refine ev_ic f_X12_parts (nx := 15) (v := 0) rfl (by decide) rfl ?_
    refine ev_loc f_X12_parts (nx := 17) (lo' := [(4, .int 0), (3, .int 0), (0, .ref 69), (1, .long (((((X.2 1) : Int32).toInt64 <<< ((32 : Int32).toInt64 &&& 63)) ||| (((X.2 2) : Int32).toInt64 &&& 4294967295))))]) rfl rfl rfl rfl ?_
    refine ev_loc f_X12_parts (nx := 19) rfl rfl rfl rfl ?_
    refine ev_loc f_X12_parts (nx := 20) rfl rfl rfl rfl ?_
    refine ev_getR f_X12_parts (nx := 23) rfl (hW.s rfl) rfl rfl (hW.r rfl) rfl rfl ?_
    refine ev_ic f_X12_parts (nx := 24) (v := 0) rfl (by decide) rfl ?_
    refine ev_ialdv f_X12_parts (nx := 25) (j := 0) (w := 0) rfl (hW.s rfl) (by decide) (by decide) (by decide) (wi_70_0 (gi := gi) hR) rfl ?_
    refine ev_t f_X12_parts (t1 := 62) (t2 := 28) rfl rfl rfl (by decide) ?_
    refine ev_loc f_X12_parts (nx := 63) rfl rfl rfl rfl ?_
    refine ev_loc f_X12_parts (nx := 64) rfl rfl rfl rfl ?_
    refine ev_inV2 f_X12_parts (nx := 67) (lo2 := [(0, .ref 69), (1, .int 0)]) rfl rfl rfl rfl f_X12_gives (hW.s rfl) rfl rfl rfl rfl rfl ?_
    refine ev_loc f_X12_gives (nx := 1) rfl rfl rfl rfl ?_
    refine ev_ic f_X12_gives (nx := 2) (v := 0) rfl (by decide) rfl ?_
    refine ev_putI f_X12_gives (nx := 5) rfl (hW.s rfl) rfl rfl rfl ?_
    refine ev_loc f_X12_gives (nx := 6) rfl rfl rfl rfl ?_
    refine ev_retK1 f_X12_gives rfl rfl rfl ?_
    refine ev_retK1 f_X12_parts rfl rfl rfl ?_
    refine ev_t f_L_law (t1 := 1628) (t2 := 1193) rfl rfl rfl (by decide) ?_
    refine ev_incv f_L_law (nx := 1631) (c := 6) (w := 6) (lo' := [(3, .int 6), (2, .ref 69), (1, .ref 0), (0, .retAddr 30)]) rfl rfl (by decide) (by decide) rfl rfl rfl ?_
    refine ev_jmp f_L_law (nx := 18) rfl rfl rfl ?_
    refine ev_loc f_L_law (nx := 19) rfl rfl rfl rfl ?_
    refine ev_loc f_L_law (nx := 20) rfl rfl rfl rfl ?_
    refine ev_alenX f_L_law (nx := 21) rfl hX rfl ?_
    refine ev_bp f_L_law (nx := 23) (v := 6) rfl (by decide) rfl ?_
    refine ev_aluvI f_L_law (nx := 24) (w := 0) rfl rfl rfl (by decide) rfl ?_
    refine ev_t f_L_law (t1 := 1634) (t2 := 27) rfl rfl rfl (by decide) ?_
    refine ev_ic f_L_law (nx := 1635) (v := 1) rfl (by decide) rfl ?_
    refine ev_ret f_L_law rfl rfl rfl ?_
    exact ⟨rfl, hz⟩
  · refine ev_loc f_X11_parts (nx := 7) rfl rfl rfl rfl ?_
    refine ev_ic f_X11_parts (nx := 8) (v := 1) rfl (by decide) rfl ?_
    refine ev_inV2 f_X11_parts (nx := 11) (lo2 := [(0, .ref 0), (1, .int 1)]) rfl rfl rfl rfl f_X11_refuse (hW.s rfl) rfl rfl rfl rfl rfl ?_
    refine ev_loc f_X11_refuse (nx := 1) rfl rfl rfl rfl ?_
    refine ev_loc f_X11_refuse (nx := 2) rfl rfl rfl rfl ?_
    refine ev_putI f_X11_refuse (nx := 5) rfl (hW.s rfl) rfl rfl rfl ?_
    refine ev_ic f_X11_refuse (nx := 6) (v := -1) rfl (by decide) rfl ?_
    refine ev_retK1 f_X11_refuse rfl rfl rfl ?_
    refine ev_retK1 f_X11_parts rfl rfl rfl ?_
    refine ev_loc f_L_law (nx := 1167) rfl rfl rfl rfl ?_
    refine ev_loc f_L_law (nx := 1168) rfl rfl rfl rfl ?_
    refine ev_loc f_L_law (nx := 1169) rfl rfl rfl rfl ?_
    refine ev_ic f_L_law (nx := 1170) (v := 1) rfl (by decide) rfl ?_
    refine ev_aluvI f_L_law (nx := 1171) (w := 1) rfl rfl rfl (by decide) rfl ?_
    refine ev_scr f_L_law (nx := 1172) (j := 1) rfl hX (by decide) (by decide) (by decide) rfl ?_
    refine ev_alu f_L_law (nx := 1173) rfl rfl rfl rfl ?_
    refine ev_bp f_L_law (nx := 1175) (v := 32) rfl (by decide) rfl ?_
    refine ev_alu f_L_law (nx := 1176) rfl rfl rfl rfl ?_
    refine ev_loc f_L_law (nx := 1177) rfl rfl rfl rfl ?_
    refine ev_loc f_L_law (nx := 1178) rfl rfl rfl rfl ?_
    refine ev_ic f_L_law (nx := 1179) (v := 2) rfl (by decide) rfl ?_
    refine ev_aluvI f_L_law (nx := 1180) (w := 2) rfl rfl rfl (by decide) rfl ?_
    refine ev_scr f_L_law (nx := 1181) (j := 2) rfl hX (by decide) (by decide) (by decide) rfl ?_
    refine ev_alu f_L_law (nx := 1182) rfl rfl rfl rfl ?_
    refine ev_ldL f_L_law (nx := 1185) (v := 4294967295) rfl (by decide) rfl ?_
    refine ev_alu f_L_law (nx := 1186) rfl rfl rfl rfl ?_
    refine ev_alu f_L_law (nx := 1187) rfl rfl rfl rfl ?_
    refine ev_inV2 f_L_law (nx := 1190) (lo2 := [(0, .ref 69), (1, .long (((((X.2 1) : Int32).toInt64 <<< ((32 : Int32).toInt64 &&& 63)) ||| (((X.2 2) : Int32).toInt64 &&& 4294967295))))]) rfl rfl rfl rfl f_X12_parts (hW.s rfl) rfl rfl rfl rfl rfl ?_
    refine ev_loc f_X12_parts (nx := 1) rfl rfl rfl rfl ?_
    refine ev_lc f_X12_parts (nx := 2) (v := 1) rfl (by decide) rfl ?_
    refine ev_alu f_X12_parts (nx := 3) rfl rfl rfl rfl ?_
    refine ev_f f_X12_parts (t1 := 12) (t2 := 6) rfl rfl rfl h23 ?_
    refine ev_loc f_X12_parts (nx := 7) rfl rfl rfl rfl ?_
    refine ev_ic f_X12_parts (nx := 8) (v := 1) rfl (by decide) rfl ?_
    refine ev_inV2 f_X12_parts (nx := 11) (lo2 := [(0, .ref 69), (1, .int 1)]) rfl rfl rfl rfl f_X12_refuse (hW.s rfl) rfl rfl rfl rfl rfl ?_
    refine ev_loc f_X12_refuse (nx := 1) rfl rfl rfl rfl ?_
    refine ev_loc f_X12_refuse (nx := 2) rfl rfl rfl rfl ?_
    refine ev_putI f_X12_refuse (nx := 5) rfl (hW.s rfl) rfl rfl rfl ?_
    refine ev_ic f_X12_refuse (nx := 6) (v := -1) rfl (by decide) rfl ?_
    refine ev_retK1 f_X12_refuse rfl rfl rfl ?_
    refine ev_retK1 f_X12_parts rfl rfl rfl ?_
    refine ev_t f_L_law (t1 := 1628) (t2 := 1193) rfl rfl rfl (by decide) ?_
    refine ev_incv f_L_law (nx := 1631) (c := 6) (w := 6) (lo' := [(3, .int 6), (2, .ref 69), (1, .ref 0), (0, .retAddr 30)]) rfl rfl (by decide) (by decide) rfl rfl rfl ?_
    refine ev_jmp f_L_law (nx := 18) rfl rfl rfl ?_
    refine ev_loc f_L_law (nx := 19) rfl rfl rfl rfl ?_
    refine ev_loc f_L_law (nx := 20) rfl rfl rfl rfl ?_
    refine ev_alenX f_L_law (nx := 21) rfl hX rfl ?_
    refine ev_bp f_L_law (nx := 23) (v := 6) rfl (by decide) rfl ?_
    refine ev_aluvI f_L_law (nx := 24) (w := 0) rfl rfl rfl (by decide) rfl ?_
    refine ev_t f_L_law (t1 := 1634) (t2 := 27) rfl rfl rfl (by decide) ?_
    refine ev_ic f_L_law (nx := 1635) (v := 1) rfl (by decide) rfl ?_
    refine ev_ret f_L_law rfl rfl rfl ?_
    exact ⟨rfl, hz⟩
set_option maxRecDepth 20000 in
theorem pc_28 (hR : x_R W1 (sh, gi, gl, gr)) (hX : X.1 = 6) : x_Ev X 1000 n_L_law 1195 [(3, .int 0), (2, .ref 69), (1, .ref 0), (0, .retAddr 30)] [] (sh, gi, gl, gr) x_P1 := by
  have hW := W1_WF hR
  have hz := W1_hz hR
  refine ev_loc f_L_law (nx := 1196) rfl rfl rfl rfl ?_
  refine ev_loc f_L_law (nx := 1197) rfl rfl rfl rfl ?_
  refine ev_loc f_L_law (nx := 1198) rfl rfl rfl rfl ?_
  refine ev_ic f_L_law (nx := 1199) (v := 1) rfl (by decide) rfl ?_
  refine ev_aluvI f_L_law (nx := 1200) (w := 1) rfl rfl rfl (by decide) rfl ?_
  refine ev_scr f_L_law (nx := 1201) (j := 1) rfl hX (by decide) (by decide) (by decide) rfl ?_
  refine ev_loc f_L_law (nx := 1202) rfl rfl rfl rfl ?_
  refine ev_loc f_L_law (nx := 1203) rfl rfl rfl rfl ?_
  refine ev_ic f_L_law (nx := 1204) (v := 2) rfl (by decide) rfl ?_
  refine ev_aluvI f_L_law (nx := 1205) (w := 2) rfl rfl rfl (by decide) rfl ?_
  refine ev_scr f_L_law (nx := 1206) (j := 2) rfl hX (by decide) (by decide) (by decide) rfl ?_
  refine ev_inV3 f_L_law (nx := 1209) (lo2 := [(0, .ref 0), (1, .int ((X.2 1))), (2, .int ((X.2 2)))]) rfl rfl rfl rfl f_X11_clearBeats (hW.s rfl) rfl rfl rfl rfl rfl ?_
  refine ev_loc f_X11_clearBeats (nx := 1) rfl rfl rfl rfl ?_
  refine ev_loc f_X11_clearBeats (nx := 2) rfl rfl rfl rfl ?_
  refine ev_inV2 f_X11_clearBeats (nx := 5) (lo2 := [(0, .ref 0), (1, .int ((X.2 1)))]) rfl rfl rfl rfl f_X11_isPort (hW.s rfl) rfl rfl rfl rfl rfl ?_
  refine ev_loc f_X11_isPort (nx := 1) rfl rfl rfl rfl ?_
  refine ev_if f_X11_isPort (t1 := 19) (t2 := 4) rfl rfl rfl (fun h17 => ?_) (fun h17 => ?_)
  · have q17 := h17; rw [Int32.lt_iff_toInt_lt, (by decide : (0 : Int32).toInt = 0)] at q17
    refine ev_ic f_X11_isPort (nx := 20) (v := 0) rfl (by decide) rfl ?_
    refine ev_retK1 f_X11_isPort rfl rfl rfl ?_
    refine ev_t f_X11_clearBeats (t1 := 16) (t2 := 8) rfl rfl rfl (by decide) ?_
    refine ev_loc f_X11_clearBeats (nx := 17) rfl rfl rfl rfl ?_
    refine ev_ic f_X11_clearBeats (nx := 18) (v := 1) rfl (by decide) rfl ?_
    refine ev_inV2 f_X11_clearBeats (nx := 21) (lo2 := [(0, .ref 0), (1, .int 1)]) rfl rfl rfl rfl f_X11_refuse (hW.s rfl) rfl rfl rfl rfl rfl ?_
    refine ev_loc f_X11_refuse (nx := 1) rfl rfl rfl rfl ?_
    refine ev_loc f_X11_refuse (nx := 2) rfl rfl rfl rfl ?_
    refine ev_putI f_X11_refuse (nx := 5) rfl (hW.s rfl) rfl rfl rfl ?_
    refine ev_ic f_X11_refuse (nx := 6) (v := -1) rfl (by decide) rfl ?_
    refine ev_retK1 f_X11_refuse rfl rfl rfl ?_
    refine ev_retK1 f_X11_clearBeats rfl rfl rfl ?_
    refine ev_loc f_L_law (nx := 1210) rfl rfl rfl rfl ?_
    refine ev_loc f_L_law (nx := 1211) rfl rfl rfl rfl ?_
    refine ev_loc f_L_law (nx := 1212) rfl rfl rfl rfl ?_
    refine ev_ic f_L_law (nx := 1213) (v := 1) rfl (by decide) rfl ?_
    refine ev_aluvI f_L_law (nx := 1214) (w := 1) rfl rfl rfl (by decide) rfl ?_
    refine ev_scr f_L_law (nx := 1215) (j := 1) rfl hX (by decide) (by decide) (by decide) rfl ?_
    refine ev_loc f_L_law (nx := 1216) rfl rfl rfl rfl ?_
    refine ev_loc f_L_law (nx := 1217) rfl rfl rfl rfl ?_
    refine ev_ic f_L_law (nx := 1218) (v := 2) rfl (by decide) rfl ?_
    refine ev_aluvI f_L_law (nx := 1219) (w := 2) rfl rfl rfl (by decide) rfl ?_
    refine ev_scr f_L_law (nx := 1220) (j := 2) rfl hX (by decide) (by decide) (by decide) rfl ?_
    refine ev_inV3 f_L_law (nx := 1223) (lo2 := [(0, .ref 69), (1, .int ((X.2 1))), (2, .int ((X.2 2)))]) rfl rfl rfl rfl f_X12_clearBeats (hW.s rfl) rfl rfl rfl rfl rfl ?_
    refine ev_loc f_X12_clearBeats (nx := 1) rfl rfl rfl rfl ?_
    refine ev_loc f_X12_clearBeats (nx := 2) rfl rfl rfl rfl ?_
    refine ev_inV2 f_X12_clearBeats (nx := 5) (lo2 := [(0, .ref 69), (1, .int ((X.2 1)))]) rfl rfl rfl rfl f_X12_isPort (hW.s rfl) rfl rfl rfl rfl rfl ?_
    refine ev_loc f_X12_isPort (nx := 1) rfl rfl rfl rfl ?_
    refine ev_t f_X12_isPort (t1 := 18) (t2 := 4) rfl rfl rfl (by rw [Int32.lt_iff_toInt_lt, (by decide : (0 : Int32).toInt = 0)]; omega) ?_
    refine ev_ic f_X12_isPort (nx := 19) (v := 0) rfl (by decide) rfl ?_
    refine ev_retK1 f_X12_isPort rfl rfl rfl ?_
    refine ev_t f_X12_clearBeats (t1 := 16) (t2 := 8) rfl rfl rfl (by decide) ?_
    refine ev_loc f_X12_clearBeats (nx := 17) rfl rfl rfl rfl ?_
    refine ev_ic f_X12_clearBeats (nx := 18) (v := 1) rfl (by decide) rfl ?_
    refine ev_inV2 f_X12_clearBeats (nx := 21) (lo2 := [(0, .ref 69), (1, .int 1)]) rfl rfl rfl rfl f_X12_refuse (hW.s rfl) rfl rfl rfl rfl rfl ?_
    refine ev_loc f_X12_refuse (nx := 1) rfl rfl rfl rfl ?_
    refine ev_loc f_X12_refuse (nx := 2) rfl rfl rfl rfl ?_
    refine ev_putI f_X12_refuse (nx := 5) rfl (hW.s rfl) rfl rfl rfl ?_
    refine ev_ic f_X12_refuse (nx := 6) (v := -1) rfl (by decide) rfl ?_
    refine ev_retK1 f_X12_refuse rfl rfl rfl ?_
    refine ev_retK1 f_X12_clearBeats rfl rfl rfl ?_
    refine ev_t f_L_law (t1 := 1628) (t2 := 1226) rfl rfl rfl (by decide) ?_
    refine ev_incv f_L_law (nx := 1631) (c := 6) (w := 6) (lo' := [(3, .int 6), (2, .ref 69), (1, .ref 0), (0, .retAddr 30)]) rfl rfl (by decide) (by decide) rfl rfl rfl ?_
    refine ev_jmp f_L_law (nx := 18) rfl rfl rfl ?_
    refine ev_loc f_L_law (nx := 19) rfl rfl rfl rfl ?_
    refine ev_loc f_L_law (nx := 20) rfl rfl rfl rfl ?_
    refine ev_alenX f_L_law (nx := 21) rfl hX rfl ?_
    refine ev_bp f_L_law (nx := 23) (v := 6) rfl (by decide) rfl ?_
    refine ev_aluvI f_L_law (nx := 24) (w := 0) rfl rfl rfl (by decide) rfl ?_
    refine ev_t f_L_law (t1 := 1634) (t2 := 27) rfl rfl rfl (by decide) ?_
    refine ev_ic f_L_law (nx := 1635) (v := 1) rfl (by decide) rfl ?_
    refine ev_ret f_L_law rfl rfl rfl ?_
    exact ⟨rfl, hz⟩
  · have q17 := h17; rw [Int32.lt_iff_toInt_lt, (by decide : (0 : Int32).toInt = 0)] at q17
    refine ev_loc f_X11_isPort (nx := 5) rfl rfl rfl rfl ?_
    refine ev_loc f_X11_isPort (nx := 6) rfl rfl rfl rfl ?_
    refine ev_getR f_X11_isPort (nx := 9) rfl (hW.s rfl) rfl rfl (wr_0_6 (gr := gr) hR) rfl rfl ?_
    refine ev_gvI f_X11_isPort (nx := 12) (w := 0) rfl (hW.s rfl) rfl rfl (wi_3_0 (gi := gi) hR) rfl ?_
    refine ev_t f_X11_isPort (t1 := 19) (t2 := 15) rfl rfl rfl (by rw [Int32.le_iff_toInt_le, (by decide : (0 : Int32).toInt = 0)]; omega) ?_
    refine ev_ic f_X11_isPort (nx := 20) (v := 0) rfl (by decide) rfl ?_
    refine ev_retK1 f_X11_isPort rfl rfl rfl ?_
    refine ev_t f_X11_clearBeats (t1 := 16) (t2 := 8) rfl rfl rfl (by decide) ?_
    refine ev_loc f_X11_clearBeats (nx := 17) rfl rfl rfl rfl ?_
    refine ev_ic f_X11_clearBeats (nx := 18) (v := 1) rfl (by decide) rfl ?_
    refine ev_inV2 f_X11_clearBeats (nx := 21) (lo2 := [(0, .ref 0), (1, .int 1)]) rfl rfl rfl rfl f_X11_refuse (hW.s rfl) rfl rfl rfl rfl rfl ?_
    refine ev_loc f_X11_refuse (nx := 1) rfl rfl rfl rfl ?_
    refine ev_loc f_X11_refuse (nx := 2) rfl rfl rfl rfl ?_
    refine ev_putI f_X11_refuse (nx := 5) rfl (hW.s rfl) rfl rfl rfl ?_
    refine ev_ic f_X11_refuse (nx := 6) (v := -1) rfl (by decide) rfl ?_
    refine ev_retK1 f_X11_refuse rfl rfl rfl ?_
    refine ev_retK1 f_X11_clearBeats rfl rfl rfl ?_
    refine ev_loc f_L_law (nx := 1210) rfl rfl rfl rfl ?_
    refine ev_loc f_L_law (nx := 1211) rfl rfl rfl rfl ?_
    refine ev_loc f_L_law (nx := 1212) rfl rfl rfl rfl ?_
    refine ev_ic f_L_law (nx := 1213) (v := 1) rfl (by decide) rfl ?_
    refine ev_aluvI f_L_law (nx := 1214) (w := 1) rfl rfl rfl (by decide) rfl ?_
    refine ev_scr f_L_law (nx := 1215) (j := 1) rfl hX (by decide) (by decide) (by decide) rfl ?_
    refine ev_loc f_L_law (nx := 1216) rfl rfl rfl rfl ?_
    refine ev_loc f_L_law (nx := 1217) rfl rfl rfl rfl ?_
    refine ev_ic f_L_law (nx := 1218) (v := 2) rfl (by decide) rfl ?_
    refine ev_aluvI f_L_law (nx := 1219) (w := 2) rfl rfl rfl (by decide) rfl ?_
    refine ev_scr f_L_law (nx := 1220) (j := 2) rfl hX (by decide) (by decide) (by decide) rfl ?_
    refine ev_inV3 f_L_law (nx := 1223) (lo2 := [(0, .ref 69), (1, .int ((X.2 1))), (2, .int ((X.2 2)))]) rfl rfl rfl rfl f_X12_clearBeats (hW.s rfl) rfl rfl rfl rfl rfl ?_
    refine ev_loc f_X12_clearBeats (nx := 1) rfl rfl rfl rfl ?_
    refine ev_loc f_X12_clearBeats (nx := 2) rfl rfl rfl rfl ?_
    refine ev_inV2 f_X12_clearBeats (nx := 5) (lo2 := [(0, .ref 69), (1, .int ((X.2 1)))]) rfl rfl rfl rfl f_X12_isPort (hW.s rfl) rfl rfl rfl rfl rfl ?_
    refine ev_loc f_X12_isPort (nx := 1) rfl rfl rfl rfl ?_
    refine ev_f f_X12_isPort (t1 := 18) (t2 := 4) rfl rfl rfl (by rw [Int32.lt_iff_toInt_lt, (by decide : (0 : Int32).toInt = 0)]; omega) ?_
    refine ev_loc f_X12_isPort (nx := 5) rfl rfl rfl rfl ?_
    refine ev_loc f_X12_isPort (nx := 6) rfl rfl rfl rfl ?_
    refine ev_getR f_X12_isPort (nx := 9) rfl (hW.s rfl) rfl rfl (hW.r rfl) rfl rfl ?_
    refine ev_ic f_X12_isPort (nx := 10) (v := 0) rfl (by decide) rfl ?_
    refine ev_ialdv f_X12_isPort (nx := 11) (j := 0) (w := 0) rfl (hW.s rfl) (by decide) (by decide) (by decide) (wi_70_0 (gi := gi) hR) rfl ?_
    refine ev_t f_X12_isPort (t1 := 18) (t2 := 14) rfl rfl rfl (by rw [Int32.le_iff_toInt_le, (by decide : (0 : Int32).toInt = 0)]; omega) ?_
    refine ev_ic f_X12_isPort (nx := 19) (v := 0) rfl (by decide) rfl ?_
    refine ev_retK1 f_X12_isPort rfl rfl rfl ?_
    refine ev_t f_X12_clearBeats (t1 := 16) (t2 := 8) rfl rfl rfl (by decide) ?_
    refine ev_loc f_X12_clearBeats (nx := 17) rfl rfl rfl rfl ?_
    refine ev_ic f_X12_clearBeats (nx := 18) (v := 1) rfl (by decide) rfl ?_
    refine ev_inV2 f_X12_clearBeats (nx := 21) (lo2 := [(0, .ref 69), (1, .int 1)]) rfl rfl rfl rfl f_X12_refuse (hW.s rfl) rfl rfl rfl rfl rfl ?_
    refine ev_loc f_X12_refuse (nx := 1) rfl rfl rfl rfl ?_
    refine ev_loc f_X12_refuse (nx := 2) rfl rfl rfl rfl ?_
    refine ev_putI f_X12_refuse (nx := 5) rfl (hW.s rfl) rfl rfl rfl ?_
    refine ev_ic f_X12_refuse (nx := 6) (v := -1) rfl (by decide) rfl ?_
    refine ev_retK1 f_X12_refuse rfl rfl rfl ?_
    refine ev_retK1 f_X12_clearBeats rfl rfl rfl ?_
    refine ev_t f_L_law (t1 := 1628) (t2 := 1226) rfl rfl rfl (by decide) ?_
    refine ev_incv f_L_law (nx := 1631) (c := 6) (w := 6) (lo' := [(3, .int 6), (2, .ref 69), (1, .ref 0), (0, .retAddr 30)]) rfl rfl (by decide) (by decide) rfl rfl rfl ?_
    refine ev_jmp f_L_law (nx := 18) rfl rfl rfl ?_
    refine ev_loc f_L_law (nx := 19) rfl rfl rfl rfl ?_
    refine ev_loc f_L_law (nx := 20) rfl rfl rfl rfl ?_
    refine ev_alenX f_L_law (nx := 21) rfl hX rfl ?_
    refine ev_bp f_L_law (nx := 23) (v := 6) rfl (by decide) rfl ?_
    refine ev_aluvI f_L_law (nx := 24) (w := 0) rfl rfl rfl (by decide) rfl ?_
    refine ev_t f_L_law (t1 := 1634) (t2 := 27) rfl rfl rfl (by decide) ?_
    refine ev_ic f_L_law (nx := 1635) (v := 1) rfl (by decide) rfl ?_
    refine ev_ret f_L_law rfl rfl rfl ?_
    exact ⟨rfl, hz⟩
set_option maxRecDepth 20000 in
theorem pc_29 (hR : x_R W1 (sh, gi, gl, gr)) (hX : X.1 = 6) : x_Ev X 1000 n_L_law 1228 [(3, .int 0), (2, .ref 69), (1, .ref 0), (0, .retAddr 30)] [] (sh, gi, gl, gr) x_P1 := by
  have hW := W1_WF hR
  have hz := W1_hz hR
  refine ev_loc f_L_law (nx := 1229) rfl rfl rfl rfl ?_
  refine ev_inV1 f_L_law (nx := 1232) (lo2 := [(0, .ref 0)]) rfl rfl rfl rfl f_X11_clearEcho (hW.s rfl) rfl rfl rfl rfl rfl ?_
  refine ev_ic f_X11_clearEcho (nx := 1) (v := 0) rfl (by decide) rfl ?_
  refine ev_loc f_X11_clearEcho (nx := 2) (lo' := [(1, .int 0), (0, .ref 0)]) rfl rfl rfl rfl ?_
  refine ev_loc f_X11_clearEcho (nx := 3) rfl rfl rfl rfl ?_
  refine ev_bp f_X11_clearEcho (nx := 5) (v := 9) rfl (by decide) rfl ?_
  refine ev_f f_X11_clearEcho (t1 := 31) (t2 := 8) rfl rfl rfl (by decide) ?_
  refine ev_loc f_X11_clearEcho (nx := 9) rfl rfl rfl rfl ?_
  refine ev_getR f_X11_clearEcho (nx := 12) rfl (hW.s rfl) rfl rfl (wr_0_6 (gr := gr) hR) rfl rfl ?_
  refine ev_loc f_X11_clearEcho (nx := 13) rfl rfl rfl rfl ?_
  refine ev_inV2 f_X11_clearEcho (nx := 16) (lo2 := [(0, .ref 3), (1, .int 0)]) rfl rfl rfl rfl f_X5_couplesAlike (hW.s rfl) rfl rfl rfl rfl rfl ?_
  refine ev_ic f_X5_couplesAlike (nx := 1) (v := 0) rfl (by decide) rfl ?_
  refine ev_loc f_X5_couplesAlike (nx := 2) (lo' := [(2, .int 0), (0, .ref 3), (1, .int 0)]) rfl rfl rfl rfl ?_
  refine ev_ic f_X5_couplesAlike (nx := 3) (v := 0) rfl (by decide) rfl ?_
  refine ev_loc f_X5_couplesAlike (nx := 4) (lo' := [(3, .int 0), (2, .int 0), (0, .ref 3), (1, .int 0)]) rfl rfl rfl rfl ?_
  refine ev_loc f_X5_couplesAlike (nx := 5) rfl rfl rfl rfl ?_
  refine ev_loc f_X5_couplesAlike (nx := 6) rfl rfl rfl rfl ?_
  refine ev_gvI f_X5_couplesAlike (nx := 9) (w := 0) rfl (hW.s rfl) rfl rfl (wi_3_0 (gi := gi) hR) rfl ?_
  refine ev_t f_X5_couplesAlike (t1 := 66) (t2 := 12) rfl rfl rfl (by decide) ?_
  refine ev_loc f_X5_couplesAlike (nx := 67) rfl rfl rfl rfl ?_
  refine ev_retK1 f_X5_couplesAlike rfl rfl rfl ?_
  refine ev_t f_X11_clearEcho (t1 := 19) (t2 := 25) rfl rfl rfl (by decide) ?_
  refine ev_loc f_X11_clearEcho (nx := 20) rfl rfl rfl rfl ?_
  refine ev_loc f_X11_clearEcho (nx := 21) rfl rfl rfl rfl ?_
  refine ev_inV2 f_X11_clearEcho (nx := 24) (lo2 := [(0, .ref 0), (1, .int 0)]) rfl rfl rfl rfl f_X11_answer (hW.s rfl) rfl rfl rfl rfl rfl ?_
  refine ev_loc f_X11_answer (nx := 1) rfl rfl rfl rfl ?_
  refine ev_ic f_X11_answer (nx := 2) (v := 0) rfl (by decide) rfl ?_
  refine ev_putI f_X11_answer (nx := 5) rfl (hW.s rfl) rfl rfl rfl ?_
  refine ev_loc f_X11_answer (nx := 6) rfl rfl rfl rfl ?_
  refine ev_retK1 f_X11_answer rfl rfl rfl ?_
  refine ev_retK1 f_X11_clearEcho rfl rfl rfl ?_
  refine ev_loc f_L_law (nx := 1233) rfl rfl rfl rfl ?_
  refine ev_inV1 f_L_law (nx := 1236) (lo2 := [(0, .ref 69)]) rfl rfl rfl rfl f_X12_clearEcho (hW.s rfl) rfl rfl rfl rfl rfl ?_
  refine ev_ic f_X12_clearEcho (nx := 1) (v := 0) rfl (by decide) rfl ?_
  refine ev_loc f_X12_clearEcho (nx := 2) (lo' := [(1, .int 0), (0, .ref 69)]) rfl rfl rfl rfl ?_
  refine ev_loc f_X12_clearEcho (nx := 3) rfl rfl rfl rfl ?_
  refine ev_bp f_X12_clearEcho (nx := 5) (v := 10) rfl (by decide) rfl ?_
  refine ev_f f_X12_clearEcho (t1 := 28) (t2 := 8) rfl rfl rfl (by decide) ?_
  refine ev_loc f_X12_clearEcho (nx := 9) rfl rfl rfl rfl ?_
  refine ev_loc f_X12_clearEcho (nx := 10) rfl rfl rfl rfl ?_
  refine ev_inV2 f_X12_clearEcho (nx := 13) (lo2 := [(0, .ref 69), (1, .int 0)]) rfl rfl rfl rfl f_X12_alikeBy (hW.s rfl) rfl rfl rfl rfl rfl ?_
  refine ev_ic f_X12_alikeBy (nx := 1) (v := 0) rfl (by decide) rfl ?_
  refine ev_loc f_X12_alikeBy (nx := 2) (lo' := [(2, .int 0), (0, .ref 69), (1, .int 0)]) rfl rfl rfl rfl ?_
  refine ev_ic f_X12_alikeBy (nx := 3) (v := 0) rfl (by decide) rfl ?_
  refine ev_loc f_X12_alikeBy (nx := 4) (lo' := [(3, .int 0), (2, .int 0), (0, .ref 69), (1, .int 0)]) rfl rfl rfl rfl ?_
  refine ev_loc f_X12_alikeBy (nx := 5) rfl rfl rfl rfl ?_
  refine ev_loc f_X12_alikeBy (nx := 6) rfl rfl rfl rfl ?_
  refine ev_getR f_X12_alikeBy (nx := 9) rfl (hW.s rfl) rfl rfl (hW.r rfl) rfl rfl ?_
  refine ev_ic f_X12_alikeBy (nx := 10) (v := 0) rfl (by decide) rfl ?_
  refine ev_ialdv f_X12_alikeBy (nx := 11) (j := 0) (w := 0) rfl (hW.s rfl) (by decide) (by decide) (by decide) (wi_70_0 (gi := gi) hR) rfl ?_
  refine ev_t f_X12_alikeBy (t1 := 73) (t2 := 14) rfl rfl rfl (by decide) ?_
  refine ev_loc f_X12_alikeBy (nx := 74) rfl rfl rfl rfl ?_
  refine ev_retK1 f_X12_alikeBy rfl rfl rfl ?_
  refine ev_t f_X12_clearEcho (t1 := 16) (t2 := 22) rfl rfl rfl (by decide) ?_
  refine ev_loc f_X12_clearEcho (nx := 17) rfl rfl rfl rfl ?_
  refine ev_loc f_X12_clearEcho (nx := 18) rfl rfl rfl rfl ?_
  refine ev_inV2 f_X12_clearEcho (nx := 21) (lo2 := [(0, .ref 69), (1, .int 0)]) rfl rfl rfl rfl f_X12_gives (hW.s rfl) rfl rfl rfl rfl rfl ?_
  refine ev_loc f_X12_gives (nx := 1) rfl rfl rfl rfl ?_
  refine ev_ic f_X12_gives (nx := 2) (v := 0) rfl (by decide) rfl ?_
  refine ev_putI f_X12_gives (nx := 5) rfl (hW.s rfl) rfl rfl rfl ?_
  refine ev_loc f_X12_gives (nx := 6) rfl rfl rfl rfl ?_
  refine ev_retK1 f_X12_gives rfl rfl rfl ?_
  refine ev_retK1 f_X12_clearEcho rfl rfl rfl ?_
  refine ev_t f_L_law (t1 := 1628) (t2 := 1239) rfl rfl rfl (by decide) ?_
  refine ev_incv f_L_law (nx := 1631) (c := 6) (w := 6) (lo' := [(3, .int 6), (2, .ref 69), (1, .ref 0), (0, .retAddr 30)]) rfl rfl (by decide) (by decide) rfl rfl rfl ?_
  refine ev_jmp f_L_law (nx := 18) rfl rfl rfl ?_
  refine ev_loc f_L_law (nx := 19) rfl rfl rfl rfl ?_
  refine ev_loc f_L_law (nx := 20) rfl rfl rfl rfl ?_
  refine ev_alenX f_L_law (nx := 21) rfl hX rfl ?_
  refine ev_bp f_L_law (nx := 23) (v := 6) rfl (by decide) rfl ?_
  refine ev_aluvI f_L_law (nx := 24) (w := 0) rfl rfl rfl (by decide) rfl ?_
  refine ev_t f_L_law (t1 := 1634) (t2 := 27) rfl rfl rfl (by decide) ?_
  refine ev_ic f_L_law (nx := 1635) (v := 1) rfl (by decide) rfl ?_
  refine ev_ret f_L_law rfl rfl rfl ?_
  exact ⟨rfl, hz⟩
set_option maxRecDepth 20000 in
theorem pc_30 (hR : x_R W1 (sh, gi, gl, gr)) (hX : X.1 = 6) : x_Ev X 1000 n_L_law 1241 [(3, .int 0), (2, .ref 69), (1, .ref 0), (0, .retAddr 30)] [] (sh, gi, gl, gr) x_P1 := by
  have hW := W1_WF hR
  have hz := W1_hz hR
  refine ev_loc f_L_law (nx := 1242) rfl rfl rfl rfl ?_
  refine ev_inV1 f_L_law (nx := 1245) (lo2 := [(0, .ref 0)]) rfl rfl rfl rfl f_X11_silent (hW.s rfl) rfl rfl rfl rfl rfl ?_
  refine ev_lc f_X11_silent (nx := 1) (v := 0) rfl (by decide) rfl ?_
  refine ev_loc f_X11_silent (nx := 2) (lo' := [(1, .long 0), (0, .ref 0)]) rfl rfl rfl rfl ?_
  refine ev_ic f_X11_silent (nx := 3) (v := 0) rfl (by decide) rfl ?_
  refine ev_loc f_X11_silent (nx := 4) (lo' := [(3, .int 0), (1, .long 0), (0, .ref 0)]) rfl rfl rfl rfl ?_
  refine ev_loc f_X11_silent (nx := 5) rfl rfl rfl rfl ?_
  refine ev_loc f_X11_silent (nx := 6) rfl rfl rfl rfl ?_
  refine ev_getR f_X11_silent (nx := 9) rfl (hW.s rfl) rfl rfl (wr_0_6 (gr := gr) hR) rfl rfl ?_
  refine ev_gvI f_X11_silent (nx := 12) (w := 0) rfl (hW.s rfl) rfl rfl (wi_3_0 (gi := gi) hR) rfl ?_
  refine ev_t f_X11_silent (t1 := 32) (t2 := 15) rfl rfl rfl (by decide) ?_
  refine ev_loc f_X11_silent (nx := 33) rfl rfl rfl rfl ?_
  refine ev_loc f_X11_silent (nx := 34) rfl rfl rfl rfl ?_
  refine ev_ldL f_X11_silent (nx := 37) (v := -1) rfl (by decide) rfl ?_
  refine ev_aluvL f_X11_silent (nx := 38) (w := -1) rfl rfl rfl (by decide) rfl ?_
  refine ev_inS1 f_X11_silent (nx := 41) (lo2 := [(0, .long (-1))]) rfl rfl rfl rfl f_J13_numberOfTrailingZeros_95d88 rfl rfl rfl rfl ?_
  refine ev_loc f_J13_numberOfTrailingZeros_95d88 (nx := 1) rfl rfl rfl rfl ?_
  refine ev_aluvI f_J13_numberOfTrailingZeros_95d88 (nx := 2) (w := -1) rfl rfl rfl (by decide) rfl ?_
  refine ev_loc f_J13_numberOfTrailingZeros_95d88 (nx := 3) (lo' := [(2, .int (-1)), (0, .long (-1))]) rfl rfl rfl rfl ?_
  refine ev_loc f_J13_numberOfTrailingZeros_95d88 (nx := 4) rfl rfl rfl rfl ?_
  refine ev_f f_J13_numberOfTrailingZeros_95d88 (t1 := 7) (t2 := 21) rfl rfl rfl (by decide) ?_
  refine ev_loc f_J13_numberOfTrailingZeros_95d88 (nx := 22) rfl rfl rfl rfl ?_
  refine ev_inS1 f_J13_numberOfTrailingZeros_95d88 (nx := 25) (lo2 := [(0, .int (-1))]) rfl rfl rfl rfl f_J6_numberOfTrailingZeros_0f7a4 rfl rfl rfl rfl ?_
  refine ev_loc f_J6_numberOfTrailingZeros_0f7a4 (nx := 1) rfl rfl rfl rfl ?_
  refine ev_ic f_J6_numberOfTrailingZeros_0f7a4 (nx := 2) (v := -1) rfl (by decide) rfl ?_
  refine ev_aluvI f_J6_numberOfTrailingZeros_0f7a4 (nx := 3) (w := 0) rfl rfl rfl (by decide) rfl ?_
  refine ev_loc f_J6_numberOfTrailingZeros_0f7a4 (nx := 4) rfl rfl rfl rfl ?_
  refine ev_ic f_J6_numberOfTrailingZeros_0f7a4 (nx := 5) (v := 1) rfl (by decide) rfl ?_
  refine ev_aluvI f_J6_numberOfTrailingZeros_0f7a4 (nx := 6) (w := -2) rfl rfl rfl (by decide) rfl ?_
  refine ev_aluvI f_J6_numberOfTrailingZeros_0f7a4 (nx := 7) (w := 0) rfl rfl rfl (by decide) rfl ?_
  refine ev_loc f_J6_numberOfTrailingZeros_0f7a4 (nx := 8) (lo' := [(0, .int 0)]) rfl rfl rfl rfl ?_
  refine ev_loc f_J6_numberOfTrailingZeros_0f7a4 (nx := 9) rfl rfl rfl rfl ?_
  refine ev_f f_J6_numberOfTrailingZeros_0f7a4 (t1 := 17) (t2 := 12) rfl rfl rfl (by decide) ?_
  refine ev_loc f_J6_numberOfTrailingZeros_0f7a4 (nx := 13) rfl rfl rfl rfl ?_
  refine ev_bp f_J6_numberOfTrailingZeros_0f7a4 (nx := 15) (v := 32) rfl (by decide) rfl ?_
  refine ev_aluvI f_J6_numberOfTrailingZeros_0f7a4 (nx := 16) (w := 0) rfl rfl rfl (by decide) rfl ?_
  refine ev_retK1 f_J6_numberOfTrailingZeros_0f7a4 rfl rfl rfl ?_
  refine ev_retK1 f_J13_numberOfTrailingZeros_95d88 rfl rfl rfl ?_
  refine ev_inV2 f_X11_silent (nx := 44) (lo2 := [(0, .ref 0), (1, .int 0)]) rfl rfl rfl rfl f_X11_answer (hW.s rfl) rfl rfl rfl rfl rfl ?_
  refine ev_loc f_X11_answer (nx := 1) rfl rfl rfl rfl ?_
  refine ev_ic f_X11_answer (nx := 2) (v := 0) rfl (by decide) rfl ?_
  refine ev_putI f_X11_answer (nx := 5) rfl (hW.s rfl) rfl rfl rfl ?_
  refine ev_loc f_X11_answer (nx := 6) rfl rfl rfl rfl ?_
  refine ev_retK1 f_X11_answer rfl rfl rfl ?_
  refine ev_retK1 f_X11_silent rfl rfl rfl ?_
  refine ev_loc f_L_law (nx := 1246) rfl rfl rfl rfl ?_
  refine ev_inV1 f_L_law (nx := 1249) (lo2 := [(0, .ref 69)]) rfl rfl rfl rfl f_X12_silent (hW.s rfl) rfl rfl rfl rfl rfl ?_
  refine ev_lc f_X12_silent (nx := 1) (v := 0) rfl (by decide) rfl ?_
  refine ev_loc f_X12_silent (nx := 2) (lo' := [(1, .long 0), (0, .ref 69)]) rfl rfl rfl rfl ?_
  refine ev_ic f_X12_silent (nx := 3) (v := 0) rfl (by decide) rfl ?_
  refine ev_loc f_X12_silent (nx := 4) (lo' := [(3, .int 0), (1, .long 0), (0, .ref 69)]) rfl rfl rfl rfl ?_
  refine ev_loc f_X12_silent (nx := 5) rfl rfl rfl rfl ?_
  refine ev_loc f_X12_silent (nx := 6) rfl rfl rfl rfl ?_
  refine ev_getR f_X12_silent (nx := 9) rfl (hW.s rfl) rfl rfl (hW.r rfl) rfl rfl ?_
  refine ev_ic f_X12_silent (nx := 10) (v := 0) rfl (by decide) rfl ?_
  refine ev_ialdv f_X12_silent (nx := 11) (j := 0) (w := 0) rfl (hW.s rfl) (by decide) (by decide) (by decide) (wi_70_0 (gi := gi) hR) rfl ?_
  refine ev_t f_X12_silent (t1 := 28) (t2 := 14) rfl rfl rfl (by decide) ?_
  refine ev_ic f_X12_silent (nx := 29) (v := 0) rfl (by decide) rfl ?_
  refine ev_loc f_X12_silent (nx := 30) (lo' := [(3, .int 0), (1, .long 0), (0, .ref 69)]) rfl rfl rfl rfl ?_
  refine ev_loc f_X12_silent (nx := 31) rfl rfl rfl rfl ?_
  refine ev_loc f_X12_silent (nx := 32) rfl rfl rfl rfl ?_
  refine ev_aluvL f_X12_silent (nx := 33) (w := 0) rfl rfl rfl (by decide) rfl ?_
  refine ev_lc f_X12_silent (nx := 34) (v := 1) rfl (by decide) rfl ?_
  refine ev_aluvL f_X12_silent (nx := 35) (w := 0) rfl rfl rfl (by decide) rfl ?_
  refine ev_lc f_X12_silent (nx := 36) (v := 1) rfl (by decide) rfl ?_
  refine ev_aluvI f_X12_silent (nx := 37) (w := -1) rfl rfl rfl (by decide) rfl ?_
  refine ev_f f_X12_silent (t1 := 40) (t2 := 46) rfl rfl rfl (by decide) ?_
  refine ev_loc f_X12_silent (nx := 47) rfl rfl rfl rfl ?_
  refine ev_loc f_X12_silent (nx := 48) rfl rfl rfl rfl ?_
  refine ev_inV2 f_X12_silent (nx := 51) (lo2 := [(0, .ref 69), (1, .int 0)]) rfl rfl rfl rfl f_X12_gives (hW.s rfl) rfl rfl rfl rfl rfl ?_
  refine ev_loc f_X12_gives (nx := 1) rfl rfl rfl rfl ?_
  refine ev_ic f_X12_gives (nx := 2) (v := 0) rfl (by decide) rfl ?_
  refine ev_putI f_X12_gives (nx := 5) rfl (hW.s rfl) rfl rfl rfl ?_
  refine ev_loc f_X12_gives (nx := 6) rfl rfl rfl rfl ?_
  refine ev_retK1 f_X12_gives rfl rfl rfl ?_
  refine ev_retK1 f_X12_silent rfl rfl rfl ?_
  refine ev_t f_L_law (t1 := 1628) (t2 := 1252) rfl rfl rfl (by decide) ?_
  refine ev_incv f_L_law (nx := 1631) (c := 6) (w := 6) (lo' := [(3, .int 6), (2, .ref 69), (1, .ref 0), (0, .retAddr 30)]) rfl rfl (by decide) (by decide) rfl rfl rfl ?_
  refine ev_jmp f_L_law (nx := 18) rfl rfl rfl ?_
  refine ev_loc f_L_law (nx := 19) rfl rfl rfl rfl ?_
  refine ev_loc f_L_law (nx := 20) rfl rfl rfl rfl ?_
  refine ev_alenX f_L_law (nx := 21) rfl hX rfl ?_
  refine ev_bp f_L_law (nx := 23) (v := 6) rfl (by decide) rfl ?_
  refine ev_aluvI f_L_law (nx := 24) (w := 0) rfl rfl rfl (by decide) rfl ?_
  refine ev_t f_L_law (t1 := 1634) (t2 := 27) rfl rfl rfl (by decide) ?_
  refine ev_ic f_L_law (nx := 1635) (v := 1) rfl (by decide) rfl ?_
  refine ev_ret f_L_law rfl rfl rfl ?_
  exact ⟨rfl, hz⟩
set_option maxRecDepth 20000 in
theorem pc_33 (hR : x_R W1 (sh, gi, gl, gr)) (hX : X.1 = 6) : x_Ev X 1000 n_L_law 1280 [(3, .int 0), (2, .ref 69), (1, .ref 0), (0, .retAddr 30)] [] (sh, gi, gl, gr) x_P1 := by
  have hW := W1_WF hR
  have hz := W1_hz hR
  refine ev_loc f_L_law (nx := 1281) rfl rfl rfl rfl ?_
  refine ev_loc f_L_law (nx := 1282) rfl rfl rfl rfl ?_
  refine ev_loc f_L_law (nx := 1283) rfl rfl rfl rfl ?_
  refine ev_ic f_L_law (nx := 1284) (v := 1) rfl (by decide) rfl ?_
  refine ev_aluvI f_L_law (nx := 1285) (w := 1) rfl rfl rfl (by decide) rfl ?_
  refine ev_scr f_L_law (nx := 1286) (j := 1) rfl hX (by decide) (by decide) (by decide) rfl ?_
  refine ev_loc f_L_law (nx := 1287) rfl rfl rfl rfl ?_
  refine ev_loc f_L_law (nx := 1288) rfl rfl rfl rfl ?_
  refine ev_ic f_L_law (nx := 1289) (v := 2) rfl (by decide) rfl ?_
  refine ev_aluvI f_L_law (nx := 1290) (w := 2) rfl rfl rfl (by decide) rfl ?_
  refine ev_scr f_L_law (nx := 1291) (j := 2) rfl hX (by decide) (by decide) (by decide) rfl ?_
  refine ev_inV3 f_L_law (nx := 1294) (lo2 := [(0, .ref 0), (1, .int ((X.2 1))), (2, .int ((X.2 2)))]) rfl rfl rfl rfl f_X11_planAt (hW.s rfl) rfl rfl rfl rfl rfl ?_
  refine ev_loc f_X11_planAt (nx := 1) rfl rfl rfl rfl ?_
  refine ev_if f_X11_planAt (t1 := 9) (t2 := 4) rfl rfl rfl (fun h14 => ?_) (fun h14 => ?_)
  · have q14 := h14; rw [Int32.lt_iff_toInt_lt, (by decide : (0 : Int32).toInt = 0)] at q14
    refine ev_loc f_X11_planAt (nx := 10) rfl rfl rfl rfl ?_
    refine ev_ic f_X11_planAt (nx := 11) (v := 1) rfl (by decide) rfl ?_
    refine ev_inV2 f_X11_planAt (nx := 14) (lo2 := [(0, .ref 0), (1, .int 1)]) rfl rfl rfl rfl f_X11_refuse (hW.s rfl) rfl rfl rfl rfl rfl ?_
    refine ev_loc f_X11_refuse (nx := 1) rfl rfl rfl rfl ?_
    refine ev_loc f_X11_refuse (nx := 2) rfl rfl rfl rfl ?_
    refine ev_putI f_X11_refuse (nx := 5) rfl (hW.s rfl) rfl rfl rfl ?_
    refine ev_ic f_X11_refuse (nx := 6) (v := -1) rfl (by decide) rfl ?_
    refine ev_retK1 f_X11_refuse rfl rfl rfl ?_
    refine ev_retK1 f_X11_planAt rfl rfl rfl ?_
    refine ev_loc f_L_law (nx := 1295) rfl rfl rfl rfl ?_
    refine ev_loc f_L_law (nx := 1296) rfl rfl rfl rfl ?_
    refine ev_loc f_L_law (nx := 1297) rfl rfl rfl rfl ?_
    refine ev_ic f_L_law (nx := 1298) (v := 1) rfl (by decide) rfl ?_
    refine ev_aluvI f_L_law (nx := 1299) (w := 1) rfl rfl rfl (by decide) rfl ?_
    refine ev_scr f_L_law (nx := 1300) (j := 1) rfl hX (by decide) (by decide) (by decide) rfl ?_
    refine ev_loc f_L_law (nx := 1301) rfl rfl rfl rfl ?_
    refine ev_loc f_L_law (nx := 1302) rfl rfl rfl rfl ?_
    refine ev_ic f_L_law (nx := 1303) (v := 2) rfl (by decide) rfl ?_
    refine ev_aluvI f_L_law (nx := 1304) (w := 2) rfl rfl rfl (by decide) rfl ?_
    refine ev_scr f_L_law (nx := 1305) (j := 2) rfl hX (by decide) (by decide) (by decide) rfl ?_
    refine ev_inV3 f_L_law (nx := 1308) (lo2 := [(0, .ref 69), (1, .int ((X.2 1))), (2, .int ((X.2 2)))]) rfl rfl rfl rfl f_X12_planAt (hW.s rfl) rfl rfl rfl rfl rfl ?_
    refine ev_loc f_X12_planAt (nx := 1) rfl rfl rfl rfl ?_
    refine ev_t f_X12_planAt (t1 := 9) (t2 := 4) rfl rfl rfl (by rw [Int32.lt_iff_toInt_lt, (by decide : (0 : Int32).toInt = 0)]; omega) ?_
    refine ev_loc f_X12_planAt (nx := 10) rfl rfl rfl rfl ?_
    refine ev_ic f_X12_planAt (nx := 11) (v := 1) rfl (by decide) rfl ?_
    refine ev_inV2 f_X12_planAt (nx := 14) (lo2 := [(0, .ref 69), (1, .int 1)]) rfl rfl rfl rfl f_X12_refuse (hW.s rfl) rfl rfl rfl rfl rfl ?_
    refine ev_loc f_X12_refuse (nx := 1) rfl rfl rfl rfl ?_
    refine ev_loc f_X12_refuse (nx := 2) rfl rfl rfl rfl ?_
    refine ev_putI f_X12_refuse (nx := 5) rfl (hW.s rfl) rfl rfl rfl ?_
    refine ev_ic f_X12_refuse (nx := 6) (v := -1) rfl (by decide) rfl ?_
    refine ev_retK1 f_X12_refuse rfl rfl rfl ?_
    refine ev_retK1 f_X12_planAt rfl rfl rfl ?_
    refine ev_t f_L_law (t1 := 1628) (t2 := 1311) rfl rfl rfl (by decide) ?_
    refine ev_incv f_L_law (nx := 1631) (c := 6) (w := 6) (lo' := [(3, .int 6), (2, .ref 69), (1, .ref 0), (0, .retAddr 30)]) rfl rfl (by decide) (by decide) rfl rfl rfl ?_
    refine ev_jmp f_L_law (nx := 18) rfl rfl rfl ?_
    refine ev_loc f_L_law (nx := 19) rfl rfl rfl rfl ?_
    refine ev_loc f_L_law (nx := 20) rfl rfl rfl rfl ?_
    refine ev_alenX f_L_law (nx := 21) rfl hX rfl ?_
    refine ev_bp f_L_law (nx := 23) (v := 6) rfl (by decide) rfl ?_
    refine ev_aluvI f_L_law (nx := 24) (w := 0) rfl rfl rfl (by decide) rfl ?_
    refine ev_t f_L_law (t1 := 1634) (t2 := 27) rfl rfl rfl (by decide) ?_
    refine ev_ic f_L_law (nx := 1635) (v := 1) rfl (by decide) rfl ?_
    refine ev_ret f_L_law rfl rfl rfl ?_
    exact ⟨rfl, hz⟩
  · have q14 := h14; rw [Int32.lt_iff_toInt_lt, (by decide : (0 : Int32).toInt = 0)] at q14
    refine ev_loc f_X11_planAt (nx := 5) rfl rfl rfl rfl ?_
    refine ev_ic f_X11_planAt (nx := 6) (v := 2) rfl (by decide) rfl ?_
    refine ev_if f_X11_planAt (t1 := 15) (t2 := 9) rfl rfl rfl (fun h60 => ?_) (fun h60 => ?_)
    · have q60 := h60; rw [Int32.le_iff_toInt_le, (by decide : (2 : Int32).toInt = 2)] at q60
      refine ev_loc f_X11_planAt (nx := 16) rfl rfl rfl rfl ?_
      refine ev_if f_X11_planAt (t1 := 30) (t2 := 19) rfl rfl rfl (fun h62 => ?_) (fun h62 => ?_)
      · have q62 := h62; rw [Int32.lt_iff_toInt_lt, (by decide : (0 : Int32).toInt = 0)] at q62
        refine ev_loc f_X11_planAt (nx := 31) rfl rfl rfl rfl ?_
        refine ev_bp f_X11_planAt (nx := 33) (v := 6) rfl (by decide) rfl ?_
        refine ev_inV2 f_X11_planAt (nx := 36) (lo2 := [(0, .ref 0), (1, .int 6)]) rfl rfl rfl rfl f_X11_refuse (hW.s rfl) rfl rfl rfl rfl rfl ?_
        refine ev_loc f_X11_refuse (nx := 1) rfl rfl rfl rfl ?_
        refine ev_loc f_X11_refuse (nx := 2) rfl rfl rfl rfl ?_
        refine ev_putI f_X11_refuse (nx := 5) rfl (hW.s rfl) rfl rfl rfl ?_
        refine ev_ic f_X11_refuse (nx := 6) (v := -1) rfl (by decide) rfl ?_
        refine ev_retK1 f_X11_refuse rfl rfl rfl ?_
        refine ev_retK1 f_X11_planAt rfl rfl rfl ?_
        refine ev_loc f_L_law (nx := 1295) rfl rfl rfl rfl ?_
        refine ev_loc f_L_law (nx := 1296) rfl rfl rfl rfl ?_
        refine ev_loc f_L_law (nx := 1297) rfl rfl rfl rfl ?_
        refine ev_ic f_L_law (nx := 1298) (v := 1) rfl (by decide) rfl ?_
        refine ev_aluvI f_L_law (nx := 1299) (w := 1) rfl rfl rfl (by decide) rfl ?_
        refine ev_scr f_L_law (nx := 1300) (j := 1) rfl hX (by decide) (by decide) (by decide) rfl ?_
        refine ev_loc f_L_law (nx := 1301) rfl rfl rfl rfl ?_
        refine ev_loc f_L_law (nx := 1302) rfl rfl rfl rfl ?_
        refine ev_ic f_L_law (nx := 1303) (v := 2) rfl (by decide) rfl ?_
        refine ev_aluvI f_L_law (nx := 1304) (w := 2) rfl rfl rfl (by decide) rfl ?_
        refine ev_scr f_L_law (nx := 1305) (j := 2) rfl hX (by decide) (by decide) (by decide) rfl ?_
        refine ev_inV3 f_L_law (nx := 1308) (lo2 := [(0, .ref 69), (1, .int ((X.2 1))), (2, .int ((X.2 2)))]) rfl rfl rfl rfl f_X12_planAt (hW.s rfl) rfl rfl rfl rfl rfl ?_
        refine ev_loc f_X12_planAt (nx := 1) rfl rfl rfl rfl ?_
        refine ev_f f_X12_planAt (t1 := 9) (t2 := 4) rfl rfl rfl (by rw [Int32.lt_iff_toInt_lt, (by decide : (0 : Int32).toInt = 0)]; omega) ?_
        refine ev_loc f_X12_planAt (nx := 5) rfl rfl rfl rfl ?_
        refine ev_ic f_X12_planAt (nx := 6) (v := 2) rfl (by decide) rfl ?_
        refine ev_t f_X12_planAt (t1 := 15) (t2 := 9) rfl rfl rfl (by rw [Int32.le_iff_toInt_le, (by decide : (2 : Int32).toInt = 2)]; omega) ?_
        refine ev_loc f_X12_planAt (nx := 16) rfl rfl rfl rfl ?_
        refine ev_t f_X12_planAt (t1 := 27) (t2 := 19) rfl rfl rfl (by rw [Int32.lt_iff_toInt_lt, (by decide : (0 : Int32).toInt = 0)]; omega) ?_
        refine ev_loc f_X12_planAt (nx := 28) rfl rfl rfl rfl ?_
        refine ev_bp f_X12_planAt (nx := 30) (v := 6) rfl (by decide) rfl ?_
        refine ev_inV2 f_X12_planAt (nx := 33) (lo2 := [(0, .ref 69), (1, .int 6)]) rfl rfl rfl rfl f_X12_refuse (hW.s rfl) rfl rfl rfl rfl rfl ?_
        refine ev_loc f_X12_refuse (nx := 1) rfl rfl rfl rfl ?_
        refine ev_loc f_X12_refuse (nx := 2) rfl rfl rfl rfl ?_
        refine ev_putI f_X12_refuse (nx := 5) rfl (hW.s rfl) rfl rfl rfl ?_
        refine ev_ic f_X12_refuse (nx := 6) (v := -1) rfl (by decide) rfl ?_
        refine ev_retK1 f_X12_refuse rfl rfl rfl ?_
        refine ev_retK1 f_X12_planAt rfl rfl rfl ?_
        refine ev_t f_L_law (t1 := 1628) (t2 := 1311) rfl rfl rfl (by decide) ?_
        refine ev_incv f_L_law (nx := 1631) (c := 6) (w := 6) (lo' := [(3, .int 6), (2, .ref 69), (1, .ref 0), (0, .retAddr 30)]) rfl rfl (by decide) (by decide) rfl rfl rfl ?_
        refine ev_jmp f_L_law (nx := 18) rfl rfl rfl ?_
        refine ev_loc f_L_law (nx := 19) rfl rfl rfl rfl ?_
        refine ev_loc f_L_law (nx := 20) rfl rfl rfl rfl ?_
        refine ev_alenX f_L_law (nx := 21) rfl hX rfl ?_
        refine ev_bp f_L_law (nx := 23) (v := 6) rfl (by decide) rfl ?_
        refine ev_aluvI f_L_law (nx := 24) (w := 0) rfl rfl rfl (by decide) rfl ?_
        refine ev_t f_L_law (t1 := 1634) (t2 := 27) rfl rfl rfl (by decide) ?_
        refine ev_ic f_L_law (nx := 1635) (v := 1) rfl (by decide) rfl ?_
        refine ev_ret f_L_law rfl rfl rfl ?_
        exact ⟨rfl, hz⟩
      · have q62 := h62; rw [Int32.lt_iff_toInt_lt, (by decide : (0 : Int32).toInt = 0)] at q62
        refine ev_loc f_X11_planAt (nx := 20) rfl rfl rfl rfl ?_
        refine ev_loc f_X11_planAt (nx := 21) rfl rfl rfl rfl ?_
        refine ev_getR f_X11_planAt (nx := 24) rfl (hW.s rfl) rfl rfl (hW.r rfl) rfl rfl ?_
        refine ev_gvI f_X11_planAt (nx := 27) (w := 0) rfl (hW.s rfl) rfl rfl (wi_28_8 (gi := gi) hR) rfl ?_
        refine ev_f f_X11_planAt (t1 := 37) (t2 := 30) rfl rfl rfl (by rw [Int32.lt_iff_toInt_lt, (by decide : (0 : Int32).toInt = 0)]; omega) ?_
        refine ev_loc f_X11_planAt (nx := 31) rfl rfl rfl rfl ?_
        refine ev_bp f_X11_planAt (nx := 33) (v := 6) rfl (by decide) rfl ?_
        refine ev_inV2 f_X11_planAt (nx := 36) (lo2 := [(0, .ref 0), (1, .int 6)]) rfl rfl rfl rfl f_X11_refuse (hW.s rfl) rfl rfl rfl rfl rfl ?_
        refine ev_loc f_X11_refuse (nx := 1) rfl rfl rfl rfl ?_
        refine ev_loc f_X11_refuse (nx := 2) rfl rfl rfl rfl ?_
        refine ev_putI f_X11_refuse (nx := 5) rfl (hW.s rfl) rfl rfl rfl ?_
        refine ev_ic f_X11_refuse (nx := 6) (v := -1) rfl (by decide) rfl ?_
        refine ev_retK1 f_X11_refuse rfl rfl rfl ?_
        refine ev_retK1 f_X11_planAt rfl rfl rfl ?_
        refine ev_loc f_L_law (nx := 1295) rfl rfl rfl rfl ?_
        refine ev_loc f_L_law (nx := 1296) rfl rfl rfl rfl ?_
        refine ev_loc f_L_law (nx := 1297) rfl rfl rfl rfl ?_
        refine ev_ic f_L_law (nx := 1298) (v := 1) rfl (by decide) rfl ?_
        refine ev_aluvI f_L_law (nx := 1299) (w := 1) rfl rfl rfl (by decide) rfl ?_
        refine ev_scr f_L_law (nx := 1300) (j := 1) rfl hX (by decide) (by decide) (by decide) rfl ?_
        refine ev_loc f_L_law (nx := 1301) rfl rfl rfl rfl ?_
        refine ev_loc f_L_law (nx := 1302) rfl rfl rfl rfl ?_
        refine ev_ic f_L_law (nx := 1303) (v := 2) rfl (by decide) rfl ?_
        refine ev_aluvI f_L_law (nx := 1304) (w := 2) rfl rfl rfl (by decide) rfl ?_
        refine ev_scr f_L_law (nx := 1305) (j := 2) rfl hX (by decide) (by decide) (by decide) rfl ?_
        refine ev_inV3 f_L_law (nx := 1308) (lo2 := [(0, .ref 69), (1, .int ((X.2 1))), (2, .int ((X.2 2)))]) rfl rfl rfl rfl f_X12_planAt (hW.s rfl) rfl rfl rfl rfl rfl ?_
        refine ev_loc f_X12_planAt (nx := 1) rfl rfl rfl rfl ?_
        refine ev_f f_X12_planAt (t1 := 9) (t2 := 4) rfl rfl rfl (by rw [Int32.lt_iff_toInt_lt, (by decide : (0 : Int32).toInt = 0)]; omega) ?_
        refine ev_loc f_X12_planAt (nx := 5) rfl rfl rfl rfl ?_
        refine ev_ic f_X12_planAt (nx := 6) (v := 2) rfl (by decide) rfl ?_
        refine ev_t f_X12_planAt (t1 := 15) (t2 := 9) rfl rfl rfl (by rw [Int32.le_iff_toInt_le, (by decide : (2 : Int32).toInt = 2)]; omega) ?_
        refine ev_loc f_X12_planAt (nx := 16) rfl rfl rfl rfl ?_
        refine ev_f f_X12_planAt (t1 := 27) (t2 := 19) rfl rfl rfl (by rw [Int32.lt_iff_toInt_lt, (by decide : (0 : Int32).toInt = 0)]; omega) ?_
        refine ev_loc f_X12_planAt (nx := 20) rfl rfl rfl rfl ?_
        refine ev_loc f_X12_planAt (nx := 21) rfl rfl rfl rfl ?_
        refine ev_gvI f_X12_planAt (nx := 24) (w := 0) rfl (hW.s rfl) rfl rfl (wi_69_56 (gi := gi) hR) rfl ?_
        refine ev_f f_X12_planAt (t1 := 34) (t2 := 27) rfl rfl rfl (by rw [Int32.lt_iff_toInt_lt, (by decide : (0 : Int32).toInt = 0)]; omega) ?_
        refine ev_loc f_X12_planAt (nx := 28) rfl rfl rfl rfl ?_
        refine ev_bp f_X12_planAt (nx := 30) (v := 6) rfl (by decide) rfl ?_
        refine ev_inV2 f_X12_planAt (nx := 33) (lo2 := [(0, .ref 69), (1, .int 6)]) rfl rfl rfl rfl f_X12_refuse (hW.s rfl) rfl rfl rfl rfl rfl ?_
        refine ev_loc f_X12_refuse (nx := 1) rfl rfl rfl rfl ?_
        refine ev_loc f_X12_refuse (nx := 2) rfl rfl rfl rfl ?_
        refine ev_putI f_X12_refuse (nx := 5) rfl (hW.s rfl) rfl rfl rfl ?_
        refine ev_ic f_X12_refuse (nx := 6) (v := -1) rfl (by decide) rfl ?_
        refine ev_retK1 f_X12_refuse rfl rfl rfl ?_
        refine ev_retK1 f_X12_planAt rfl rfl rfl ?_
        refine ev_t f_L_law (t1 := 1628) (t2 := 1311) rfl rfl rfl (by decide) ?_
        refine ev_incv f_L_law (nx := 1631) (c := 6) (w := 6) (lo' := [(3, .int 6), (2, .ref 69), (1, .ref 0), (0, .retAddr 30)]) rfl rfl (by decide) (by decide) rfl rfl rfl ?_
        refine ev_jmp f_L_law (nx := 18) rfl rfl rfl ?_
        refine ev_loc f_L_law (nx := 19) rfl rfl rfl rfl ?_
        refine ev_loc f_L_law (nx := 20) rfl rfl rfl rfl ?_
        refine ev_alenX f_L_law (nx := 21) rfl hX rfl ?_
        refine ev_bp f_L_law (nx := 23) (v := 6) rfl (by decide) rfl ?_
        refine ev_aluvI f_L_law (nx := 24) (w := 0) rfl rfl rfl (by decide) rfl ?_
        refine ev_t f_L_law (t1 := 1634) (t2 := 27) rfl rfl rfl (by decide) ?_
        refine ev_ic f_L_law (nx := 1635) (v := 1) rfl (by decide) rfl ?_
        refine ev_ret f_L_law rfl rfl rfl ?_
        exact ⟨rfl, hz⟩
    · have q60 := h60; rw [Int32.le_iff_toInt_le, (by decide : (2 : Int32).toInt = 2)] at q60
      refine ev_loc f_X11_planAt (nx := 10) rfl rfl rfl rfl ?_
      refine ev_ic f_X11_planAt (nx := 11) (v := 1) rfl (by decide) rfl ?_
      refine ev_inV2 f_X11_planAt (nx := 14) (lo2 := [(0, .ref 0), (1, .int 1)]) rfl rfl rfl rfl f_X11_refuse (hW.s rfl) rfl rfl rfl rfl rfl ?_
      refine ev_loc f_X11_refuse (nx := 1) rfl rfl rfl rfl ?_
      refine ev_loc f_X11_refuse (nx := 2) rfl rfl rfl rfl ?_
      refine ev_putI f_X11_refuse (nx := 5) rfl (hW.s rfl) rfl rfl rfl ?_
      refine ev_ic f_X11_refuse (nx := 6) (v := -1) rfl (by decide) rfl ?_
      refine ev_retK1 f_X11_refuse rfl rfl rfl ?_
      refine ev_retK1 f_X11_planAt rfl rfl rfl ?_
      refine ev_loc f_L_law (nx := 1295) rfl rfl rfl rfl ?_
      refine ev_loc f_L_law (nx := 1296) rfl rfl rfl rfl ?_
      refine ev_loc f_L_law (nx := 1297) rfl rfl rfl rfl ?_
      refine ev_ic f_L_law (nx := 1298) (v := 1) rfl (by decide) rfl ?_
      refine ev_aluvI f_L_law (nx := 1299) (w := 1) rfl rfl rfl (by decide) rfl ?_
      refine ev_scr f_L_law (nx := 1300) (j := 1) rfl hX (by decide) (by decide) (by decide) rfl ?_
      refine ev_loc f_L_law (nx := 1301) rfl rfl rfl rfl ?_
      refine ev_loc f_L_law (nx := 1302) rfl rfl rfl rfl ?_
      refine ev_ic f_L_law (nx := 1303) (v := 2) rfl (by decide) rfl ?_
      refine ev_aluvI f_L_law (nx := 1304) (w := 2) rfl rfl rfl (by decide) rfl ?_
      refine ev_scr f_L_law (nx := 1305) (j := 2) rfl hX (by decide) (by decide) (by decide) rfl ?_
      refine ev_inV3 f_L_law (nx := 1308) (lo2 := [(0, .ref 69), (1, .int ((X.2 1))), (2, .int ((X.2 2)))]) rfl rfl rfl rfl f_X12_planAt (hW.s rfl) rfl rfl rfl rfl rfl ?_
      refine ev_loc f_X12_planAt (nx := 1) rfl rfl rfl rfl ?_
      refine ev_f f_X12_planAt (t1 := 9) (t2 := 4) rfl rfl rfl (by rw [Int32.lt_iff_toInt_lt, (by decide : (0 : Int32).toInt = 0)]; omega) ?_
      refine ev_loc f_X12_planAt (nx := 5) rfl rfl rfl rfl ?_
      refine ev_ic f_X12_planAt (nx := 6) (v := 2) rfl (by decide) rfl ?_
      refine ev_f f_X12_planAt (t1 := 15) (t2 := 9) rfl rfl rfl (by rw [Int32.le_iff_toInt_le, (by decide : (2 : Int32).toInt = 2)]; omega) ?_
      refine ev_loc f_X12_planAt (nx := 10) rfl rfl rfl rfl ?_
      refine ev_ic f_X12_planAt (nx := 11) (v := 1) rfl (by decide) rfl ?_
      refine ev_inV2 f_X12_planAt (nx := 14) (lo2 := [(0, .ref 69), (1, .int 1)]) rfl rfl rfl rfl f_X12_refuse (hW.s rfl) rfl rfl rfl rfl rfl ?_
      refine ev_loc f_X12_refuse (nx := 1) rfl rfl rfl rfl ?_
      refine ev_loc f_X12_refuse (nx := 2) rfl rfl rfl rfl ?_
      refine ev_putI f_X12_refuse (nx := 5) rfl (hW.s rfl) rfl rfl rfl ?_
      refine ev_ic f_X12_refuse (nx := 6) (v := -1) rfl (by decide) rfl ?_
      refine ev_retK1 f_X12_refuse rfl rfl rfl ?_
      refine ev_retK1 f_X12_planAt rfl rfl rfl ?_
      refine ev_t f_L_law (t1 := 1628) (t2 := 1311) rfl rfl rfl (by decide) ?_
      refine ev_incv f_L_law (nx := 1631) (c := 6) (w := 6) (lo' := [(3, .int 6), (2, .ref 69), (1, .ref 0), (0, .retAddr 30)]) rfl rfl (by decide) (by decide) rfl rfl rfl ?_
      refine ev_jmp f_L_law (nx := 18) rfl rfl rfl ?_
      refine ev_loc f_L_law (nx := 19) rfl rfl rfl rfl ?_
      refine ev_loc f_L_law (nx := 20) rfl rfl rfl rfl ?_
      refine ev_alenX f_L_law (nx := 21) rfl hX rfl ?_
      refine ev_bp f_L_law (nx := 23) (v := 6) rfl (by decide) rfl ?_
      refine ev_aluvI f_L_law (nx := 24) (w := 0) rfl rfl rfl (by decide) rfl ?_
      refine ev_t f_L_law (t1 := 1634) (t2 := 27) rfl rfl rfl (by decide) ?_
      refine ev_ic f_L_law (nx := 1635) (v := 1) rfl (by decide) rfl ?_
      refine ev_ret f_L_law rfl rfl rfl ?_
      exact ⟨rfl, hz⟩
set_option maxRecDepth 20000 in
theorem pc_34 (hR : x_R W1 (sh, gi, gl, gr)) (hX : X.1 = 6) : x_Ev X 1000 n_L_law 1313 [(3, .int 0), (2, .ref 69), (1, .ref 0), (0, .retAddr 30)] [] (sh, gi, gl, gr) x_P1 := by
  have hW := W1_WF hR
  have hz := W1_hz hR
  refine ev_loc f_L_law (nx := 1314) rfl rfl rfl rfl ?_
  refine ev_loc f_L_law (nx := 1315) rfl rfl rfl rfl ?_
  refine ev_loc f_L_law (nx := 1316) rfl rfl rfl rfl ?_
  refine ev_ic f_L_law (nx := 1317) (v := 1) rfl (by decide) rfl ?_
  refine ev_aluvI f_L_law (nx := 1318) (w := 1) rfl rfl rfl (by decide) rfl ?_
  refine ev_scr f_L_law (nx := 1319) (j := 1) rfl hX (by decide) (by decide) (by decide) rfl ?_
  refine ev_inV2 f_L_law (nx := 1322) (lo2 := [(0, .ref 0), (1, .int ((X.2 1)))]) rfl rfl rfl rfl f_X11_worth (hW.s rfl) rfl rfl rfl rfl rfl ?_
  refine ev_loc f_X11_worth (nx := 1) rfl rfl rfl rfl ?_
  refine ev_loc f_X11_worth (nx := 2) rfl rfl rfl rfl ?_
  refine ev_inV2 f_X11_worth (nx := 5) (lo2 := [(0, .ref 0), (1, .int ((X.2 1)))]) rfl rfl rfl rfl f_X11_isShip (hW.s rfl) rfl rfl rfl rfl rfl ?_
  refine ev_loc f_X11_isShip (nx := 1) rfl rfl rfl rfl ?_
  refine ev_if f_X11_isShip (t1 := 22) (t2 := 4) rfl rfl rfl (fun h12 => ?_) (fun h12 => ?_)
  · have q12 := h12; rw [Int32.lt_iff_toInt_lt, (by decide : (0 : Int32).toInt = 0)] at q12
    refine ev_ic f_X11_isShip (nx := 23) (v := 0) rfl (by decide) rfl ?_
    refine ev_retK1 f_X11_isShip rfl rfl rfl ?_
    refine ev_t f_X11_worth (t1 := 8) (t2 := 14) rfl rfl rfl (by decide) ?_
    refine ev_loc f_X11_worth (nx := 9) rfl rfl rfl rfl ?_
    refine ev_ic f_X11_worth (nx := 10) (v := 1) rfl (by decide) rfl ?_
    refine ev_inV2 f_X11_worth (nx := 13) (lo2 := [(0, .ref 0), (1, .int 1)]) rfl rfl rfl rfl f_X11_refuse (hW.s rfl) rfl rfl rfl rfl rfl ?_
    refine ev_loc f_X11_refuse (nx := 1) rfl rfl rfl rfl ?_
    refine ev_loc f_X11_refuse (nx := 2) rfl rfl rfl rfl ?_
    refine ev_putI f_X11_refuse (nx := 5) rfl (hW.s rfl) rfl rfl rfl ?_
    refine ev_ic f_X11_refuse (nx := 6) (v := -1) rfl (by decide) rfl ?_
    refine ev_retK1 f_X11_refuse rfl rfl rfl ?_
    refine ev_retK1 f_X11_worth rfl rfl rfl ?_
    refine ev_loc f_L_law (nx := 1323) rfl rfl rfl rfl ?_
    refine ev_loc f_L_law (nx := 1324) rfl rfl rfl rfl ?_
    refine ev_loc f_L_law (nx := 1325) rfl rfl rfl rfl ?_
    refine ev_ic f_L_law (nx := 1326) (v := 1) rfl (by decide) rfl ?_
    refine ev_aluvI f_L_law (nx := 1327) (w := 1) rfl rfl rfl (by decide) rfl ?_
    refine ev_scr f_L_law (nx := 1328) (j := 1) rfl hX (by decide) (by decide) (by decide) rfl ?_
    refine ev_inV2 f_L_law (nx := 1331) (lo2 := [(0, .ref 69), (1, .int ((X.2 1)))]) rfl rfl rfl rfl f_X12_worth (hW.s rfl) rfl rfl rfl rfl rfl ?_
    refine ev_loc f_X12_worth (nx := 1) rfl rfl rfl rfl ?_
    refine ev_loc f_X12_worth (nx := 2) rfl rfl rfl rfl ?_
    refine ev_inV2 f_X12_worth (nx := 5) (lo2 := [(0, .ref 69), (1, .int ((X.2 1)))]) rfl rfl rfl rfl f_X12_isShip (hW.s rfl) rfl rfl rfl rfl rfl ?_
    refine ev_loc f_X12_isShip (nx := 1) rfl rfl rfl rfl ?_
    refine ev_t f_X12_isShip (t1 := 18) (t2 := 4) rfl rfl rfl (by rw [Int32.lt_iff_toInt_lt, (by decide : (0 : Int32).toInt = 0)]; omega) ?_
    refine ev_ic f_X12_isShip (nx := 19) (v := 0) rfl (by decide) rfl ?_
    refine ev_retK1 f_X12_isShip rfl rfl rfl ?_
    refine ev_t f_X12_worth (t1 := 8) (t2 := 14) rfl rfl rfl (by decide) ?_
    refine ev_loc f_X12_worth (nx := 9) rfl rfl rfl rfl ?_
    refine ev_ic f_X12_worth (nx := 10) (v := 1) rfl (by decide) rfl ?_
    refine ev_inV2 f_X12_worth (nx := 13) (lo2 := [(0, .ref 69), (1, .int 1)]) rfl rfl rfl rfl f_X12_refuse (hW.s rfl) rfl rfl rfl rfl rfl ?_
    refine ev_loc f_X12_refuse (nx := 1) rfl rfl rfl rfl ?_
    refine ev_loc f_X12_refuse (nx := 2) rfl rfl rfl rfl ?_
    refine ev_putI f_X12_refuse (nx := 5) rfl (hW.s rfl) rfl rfl rfl ?_
    refine ev_ic f_X12_refuse (nx := 6) (v := -1) rfl (by decide) rfl ?_
    refine ev_retK1 f_X12_refuse rfl rfl rfl ?_
    refine ev_retK1 f_X12_worth rfl rfl rfl ?_
    refine ev_t f_L_law (t1 := 1628) (t2 := 1334) rfl rfl rfl (by decide) ?_
    refine ev_incv f_L_law (nx := 1631) (c := 6) (w := 6) (lo' := [(3, .int 6), (2, .ref 69), (1, .ref 0), (0, .retAddr 30)]) rfl rfl (by decide) (by decide) rfl rfl rfl ?_
    refine ev_jmp f_L_law (nx := 18) rfl rfl rfl ?_
    refine ev_loc f_L_law (nx := 19) rfl rfl rfl rfl ?_
    refine ev_loc f_L_law (nx := 20) rfl rfl rfl rfl ?_
    refine ev_alenX f_L_law (nx := 21) rfl hX rfl ?_
    refine ev_bp f_L_law (nx := 23) (v := 6) rfl (by decide) rfl ?_
    refine ev_aluvI f_L_law (nx := 24) (w := 0) rfl rfl rfl (by decide) rfl ?_
    refine ev_t f_L_law (t1 := 1634) (t2 := 27) rfl rfl rfl (by decide) ?_
    refine ev_ic f_L_law (nx := 1635) (v := 1) rfl (by decide) rfl ?_
    refine ev_ret f_L_law rfl rfl rfl ?_
    exact ⟨rfl, hz⟩
  · have q12 := h12; rw [Int32.lt_iff_toInt_lt, (by decide : (0 : Int32).toInt = 0)] at q12
    refine ev_loc f_X11_isShip (nx := 5) rfl rfl rfl rfl ?_
    refine ev_loc f_X11_isShip (nx := 6) rfl rfl rfl rfl ?_
    refine ev_getR f_X11_isShip (nx := 9) rfl (hW.s rfl) rfl rfl (wr_0_6 (gr := gr) hR) rfl rfl ?_
    refine ev_getR f_X11_isShip (nx := 12) rfl (hW.s rfl) rfl rfl (hW.r rfl) rfl rfl ?_
    refine ev_gvI f_X11_isShip (nx := 15) (w := 0) rfl (hW.s rfl) rfl rfl (wi_6_0 (gi := gi) hR) rfl ?_
    refine ev_t f_X11_isShip (t1 := 22) (t2 := 18) rfl rfl rfl (by rw [Int32.le_iff_toInt_le, (by decide : (0 : Int32).toInt = 0)]; omega) ?_
    refine ev_ic f_X11_isShip (nx := 23) (v := 0) rfl (by decide) rfl ?_
    refine ev_retK1 f_X11_isShip rfl rfl rfl ?_
    refine ev_t f_X11_worth (t1 := 8) (t2 := 14) rfl rfl rfl (by decide) ?_
    refine ev_loc f_X11_worth (nx := 9) rfl rfl rfl rfl ?_
    refine ev_ic f_X11_worth (nx := 10) (v := 1) rfl (by decide) rfl ?_
    refine ev_inV2 f_X11_worth (nx := 13) (lo2 := [(0, .ref 0), (1, .int 1)]) rfl rfl rfl rfl f_X11_refuse (hW.s rfl) rfl rfl rfl rfl rfl ?_
    refine ev_loc f_X11_refuse (nx := 1) rfl rfl rfl rfl ?_
    refine ev_loc f_X11_refuse (nx := 2) rfl rfl rfl rfl ?_
    refine ev_putI f_X11_refuse (nx := 5) rfl (hW.s rfl) rfl rfl rfl ?_
    refine ev_ic f_X11_refuse (nx := 6) (v := -1) rfl (by decide) rfl ?_
    refine ev_retK1 f_X11_refuse rfl rfl rfl ?_
    refine ev_retK1 f_X11_worth rfl rfl rfl ?_
    refine ev_loc f_L_law (nx := 1323) rfl rfl rfl rfl ?_
    refine ev_loc f_L_law (nx := 1324) rfl rfl rfl rfl ?_
    refine ev_loc f_L_law (nx := 1325) rfl rfl rfl rfl ?_
    refine ev_ic f_L_law (nx := 1326) (v := 1) rfl (by decide) rfl ?_
    refine ev_aluvI f_L_law (nx := 1327) (w := 1) rfl rfl rfl (by decide) rfl ?_
    refine ev_scr f_L_law (nx := 1328) (j := 1) rfl hX (by decide) (by decide) (by decide) rfl ?_
    refine ev_inV2 f_L_law (nx := 1331) (lo2 := [(0, .ref 69), (1, .int ((X.2 1)))]) rfl rfl rfl rfl f_X12_worth (hW.s rfl) rfl rfl rfl rfl rfl ?_
    refine ev_loc f_X12_worth (nx := 1) rfl rfl rfl rfl ?_
    refine ev_loc f_X12_worth (nx := 2) rfl rfl rfl rfl ?_
    refine ev_inV2 f_X12_worth (nx := 5) (lo2 := [(0, .ref 69), (1, .int ((X.2 1)))]) rfl rfl rfl rfl f_X12_isShip (hW.s rfl) rfl rfl rfl rfl rfl ?_
    refine ev_loc f_X12_isShip (nx := 1) rfl rfl rfl rfl ?_
    refine ev_f f_X12_isShip (t1 := 18) (t2 := 4) rfl rfl rfl (by rw [Int32.lt_iff_toInt_lt, (by decide : (0 : Int32).toInt = 0)]; omega) ?_
    refine ev_loc f_X12_isShip (nx := 5) rfl rfl rfl rfl ?_
    refine ev_loc f_X12_isShip (nx := 6) rfl rfl rfl rfl ?_
    refine ev_getR f_X12_isShip (nx := 9) rfl (hW.s rfl) rfl rfl (hW.r rfl) rfl rfl ?_
    refine ev_ic f_X12_isShip (nx := 10) (v := 1) rfl (by decide) rfl ?_
    refine ev_ialdv f_X12_isShip (nx := 11) (j := 1) (w := 0) rfl (hW.s rfl) (by decide) (by decide) (by decide) (wi_70_1 (gi := gi) hR) rfl ?_
    refine ev_t f_X12_isShip (t1 := 18) (t2 := 14) rfl rfl rfl (by rw [Int32.le_iff_toInt_le, (by decide : (0 : Int32).toInt = 0)]; omega) ?_
    refine ev_ic f_X12_isShip (nx := 19) (v := 0) rfl (by decide) rfl ?_
    refine ev_retK1 f_X12_isShip rfl rfl rfl ?_
    refine ev_t f_X12_worth (t1 := 8) (t2 := 14) rfl rfl rfl (by decide) ?_
    refine ev_loc f_X12_worth (nx := 9) rfl rfl rfl rfl ?_
    refine ev_ic f_X12_worth (nx := 10) (v := 1) rfl (by decide) rfl ?_
    refine ev_inV2 f_X12_worth (nx := 13) (lo2 := [(0, .ref 69), (1, .int 1)]) rfl rfl rfl rfl f_X12_refuse (hW.s rfl) rfl rfl rfl rfl rfl ?_
    refine ev_loc f_X12_refuse (nx := 1) rfl rfl rfl rfl ?_
    refine ev_loc f_X12_refuse (nx := 2) rfl rfl rfl rfl ?_
    refine ev_putI f_X12_refuse (nx := 5) rfl (hW.s rfl) rfl rfl rfl ?_
    refine ev_ic f_X12_refuse (nx := 6) (v := -1) rfl (by decide) rfl ?_
    refine ev_retK1 f_X12_refuse rfl rfl rfl ?_
    refine ev_retK1 f_X12_worth rfl rfl rfl ?_
    refine ev_t f_L_law (t1 := 1628) (t2 := 1334) rfl rfl rfl (by decide) ?_
    refine ev_incv f_L_law (nx := 1631) (c := 6) (w := 6) (lo' := [(3, .int 6), (2, .ref 69), (1, .ref 0), (0, .retAddr 30)]) rfl rfl (by decide) (by decide) rfl rfl rfl ?_
    refine ev_jmp f_L_law (nx := 18) rfl rfl rfl ?_
    refine ev_loc f_L_law (nx := 19) rfl rfl rfl rfl ?_
    refine ev_loc f_L_law (nx := 20) rfl rfl rfl rfl ?_
    refine ev_alenX f_L_law (nx := 21) rfl hX rfl ?_
    refine ev_bp f_L_law (nx := 23) (v := 6) rfl (by decide) rfl ?_
    refine ev_aluvI f_L_law (nx := 24) (w := 0) rfl rfl rfl (by decide) rfl ?_
    refine ev_t f_L_law (t1 := 1634) (t2 := 27) rfl rfl rfl (by decide) ?_
    refine ev_ic f_L_law (nx := 1635) (v := 1) rfl (by decide) rfl ?_
    refine ev_ret f_L_law rfl rfl rfl ?_
    exact ⟨rfl, hz⟩
set_option maxRecDepth 20000 in
theorem pc_37 (hR : x_R W1 (sh, gi, gl, gr)) (hX : X.1 = 6) : x_Ev X 1000 n_L_law 1372 [(3, .int 0), (2, .ref 69), (1, .ref 0), (0, .retAddr 30)] [] (sh, gi, gl, gr) x_P1 := by
  have hW := W1_WF hR
  have hz := W1_hz hR
  refine ev_loc f_L_law (nx := 1373) rfl rfl rfl rfl ?_
  refine ev_loc f_L_law (nx := 1374) rfl rfl rfl rfl ?_
  refine ev_loc f_L_law (nx := 1375) rfl rfl rfl rfl ?_
  refine ev_ic f_L_law (nx := 1376) (v := 1) rfl (by decide) rfl ?_
  refine ev_aluvI f_L_law (nx := 1377) (w := 1) rfl rfl rfl (by decide) rfl ?_
  refine ev_scr f_L_law (nx := 1378) (j := 1) rfl hX (by decide) (by decide) (by decide) rfl ?_
  refine ev_loc f_L_law (nx := 1379) rfl rfl rfl rfl ?_
  refine ev_loc f_L_law (nx := 1380) rfl rfl rfl rfl ?_
  refine ev_ic f_L_law (nx := 1381) (v := 2) rfl (by decide) rfl ?_
  refine ev_aluvI f_L_law (nx := 1382) (w := 2) rfl rfl rfl (by decide) rfl ?_
  refine ev_scr f_L_law (nx := 1383) (j := 2) rfl hX (by decide) (by decide) (by decide) rfl ?_
  refine ev_inV3 f_L_law (nx := 1386) (lo2 := [(0, .ref 0), (1, .int ((X.2 1))), (2, .int ((X.2 2)))]) rfl rfl rfl rfl f_X11_later (hW.s rfl) rfl rfl rfl rfl rfl ?_
  refine ev_loc f_X11_later (nx := 1) rfl rfl rfl rfl ?_
  refine ev_loc f_X11_later (nx := 2) rfl rfl rfl rfl ?_
  refine ev_inV2 f_X11_later (nx := 5) (lo2 := [(0, .ref 0), (1, .int ((X.2 1)))]) rfl rfl rfl rfl f_X11_isShip (hW.s rfl) rfl rfl rfl rfl rfl ?_
  refine ev_loc f_X11_isShip (nx := 1) rfl rfl rfl rfl ?_
  refine ev_if f_X11_isShip (t1 := 22) (t2 := 4) rfl rfl rfl (fun h17 => ?_) (fun h17 => ?_)
  · have q17 := h17; rw [Int32.lt_iff_toInt_lt, (by decide : (0 : Int32).toInt = 0)] at q17
    refine ev_ic f_X11_isShip (nx := 23) (v := 0) rfl (by decide) rfl ?_
    refine ev_retK1 f_X11_isShip rfl rfl rfl ?_
    refine ev_t f_X11_later (t1 := 18) (t2 := 8) rfl rfl rfl (by decide) ?_
    refine ev_loc f_X11_later (nx := 19) rfl rfl rfl rfl ?_
    refine ev_ic f_X11_later (nx := 20) (v := 1) rfl (by decide) rfl ?_
    refine ev_inV2 f_X11_later (nx := 23) (lo2 := [(0, .ref 0), (1, .int 1)]) rfl rfl rfl rfl f_X11_refuse (hW.s rfl) rfl rfl rfl rfl rfl ?_
    refine ev_loc f_X11_refuse (nx := 1) rfl rfl rfl rfl ?_
    refine ev_loc f_X11_refuse (nx := 2) rfl rfl rfl rfl ?_
    refine ev_putI f_X11_refuse (nx := 5) rfl (hW.s rfl) rfl rfl rfl ?_
    refine ev_ic f_X11_refuse (nx := 6) (v := -1) rfl (by decide) rfl ?_
    refine ev_retK1 f_X11_refuse rfl rfl rfl ?_
    refine ev_retK1 f_X11_later rfl rfl rfl ?_
    refine ev_loc f_L_law (nx := 1387) rfl rfl rfl rfl ?_
    refine ev_loc f_L_law (nx := 1388) rfl rfl rfl rfl ?_
    refine ev_loc f_L_law (nx := 1389) rfl rfl rfl rfl ?_
    refine ev_ic f_L_law (nx := 1390) (v := 1) rfl (by decide) rfl ?_
    refine ev_aluvI f_L_law (nx := 1391) (w := 1) rfl rfl rfl (by decide) rfl ?_
    refine ev_scr f_L_law (nx := 1392) (j := 1) rfl hX (by decide) (by decide) (by decide) rfl ?_
    refine ev_loc f_L_law (nx := 1393) rfl rfl rfl rfl ?_
    refine ev_loc f_L_law (nx := 1394) rfl rfl rfl rfl ?_
    refine ev_ic f_L_law (nx := 1395) (v := 2) rfl (by decide) rfl ?_
    refine ev_aluvI f_L_law (nx := 1396) (w := 2) rfl rfl rfl (by decide) rfl ?_
    refine ev_scr f_L_law (nx := 1397) (j := 2) rfl hX (by decide) (by decide) (by decide) rfl ?_
    refine ev_inV3 f_L_law (nx := 1400) (lo2 := [(0, .ref 69), (1, .int ((X.2 1))), (2, .int ((X.2 2)))]) rfl rfl rfl rfl f_X12_later (hW.s rfl) rfl rfl rfl rfl rfl ?_
    refine ev_loc f_X12_later (nx := 1) rfl rfl rfl rfl ?_
    refine ev_loc f_X12_later (nx := 2) rfl rfl rfl rfl ?_
    refine ev_inV2 f_X12_later (nx := 5) (lo2 := [(0, .ref 69), (1, .int ((X.2 1)))]) rfl rfl rfl rfl f_X12_isShip (hW.s rfl) rfl rfl rfl rfl rfl ?_
    refine ev_loc f_X12_isShip (nx := 1) rfl rfl rfl rfl ?_
    refine ev_t f_X12_isShip (t1 := 18) (t2 := 4) rfl rfl rfl (by rw [Int32.lt_iff_toInt_lt, (by decide : (0 : Int32).toInt = 0)]; omega) ?_
    refine ev_ic f_X12_isShip (nx := 19) (v := 0) rfl (by decide) rfl ?_
    refine ev_retK1 f_X12_isShip rfl rfl rfl ?_
    refine ev_t f_X12_later (t1 := 20) (t2 := 8) rfl rfl rfl (by decide) ?_
    refine ev_loc f_X12_later (nx := 21) rfl rfl rfl rfl ?_
    refine ev_ic f_X12_later (nx := 22) (v := 1) rfl (by decide) rfl ?_
    refine ev_inV2 f_X12_later (nx := 25) (lo2 := [(0, .ref 69), (1, .int 1)]) rfl rfl rfl rfl f_X12_refuse (hW.s rfl) rfl rfl rfl rfl rfl ?_
    refine ev_loc f_X12_refuse (nx := 1) rfl rfl rfl rfl ?_
    refine ev_loc f_X12_refuse (nx := 2) rfl rfl rfl rfl ?_
    refine ev_putI f_X12_refuse (nx := 5) rfl (hW.s rfl) rfl rfl rfl ?_
    refine ev_ic f_X12_refuse (nx := 6) (v := -1) rfl (by decide) rfl ?_
    refine ev_retK1 f_X12_refuse rfl rfl rfl ?_
    refine ev_retK1 f_X12_later rfl rfl rfl ?_
    refine ev_t f_L_law (t1 := 1628) (t2 := 1403) rfl rfl rfl (by decide) ?_
    refine ev_incv f_L_law (nx := 1631) (c := 6) (w := 6) (lo' := [(3, .int 6), (2, .ref 69), (1, .ref 0), (0, .retAddr 30)]) rfl rfl (by decide) (by decide) rfl rfl rfl ?_
    refine ev_jmp f_L_law (nx := 18) rfl rfl rfl ?_
    refine ev_loc f_L_law (nx := 19) rfl rfl rfl rfl ?_
    refine ev_loc f_L_law (nx := 20) rfl rfl rfl rfl ?_
    refine ev_alenX f_L_law (nx := 21) rfl hX rfl ?_
    refine ev_bp f_L_law (nx := 23) (v := 6) rfl (by decide) rfl ?_
    refine ev_aluvI f_L_law (nx := 24) (w := 0) rfl rfl rfl (by decide) rfl ?_
    refine ev_t f_L_law (t1 := 1634) (t2 := 27) rfl rfl rfl (by decide) ?_
    refine ev_ic f_L_law (nx := 1635) (v := 1) rfl (by decide) rfl ?_
    refine ev_ret f_L_law rfl rfl rfl ?_
    exact ⟨rfl, hz⟩
  · have q17 := h17; rw [Int32.lt_iff_toInt_lt, (by decide : (0 : Int32).toInt = 0)] at q17
    refine ev_loc f_X11_isShip (nx := 5) rfl rfl rfl rfl ?_
    refine ev_loc f_X11_isShip (nx := 6) rfl rfl rfl rfl ?_
    refine ev_getR f_X11_isShip (nx := 9) rfl (hW.s rfl) rfl rfl (wr_0_6 (gr := gr) hR) rfl rfl ?_
    refine ev_getR f_X11_isShip (nx := 12) rfl (hW.s rfl) rfl rfl (hW.r rfl) rfl rfl ?_
    refine ev_gvI f_X11_isShip (nx := 15) (w := 0) rfl (hW.s rfl) rfl rfl (wi_6_0 (gi := gi) hR) rfl ?_
    refine ev_t f_X11_isShip (t1 := 22) (t2 := 18) rfl rfl rfl (by rw [Int32.le_iff_toInt_le, (by decide : (0 : Int32).toInt = 0)]; omega) ?_
    refine ev_ic f_X11_isShip (nx := 23) (v := 0) rfl (by decide) rfl ?_
    refine ev_retK1 f_X11_isShip rfl rfl rfl ?_
    refine ev_t f_X11_later (t1 := 18) (t2 := 8) rfl rfl rfl (by decide) ?_
    refine ev_loc f_X11_later (nx := 19) rfl rfl rfl rfl ?_
    refine ev_ic f_X11_later (nx := 20) (v := 1) rfl (by decide) rfl ?_
    refine ev_inV2 f_X11_later (nx := 23) (lo2 := [(0, .ref 0), (1, .int 1)]) rfl rfl rfl rfl f_X11_refuse (hW.s rfl) rfl rfl rfl rfl rfl ?_
    refine ev_loc f_X11_refuse (nx := 1) rfl rfl rfl rfl ?_
    refine ev_loc f_X11_refuse (nx := 2) rfl rfl rfl rfl ?_
    refine ev_putI f_X11_refuse (nx := 5) rfl (hW.s rfl) rfl rfl rfl ?_
    refine ev_ic f_X11_refuse (nx := 6) (v := -1) rfl (by decide) rfl ?_
    refine ev_retK1 f_X11_refuse rfl rfl rfl ?_
    refine ev_retK1 f_X11_later rfl rfl rfl ?_
    refine ev_loc f_L_law (nx := 1387) rfl rfl rfl rfl ?_
    refine ev_loc f_L_law (nx := 1388) rfl rfl rfl rfl ?_
    refine ev_loc f_L_law (nx := 1389) rfl rfl rfl rfl ?_
    refine ev_ic f_L_law (nx := 1390) (v := 1) rfl (by decide) rfl ?_
    refine ev_aluvI f_L_law (nx := 1391) (w := 1) rfl rfl rfl (by decide) rfl ?_
    refine ev_scr f_L_law (nx := 1392) (j := 1) rfl hX (by decide) (by decide) (by decide) rfl ?_
    refine ev_loc f_L_law (nx := 1393) rfl rfl rfl rfl ?_
    refine ev_loc f_L_law (nx := 1394) rfl rfl rfl rfl ?_
    refine ev_ic f_L_law (nx := 1395) (v := 2) rfl (by decide) rfl ?_
    refine ev_aluvI f_L_law (nx := 1396) (w := 2) rfl rfl rfl (by decide) rfl ?_
    refine ev_scr f_L_law (nx := 1397) (j := 2) rfl hX (by decide) (by decide) (by decide) rfl ?_
    refine ev_inV3 f_L_law (nx := 1400) (lo2 := [(0, .ref 69), (1, .int ((X.2 1))), (2, .int ((X.2 2)))]) rfl rfl rfl rfl f_X12_later (hW.s rfl) rfl rfl rfl rfl rfl ?_
    refine ev_loc f_X12_later (nx := 1) rfl rfl rfl rfl ?_
    refine ev_loc f_X12_later (nx := 2) rfl rfl rfl rfl ?_
    refine ev_inV2 f_X12_later (nx := 5) (lo2 := [(0, .ref 69), (1, .int ((X.2 1)))]) rfl rfl rfl rfl f_X12_isShip (hW.s rfl) rfl rfl rfl rfl rfl ?_
    refine ev_loc f_X12_isShip (nx := 1) rfl rfl rfl rfl ?_
    refine ev_f f_X12_isShip (t1 := 18) (t2 := 4) rfl rfl rfl (by rw [Int32.lt_iff_toInt_lt, (by decide : (0 : Int32).toInt = 0)]; omega) ?_
    refine ev_loc f_X12_isShip (nx := 5) rfl rfl rfl rfl ?_
    refine ev_loc f_X12_isShip (nx := 6) rfl rfl rfl rfl ?_
    refine ev_getR f_X12_isShip (nx := 9) rfl (hW.s rfl) rfl rfl (hW.r rfl) rfl rfl ?_
    refine ev_ic f_X12_isShip (nx := 10) (v := 1) rfl (by decide) rfl ?_
    refine ev_ialdv f_X12_isShip (nx := 11) (j := 1) (w := 0) rfl (hW.s rfl) (by decide) (by decide) (by decide) (wi_70_1 (gi := gi) hR) rfl ?_
    refine ev_t f_X12_isShip (t1 := 18) (t2 := 14) rfl rfl rfl (by rw [Int32.le_iff_toInt_le, (by decide : (0 : Int32).toInt = 0)]; omega) ?_
    refine ev_ic f_X12_isShip (nx := 19) (v := 0) rfl (by decide) rfl ?_
    refine ev_retK1 f_X12_isShip rfl rfl rfl ?_
    refine ev_t f_X12_later (t1 := 20) (t2 := 8) rfl rfl rfl (by decide) ?_
    refine ev_loc f_X12_later (nx := 21) rfl rfl rfl rfl ?_
    refine ev_ic f_X12_later (nx := 22) (v := 1) rfl (by decide) rfl ?_
    refine ev_inV2 f_X12_later (nx := 25) (lo2 := [(0, .ref 69), (1, .int 1)]) rfl rfl rfl rfl f_X12_refuse (hW.s rfl) rfl rfl rfl rfl rfl ?_
    refine ev_loc f_X12_refuse (nx := 1) rfl rfl rfl rfl ?_
    refine ev_loc f_X12_refuse (nx := 2) rfl rfl rfl rfl ?_
    refine ev_putI f_X12_refuse (nx := 5) rfl (hW.s rfl) rfl rfl rfl ?_
    refine ev_ic f_X12_refuse (nx := 6) (v := -1) rfl (by decide) rfl ?_
    refine ev_retK1 f_X12_refuse rfl rfl rfl ?_
    refine ev_retK1 f_X12_later rfl rfl rfl ?_
    refine ev_t f_L_law (t1 := 1628) (t2 := 1403) rfl rfl rfl (by decide) ?_
    refine ev_incv f_L_law (nx := 1631) (c := 6) (w := 6) (lo' := [(3, .int 6), (2, .ref 69), (1, .ref 0), (0, .retAddr 30)]) rfl rfl (by decide) (by decide) rfl rfl rfl ?_
    refine ev_jmp f_L_law (nx := 18) rfl rfl rfl ?_
    refine ev_loc f_L_law (nx := 19) rfl rfl rfl rfl ?_
    refine ev_loc f_L_law (nx := 20) rfl rfl rfl rfl ?_
    refine ev_alenX f_L_law (nx := 21) rfl hX rfl ?_
    refine ev_bp f_L_law (nx := 23) (v := 6) rfl (by decide) rfl ?_
    refine ev_aluvI f_L_law (nx := 24) (w := 0) rfl rfl rfl (by decide) rfl ?_
    refine ev_t f_L_law (t1 := 1634) (t2 := 27) rfl rfl rfl (by decide) ?_
    refine ev_ic f_L_law (nx := 1635) (v := 1) rfl (by decide) rfl ?_
    refine ev_ret f_L_law rfl rfl rfl ?_
    exact ⟨rfl, hz⟩
set_option maxRecDepth 20000 in
theorem pc_38 (hR : x_R W1 (sh, gi, gl, gr)) (hX : X.1 = 6) : x_Ev X 1000 n_L_law 1405 [(3, .int 0), (2, .ref 69), (1, .ref 0), (0, .retAddr 30)] [] (sh, gi, gl, gr) x_P1 := by
  have hW := W1_WF hR
  have hz := W1_hz hR
  refine ev_loc f_L_law (nx := 1406) rfl rfl rfl rfl ?_
  refine ev_loc f_L_law (nx := 1407) rfl rfl rfl rfl ?_
  refine ev_loc f_L_law (nx := 1408) rfl rfl rfl rfl ?_
  refine ev_ic f_L_law (nx := 1409) (v := 1) rfl (by decide) rfl ?_
  refine ev_aluvI f_L_law (nx := 1410) (w := 1) rfl rfl rfl (by decide) rfl ?_
  refine ev_scr f_L_law (nx := 1411) (j := 1) rfl hX (by decide) (by decide) (by decide) rfl ?_
  refine ev_inV2 f_L_law (nx := 1414) (lo2 := [(0, .ref 0), (1, .int ((X.2 1)))]) rfl rfl rfl rfl f_X11_slack (hW.s rfl) rfl rfl rfl rfl rfl ?_
  refine ev_loc f_X11_slack (nx := 1) rfl rfl rfl rfl ?_
  refine ev_loc f_X11_slack (nx := 2) rfl rfl rfl rfl ?_
  refine ev_inV2 f_X11_slack (nx := 5) (lo2 := [(0, .ref 0), (1, .int ((X.2 1)))]) rfl rfl rfl rfl f_X11_isShip (hW.s rfl) rfl rfl rfl rfl rfl ?_
  refine ev_loc f_X11_isShip (nx := 1) rfl rfl rfl rfl ?_
  refine ev_if f_X11_isShip (t1 := 22) (t2 := 4) rfl rfl rfl (fun h12 => ?_) (fun h12 => ?_)
  · have q12 := h12; rw [Int32.lt_iff_toInt_lt, (by decide : (0 : Int32).toInt = 0)] at q12
    refine ev_ic f_X11_isShip (nx := 23) (v := 0) rfl (by decide) rfl ?_
    refine ev_retK1 f_X11_isShip rfl rfl rfl ?_
    refine ev_t f_X11_slack (t1 := 8) (t2 := 14) rfl rfl rfl (by decide) ?_
    refine ev_loc f_X11_slack (nx := 9) rfl rfl rfl rfl ?_
    refine ev_ic f_X11_slack (nx := 10) (v := 1) rfl (by decide) rfl ?_
    refine ev_inV2 f_X11_slack (nx := 13) (lo2 := [(0, .ref 0), (1, .int 1)]) rfl rfl rfl rfl f_X11_refuse (hW.s rfl) rfl rfl rfl rfl rfl ?_
    refine ev_loc f_X11_refuse (nx := 1) rfl rfl rfl rfl ?_
    refine ev_loc f_X11_refuse (nx := 2) rfl rfl rfl rfl ?_
    refine ev_putI f_X11_refuse (nx := 5) rfl (hW.s rfl) rfl rfl rfl ?_
    refine ev_ic f_X11_refuse (nx := 6) (v := -1) rfl (by decide) rfl ?_
    refine ev_retK1 f_X11_refuse rfl rfl rfl ?_
    refine ev_retK1 f_X11_slack rfl rfl rfl ?_
    refine ev_loc f_L_law (nx := 1415) rfl rfl rfl rfl ?_
    refine ev_loc f_L_law (nx := 1416) rfl rfl rfl rfl ?_
    refine ev_loc f_L_law (nx := 1417) rfl rfl rfl rfl ?_
    refine ev_ic f_L_law (nx := 1418) (v := 1) rfl (by decide) rfl ?_
    refine ev_aluvI f_L_law (nx := 1419) (w := 1) rfl rfl rfl (by decide) rfl ?_
    refine ev_scr f_L_law (nx := 1420) (j := 1) rfl hX (by decide) (by decide) (by decide) rfl ?_
    refine ev_inV2 f_L_law (nx := 1423) (lo2 := [(0, .ref 69), (1, .int ((X.2 1)))]) rfl rfl rfl rfl f_X12_slack (hW.s rfl) rfl rfl rfl rfl rfl ?_
    refine ev_loc f_X12_slack (nx := 1) rfl rfl rfl rfl ?_
    refine ev_loc f_X12_slack (nx := 2) rfl rfl rfl rfl ?_
    refine ev_inV2 f_X12_slack (nx := 5) (lo2 := [(0, .ref 69), (1, .int ((X.2 1)))]) rfl rfl rfl rfl f_X12_isShip (hW.s rfl) rfl rfl rfl rfl rfl ?_
    refine ev_loc f_X12_isShip (nx := 1) rfl rfl rfl rfl ?_
    refine ev_t f_X12_isShip (t1 := 18) (t2 := 4) rfl rfl rfl (by rw [Int32.lt_iff_toInt_lt, (by decide : (0 : Int32).toInt = 0)]; omega) ?_
    refine ev_ic f_X12_isShip (nx := 19) (v := 0) rfl (by decide) rfl ?_
    refine ev_retK1 f_X12_isShip rfl rfl rfl ?_
    refine ev_t f_X12_slack (t1 := 8) (t2 := 14) rfl rfl rfl (by decide) ?_
    refine ev_loc f_X12_slack (nx := 9) rfl rfl rfl rfl ?_
    refine ev_ic f_X12_slack (nx := 10) (v := 1) rfl (by decide) rfl ?_
    refine ev_inV2 f_X12_slack (nx := 13) (lo2 := [(0, .ref 69), (1, .int 1)]) rfl rfl rfl rfl f_X12_refuse (hW.s rfl) rfl rfl rfl rfl rfl ?_
    refine ev_loc f_X12_refuse (nx := 1) rfl rfl rfl rfl ?_
    refine ev_loc f_X12_refuse (nx := 2) rfl rfl rfl rfl ?_
    refine ev_putI f_X12_refuse (nx := 5) rfl (hW.s rfl) rfl rfl rfl ?_
    refine ev_ic f_X12_refuse (nx := 6) (v := -1) rfl (by decide) rfl ?_
    refine ev_retK1 f_X12_refuse rfl rfl rfl ?_
    refine ev_retK1 f_X12_slack rfl rfl rfl ?_
    refine ev_t f_L_law (t1 := 1628) (t2 := 1426) rfl rfl rfl (by decide) ?_
    refine ev_incv f_L_law (nx := 1631) (c := 6) (w := 6) (lo' := [(3, .int 6), (2, .ref 69), (1, .ref 0), (0, .retAddr 30)]) rfl rfl (by decide) (by decide) rfl rfl rfl ?_
    refine ev_jmp f_L_law (nx := 18) rfl rfl rfl ?_
    refine ev_loc f_L_law (nx := 19) rfl rfl rfl rfl ?_
    refine ev_loc f_L_law (nx := 20) rfl rfl rfl rfl ?_
    refine ev_alenX f_L_law (nx := 21) rfl hX rfl ?_
    refine ev_bp f_L_law (nx := 23) (v := 6) rfl (by decide) rfl ?_
    refine ev_aluvI f_L_law (nx := 24) (w := 0) rfl rfl rfl (by decide) rfl ?_
    refine ev_t f_L_law (t1 := 1634) (t2 := 27) rfl rfl rfl (by decide) ?_
    refine ev_ic f_L_law (nx := 1635) (v := 1) rfl (by decide) rfl ?_
    refine ev_ret f_L_law rfl rfl rfl ?_
    exact ⟨rfl, hz⟩
  · have q12 := h12; rw [Int32.lt_iff_toInt_lt, (by decide : (0 : Int32).toInt = 0)] at q12
    refine ev_loc f_X11_isShip (nx := 5) rfl rfl rfl rfl ?_
    refine ev_loc f_X11_isShip (nx := 6) rfl rfl rfl rfl ?_
    refine ev_getR f_X11_isShip (nx := 9) rfl (hW.s rfl) rfl rfl (wr_0_6 (gr := gr) hR) rfl rfl ?_
    refine ev_getR f_X11_isShip (nx := 12) rfl (hW.s rfl) rfl rfl (hW.r rfl) rfl rfl ?_
    refine ev_gvI f_X11_isShip (nx := 15) (w := 0) rfl (hW.s rfl) rfl rfl (wi_6_0 (gi := gi) hR) rfl ?_
    refine ev_t f_X11_isShip (t1 := 22) (t2 := 18) rfl rfl rfl (by rw [Int32.le_iff_toInt_le, (by decide : (0 : Int32).toInt = 0)]; omega) ?_
    refine ev_ic f_X11_isShip (nx := 23) (v := 0) rfl (by decide) rfl ?_
    refine ev_retK1 f_X11_isShip rfl rfl rfl ?_
    refine ev_t f_X11_slack (t1 := 8) (t2 := 14) rfl rfl rfl (by decide) ?_
    refine ev_loc f_X11_slack (nx := 9) rfl rfl rfl rfl ?_
    refine ev_ic f_X11_slack (nx := 10) (v := 1) rfl (by decide) rfl ?_
    refine ev_inV2 f_X11_slack (nx := 13) (lo2 := [(0, .ref 0), (1, .int 1)]) rfl rfl rfl rfl f_X11_refuse (hW.s rfl) rfl rfl rfl rfl rfl ?_
    refine ev_loc f_X11_refuse (nx := 1) rfl rfl rfl rfl ?_
    refine ev_loc f_X11_refuse (nx := 2) rfl rfl rfl rfl ?_
    refine ev_putI f_X11_refuse (nx := 5) rfl (hW.s rfl) rfl rfl rfl ?_
    refine ev_ic f_X11_refuse (nx := 6) (v := -1) rfl (by decide) rfl ?_
    refine ev_retK1 f_X11_refuse rfl rfl rfl ?_
    refine ev_retK1 f_X11_slack rfl rfl rfl ?_
    refine ev_loc f_L_law (nx := 1415) rfl rfl rfl rfl ?_
    refine ev_loc f_L_law (nx := 1416) rfl rfl rfl rfl ?_
    refine ev_loc f_L_law (nx := 1417) rfl rfl rfl rfl ?_
    refine ev_ic f_L_law (nx := 1418) (v := 1) rfl (by decide) rfl ?_
    refine ev_aluvI f_L_law (nx := 1419) (w := 1) rfl rfl rfl (by decide) rfl ?_
    refine ev_scr f_L_law (nx := 1420) (j := 1) rfl hX (by decide) (by decide) (by decide) rfl ?_
    refine ev_inV2 f_L_law (nx := 1423) (lo2 := [(0, .ref 69), (1, .int ((X.2 1)))]) rfl rfl rfl rfl f_X12_slack (hW.s rfl) rfl rfl rfl rfl rfl ?_
    refine ev_loc f_X12_slack (nx := 1) rfl rfl rfl rfl ?_
    refine ev_loc f_X12_slack (nx := 2) rfl rfl rfl rfl ?_
    refine ev_inV2 f_X12_slack (nx := 5) (lo2 := [(0, .ref 69), (1, .int ((X.2 1)))]) rfl rfl rfl rfl f_X12_isShip (hW.s rfl) rfl rfl rfl rfl rfl ?_
    refine ev_loc f_X12_isShip (nx := 1) rfl rfl rfl rfl ?_
    refine ev_f f_X12_isShip (t1 := 18) (t2 := 4) rfl rfl rfl (by rw [Int32.lt_iff_toInt_lt, (by decide : (0 : Int32).toInt = 0)]; omega) ?_
    refine ev_loc f_X12_isShip (nx := 5) rfl rfl rfl rfl ?_
    refine ev_loc f_X12_isShip (nx := 6) rfl rfl rfl rfl ?_
    refine ev_getR f_X12_isShip (nx := 9) rfl (hW.s rfl) rfl rfl (hW.r rfl) rfl rfl ?_
    refine ev_ic f_X12_isShip (nx := 10) (v := 1) rfl (by decide) rfl ?_
    refine ev_ialdv f_X12_isShip (nx := 11) (j := 1) (w := 0) rfl (hW.s rfl) (by decide) (by decide) (by decide) (wi_70_1 (gi := gi) hR) rfl ?_
    refine ev_t f_X12_isShip (t1 := 18) (t2 := 14) rfl rfl rfl (by rw [Int32.le_iff_toInt_le, (by decide : (0 : Int32).toInt = 0)]; omega) ?_
    refine ev_ic f_X12_isShip (nx := 19) (v := 0) rfl (by decide) rfl ?_
    refine ev_retK1 f_X12_isShip rfl rfl rfl ?_
    refine ev_t f_X12_slack (t1 := 8) (t2 := 14) rfl rfl rfl (by decide) ?_
    refine ev_loc f_X12_slack (nx := 9) rfl rfl rfl rfl ?_
    refine ev_ic f_X12_slack (nx := 10) (v := 1) rfl (by decide) rfl ?_
    refine ev_inV2 f_X12_slack (nx := 13) (lo2 := [(0, .ref 69), (1, .int 1)]) rfl rfl rfl rfl f_X12_refuse (hW.s rfl) rfl rfl rfl rfl rfl ?_
    refine ev_loc f_X12_refuse (nx := 1) rfl rfl rfl rfl ?_
    refine ev_loc f_X12_refuse (nx := 2) rfl rfl rfl rfl ?_
    refine ev_putI f_X12_refuse (nx := 5) rfl (hW.s rfl) rfl rfl rfl ?_
    refine ev_ic f_X12_refuse (nx := 6) (v := -1) rfl (by decide) rfl ?_
    refine ev_retK1 f_X12_refuse rfl rfl rfl ?_
    refine ev_retK1 f_X12_slack rfl rfl rfl ?_
    refine ev_t f_L_law (t1 := 1628) (t2 := 1426) rfl rfl rfl (by decide) ?_
    refine ev_incv f_L_law (nx := 1631) (c := 6) (w := 6) (lo' := [(3, .int 6), (2, .ref 69), (1, .ref 0), (0, .retAddr 30)]) rfl rfl (by decide) (by decide) rfl rfl rfl ?_
    refine ev_jmp f_L_law (nx := 18) rfl rfl rfl ?_
    refine ev_loc f_L_law (nx := 19) rfl rfl rfl rfl ?_
    refine ev_loc f_L_law (nx := 20) rfl rfl rfl rfl ?_
    refine ev_alenX f_L_law (nx := 21) rfl hX rfl ?_
    refine ev_bp f_L_law (nx := 23) (v := 6) rfl (by decide) rfl ?_
    refine ev_aluvI f_L_law (nx := 24) (w := 0) rfl rfl rfl (by decide) rfl ?_
    refine ev_t f_L_law (t1 := 1634) (t2 := 27) rfl rfl rfl (by decide) ?_
    refine ev_ic f_L_law (nx := 1635) (v := 1) rfl (by decide) rfl ?_
    refine ev_ret f_L_law rfl rfl rfl ?_
    exact ⟨rfl, hz⟩
set_option maxRecDepth 20000 in
theorem pc_39 (hR : x_R W1 (sh, gi, gl, gr)) (hX : X.1 = 6) : x_Ev X 1000 n_L_law 1428 [(3, .int 0), (2, .ref 69), (1, .ref 0), (0, .retAddr 30)] [] (sh, gi, gl, gr) x_P1 := by
  have hW := W1_WF hR
  have hz := W1_hz hR
  refine ev_loc f_L_law (nx := 1429) rfl rfl rfl rfl ?_
  refine ev_loc f_L_law (nx := 1430) rfl rfl rfl rfl ?_
  refine ev_loc f_L_law (nx := 1431) rfl rfl rfl rfl ?_
  refine ev_ic f_L_law (nx := 1432) (v := 1) rfl (by decide) rfl ?_
  refine ev_aluvI f_L_law (nx := 1433) (w := 1) rfl rfl rfl (by decide) rfl ?_
  refine ev_scr f_L_law (nx := 1434) (j := 1) rfl hX (by decide) (by decide) (by decide) rfl ?_
  refine ev_inV2 f_L_law (nx := 1437) (lo2 := [(0, .ref 0), (1, .int ((X.2 1)))]) rfl rfl rfl rfl f_X11_without (hW.s rfl) rfl rfl rfl rfl rfl ?_
  refine ev_loc f_X11_without (nx := 1) rfl rfl rfl rfl ?_
  refine ev_loc f_X11_without (nx := 2) rfl rfl rfl rfl ?_
  refine ev_inV2 f_X11_without (nx := 5) (lo2 := [(0, .ref 0), (1, .int ((X.2 1)))]) rfl rfl rfl rfl f_X11_isCart (hW.s rfl) rfl rfl rfl rfl rfl ?_
  refine ev_loc f_X11_isCart (nx := 1) rfl rfl rfl rfl ?_
  refine ev_if f_X11_isCart (t1 := 22) (t2 := 4) rfl rfl rfl (fun h12 => ?_) (fun h12 => ?_)
  · have q12 := h12; rw [Int32.lt_iff_toInt_lt, (by decide : (0 : Int32).toInt = 0)] at q12
    refine ev_ic f_X11_isCart (nx := 23) (v := 0) rfl (by decide) rfl ?_
    refine ev_retK1 f_X11_isCart rfl rfl rfl ?_
    refine ev_t f_X11_without (t1 := 8) (t2 := 14) rfl rfl rfl (by decide) ?_
    refine ev_loc f_X11_without (nx := 9) rfl rfl rfl rfl ?_
    refine ev_ic f_X11_without (nx := 10) (v := 1) rfl (by decide) rfl ?_
    refine ev_inV2 f_X11_without (nx := 13) (lo2 := [(0, .ref 0), (1, .int 1)]) rfl rfl rfl rfl f_X11_refuse (hW.s rfl) rfl rfl rfl rfl rfl ?_
    refine ev_loc f_X11_refuse (nx := 1) rfl rfl rfl rfl ?_
    refine ev_loc f_X11_refuse (nx := 2) rfl rfl rfl rfl ?_
    refine ev_putI f_X11_refuse (nx := 5) rfl (hW.s rfl) rfl rfl rfl ?_
    refine ev_ic f_X11_refuse (nx := 6) (v := -1) rfl (by decide) rfl ?_
    refine ev_retK1 f_X11_refuse rfl rfl rfl ?_
    refine ev_retK1 f_X11_without rfl rfl rfl ?_
    refine ev_loc f_L_law (nx := 1438) rfl rfl rfl rfl ?_
    refine ev_loc f_L_law (nx := 1439) rfl rfl rfl rfl ?_
    refine ev_loc f_L_law (nx := 1440) rfl rfl rfl rfl ?_
    refine ev_ic f_L_law (nx := 1441) (v := 1) rfl (by decide) rfl ?_
    refine ev_aluvI f_L_law (nx := 1442) (w := 1) rfl rfl rfl (by decide) rfl ?_
    refine ev_scr f_L_law (nx := 1443) (j := 1) rfl hX (by decide) (by decide) (by decide) rfl ?_
    refine ev_inV2 f_L_law (nx := 1446) (lo2 := [(0, .ref 69), (1, .int ((X.2 1)))]) rfl rfl rfl rfl f_X12_without (hW.s rfl) rfl rfl rfl rfl rfl ?_
    refine ev_loc f_X12_without (nx := 1) rfl rfl rfl rfl ?_
    refine ev_loc f_X12_without (nx := 2) rfl rfl rfl rfl ?_
    refine ev_inV2 f_X12_without (nx := 5) (lo2 := [(0, .ref 69), (1, .int ((X.2 1)))]) rfl rfl rfl rfl f_X12_isCart (hW.s rfl) rfl rfl rfl rfl rfl ?_
    refine ev_loc f_X12_isCart (nx := 1) rfl rfl rfl rfl ?_
    refine ev_t f_X12_isCart (t1 := 18) (t2 := 4) rfl rfl rfl (by rw [Int32.lt_iff_toInt_lt, (by decide : (0 : Int32).toInt = 0)]; omega) ?_
    refine ev_ic f_X12_isCart (nx := 19) (v := 0) rfl (by decide) rfl ?_
    refine ev_retK1 f_X12_isCart rfl rfl rfl ?_
    refine ev_t f_X12_without (t1 := 8) (t2 := 14) rfl rfl rfl (by decide) ?_
    refine ev_loc f_X12_without (nx := 9) rfl rfl rfl rfl ?_
    refine ev_ic f_X12_without (nx := 10) (v := 1) rfl (by decide) rfl ?_
    refine ev_inV2 f_X12_without (nx := 13) (lo2 := [(0, .ref 69), (1, .int 1)]) rfl rfl rfl rfl f_X12_refuse (hW.s rfl) rfl rfl rfl rfl rfl ?_
    refine ev_loc f_X12_refuse (nx := 1) rfl rfl rfl rfl ?_
    refine ev_loc f_X12_refuse (nx := 2) rfl rfl rfl rfl ?_
    refine ev_putI f_X12_refuse (nx := 5) rfl (hW.s rfl) rfl rfl rfl ?_
    refine ev_ic f_X12_refuse (nx := 6) (v := -1) rfl (by decide) rfl ?_
    refine ev_retK1 f_X12_refuse rfl rfl rfl ?_
    refine ev_retK1 f_X12_without rfl rfl rfl ?_
    refine ev_t f_L_law (t1 := 1628) (t2 := 1449) rfl rfl rfl (by decide) ?_
    refine ev_incv f_L_law (nx := 1631) (c := 6) (w := 6) (lo' := [(3, .int 6), (2, .ref 69), (1, .ref 0), (0, .retAddr 30)]) rfl rfl (by decide) (by decide) rfl rfl rfl ?_
    refine ev_jmp f_L_law (nx := 18) rfl rfl rfl ?_
    refine ev_loc f_L_law (nx := 19) rfl rfl rfl rfl ?_
    refine ev_loc f_L_law (nx := 20) rfl rfl rfl rfl ?_
    refine ev_alenX f_L_law (nx := 21) rfl hX rfl ?_
    refine ev_bp f_L_law (nx := 23) (v := 6) rfl (by decide) rfl ?_
    refine ev_aluvI f_L_law (nx := 24) (w := 0) rfl rfl rfl (by decide) rfl ?_
    refine ev_t f_L_law (t1 := 1634) (t2 := 27) rfl rfl rfl (by decide) ?_
    refine ev_ic f_L_law (nx := 1635) (v := 1) rfl (by decide) rfl ?_
    refine ev_ret f_L_law rfl rfl rfl ?_
    exact ⟨rfl, hz⟩
  · have q12 := h12; rw [Int32.lt_iff_toInt_lt, (by decide : (0 : Int32).toInt = 0)] at q12
    refine ev_loc f_X11_isCart (nx := 5) rfl rfl rfl rfl ?_
    refine ev_loc f_X11_isCart (nx := 6) rfl rfl rfl rfl ?_
    refine ev_getR f_X11_isCart (nx := 9) rfl (hW.s rfl) rfl rfl (wr_0_6 (gr := gr) hR) rfl rfl ?_
    refine ev_getR f_X11_isCart (nx := 12) rfl (hW.s rfl) rfl rfl (hW.r rfl) rfl rfl ?_
    refine ev_gvI f_X11_isCart (nx := 15) (w := 0) rfl (hW.s rfl) rfl rfl (wi_13_0 (gi := gi) hR) rfl ?_
    refine ev_t f_X11_isCart (t1 := 22) (t2 := 18) rfl rfl rfl (by rw [Int32.le_iff_toInt_le, (by decide : (0 : Int32).toInt = 0)]; omega) ?_
    refine ev_ic f_X11_isCart (nx := 23) (v := 0) rfl (by decide) rfl ?_
    refine ev_retK1 f_X11_isCart rfl rfl rfl ?_
    refine ev_t f_X11_without (t1 := 8) (t2 := 14) rfl rfl rfl (by decide) ?_
    refine ev_loc f_X11_without (nx := 9) rfl rfl rfl rfl ?_
    refine ev_ic f_X11_without (nx := 10) (v := 1) rfl (by decide) rfl ?_
    refine ev_inV2 f_X11_without (nx := 13) (lo2 := [(0, .ref 0), (1, .int 1)]) rfl rfl rfl rfl f_X11_refuse (hW.s rfl) rfl rfl rfl rfl rfl ?_
    refine ev_loc f_X11_refuse (nx := 1) rfl rfl rfl rfl ?_
    refine ev_loc f_X11_refuse (nx := 2) rfl rfl rfl rfl ?_
    refine ev_putI f_X11_refuse (nx := 5) rfl (hW.s rfl) rfl rfl rfl ?_
    refine ev_ic f_X11_refuse (nx := 6) (v := -1) rfl (by decide) rfl ?_
    refine ev_retK1 f_X11_refuse rfl rfl rfl ?_
    refine ev_retK1 f_X11_without rfl rfl rfl ?_
    refine ev_loc f_L_law (nx := 1438) rfl rfl rfl rfl ?_
    refine ev_loc f_L_law (nx := 1439) rfl rfl rfl rfl ?_
    refine ev_loc f_L_law (nx := 1440) rfl rfl rfl rfl ?_
    refine ev_ic f_L_law (nx := 1441) (v := 1) rfl (by decide) rfl ?_
    refine ev_aluvI f_L_law (nx := 1442) (w := 1) rfl rfl rfl (by decide) rfl ?_
    refine ev_scr f_L_law (nx := 1443) (j := 1) rfl hX (by decide) (by decide) (by decide) rfl ?_
    refine ev_inV2 f_L_law (nx := 1446) (lo2 := [(0, .ref 69), (1, .int ((X.2 1)))]) rfl rfl rfl rfl f_X12_without (hW.s rfl) rfl rfl rfl rfl rfl ?_
    refine ev_loc f_X12_without (nx := 1) rfl rfl rfl rfl ?_
    refine ev_loc f_X12_without (nx := 2) rfl rfl rfl rfl ?_
    refine ev_inV2 f_X12_without (nx := 5) (lo2 := [(0, .ref 69), (1, .int ((X.2 1)))]) rfl rfl rfl rfl f_X12_isCart (hW.s rfl) rfl rfl rfl rfl rfl ?_
    refine ev_loc f_X12_isCart (nx := 1) rfl rfl rfl rfl ?_
    refine ev_f f_X12_isCart (t1 := 18) (t2 := 4) rfl rfl rfl (by rw [Int32.lt_iff_toInt_lt, (by decide : (0 : Int32).toInt = 0)]; omega) ?_
    refine ev_loc f_X12_isCart (nx := 5) rfl rfl rfl rfl ?_
    refine ev_loc f_X12_isCart (nx := 6) rfl rfl rfl rfl ?_
    refine ev_getR f_X12_isCart (nx := 9) rfl (hW.s rfl) rfl rfl (hW.r rfl) rfl rfl ?_
    refine ev_ic f_X12_isCart (nx := 10) (v := 2) rfl (by decide) rfl ?_
    refine ev_ialdv f_X12_isCart (nx := 11) (j := 2) (w := 0) rfl (hW.s rfl) (by decide) (by decide) (by decide) (wi_70_2 (gi := gi) hR) rfl ?_
    refine ev_t f_X12_isCart (t1 := 18) (t2 := 14) rfl rfl rfl (by rw [Int32.le_iff_toInt_le, (by decide : (0 : Int32).toInt = 0)]; omega) ?_
    refine ev_ic f_X12_isCart (nx := 19) (v := 0) rfl (by decide) rfl ?_
    refine ev_retK1 f_X12_isCart rfl rfl rfl ?_
    refine ev_t f_X12_without (t1 := 8) (t2 := 14) rfl rfl rfl (by decide) ?_
    refine ev_loc f_X12_without (nx := 9) rfl rfl rfl rfl ?_
    refine ev_ic f_X12_without (nx := 10) (v := 1) rfl (by decide) rfl ?_
    refine ev_inV2 f_X12_without (nx := 13) (lo2 := [(0, .ref 69), (1, .int 1)]) rfl rfl rfl rfl f_X12_refuse (hW.s rfl) rfl rfl rfl rfl rfl ?_
    refine ev_loc f_X12_refuse (nx := 1) rfl rfl rfl rfl ?_
    refine ev_loc f_X12_refuse (nx := 2) rfl rfl rfl rfl ?_
    refine ev_putI f_X12_refuse (nx := 5) rfl (hW.s rfl) rfl rfl rfl ?_
    refine ev_ic f_X12_refuse (nx := 6) (v := -1) rfl (by decide) rfl ?_
    refine ev_retK1 f_X12_refuse rfl rfl rfl ?_
    refine ev_retK1 f_X12_without rfl rfl rfl ?_
    refine ev_t f_L_law (t1 := 1628) (t2 := 1449) rfl rfl rfl (by decide) ?_
    refine ev_incv f_L_law (nx := 1631) (c := 6) (w := 6) (lo' := [(3, .int 6), (2, .ref 69), (1, .ref 0), (0, .retAddr 30)]) rfl rfl (by decide) (by decide) rfl rfl rfl ?_
    refine ev_jmp f_L_law (nx := 18) rfl rfl rfl ?_
    refine ev_loc f_L_law (nx := 19) rfl rfl rfl rfl ?_
    refine ev_loc f_L_law (nx := 20) rfl rfl rfl rfl ?_
    refine ev_alenX f_L_law (nx := 21) rfl hX rfl ?_
    refine ev_bp f_L_law (nx := 23) (v := 6) rfl (by decide) rfl ?_
    refine ev_aluvI f_L_law (nx := 24) (w := 0) rfl rfl rfl (by decide) rfl ?_
    refine ev_t f_L_law (t1 := 1634) (t2 := 27) rfl rfl rfl (by decide) ?_
    refine ev_ic f_L_law (nx := 1635) (v := 1) rfl (by decide) rfl ?_
    refine ev_ret f_L_law rfl rfl rfl ?_
    exact ⟨rfl, hz⟩
set_option maxRecDepth 20000 in
theorem pc_43 (hR : x_R W1 (sh, gi, gl, gr)) (hX : X.1 = 6) : x_Ev X 1000 n_L_law 1490 [(3, .int 0), (2, .ref 69), (1, .ref 0), (0, .retAddr 30)] [] (sh, gi, gl, gr) x_P1 := by
  have hW := W1_WF hR
  have hz := W1_hz hR
  refine ev_loc f_L_law (nx := 1491) rfl rfl rfl rfl ?_
  refine ev_loc f_L_law (nx := 1492) rfl rfl rfl rfl ?_
  refine ev_loc f_L_law (nx := 1493) rfl rfl rfl rfl ?_
  refine ev_ic f_L_law (nx := 1494) (v := 1) rfl (by decide) rfl ?_
  refine ev_aluvI f_L_law (nx := 1495) (w := 1) rfl rfl rfl (by decide) rfl ?_
  refine ev_scr f_L_law (nx := 1496) (j := 1) rfl hX (by decide) (by decide) (by decide) rfl ?_
  refine ev_inV2 f_L_law (nx := 1499) (lo2 := [(0, .ref 0), (1, .int ((X.2 1)))]) rfl rfl rfl rfl f_X11_keep (hW.s rfl) rfl rfl rfl rfl rfl ?_
  refine ev_loc f_X11_keep (nx := 1) rfl rfl rfl rfl ?_
  refine ev_ic f_X11_keep (nx := 2) (v := -1) rfl (by decide) rfl ?_
  refine ev_if f_X11_keep (t1 := 12) (t2 := 5) rfl rfl rfl (fun h10 => ?_) (fun h10 => ?_)
  · have q10 := h10; rw [Int32.lt_iff_toInt_lt, (by decide : (-1 : Int32).toInt = -1)] at q10
    refine ev_loc f_X11_keep (nx := 13) rfl rfl rfl rfl ?_
    refine ev_ic f_X11_keep (nx := 14) (v := 1) rfl (by decide) rfl ?_
    refine ev_inV2 f_X11_keep (nx := 17) (lo2 := [(0, .ref 0), (1, .int 1)]) rfl rfl rfl rfl f_X11_refuse (hW.s rfl) rfl rfl rfl rfl rfl ?_
    refine ev_loc f_X11_refuse (nx := 1) rfl rfl rfl rfl ?_
    refine ev_loc f_X11_refuse (nx := 2) rfl rfl rfl rfl ?_
    refine ev_putI f_X11_refuse (nx := 5) rfl (hW.s rfl) rfl rfl rfl ?_
    refine ev_ic f_X11_refuse (nx := 6) (v := -1) rfl (by decide) rfl ?_
    refine ev_retK1 f_X11_refuse rfl rfl rfl ?_
    refine ev_retK1 f_X11_keep rfl rfl rfl ?_
    refine ev_loc f_L_law (nx := 1500) rfl rfl rfl rfl ?_
    refine ev_loc f_L_law (nx := 1501) rfl rfl rfl rfl ?_
    refine ev_loc f_L_law (nx := 1502) rfl rfl rfl rfl ?_
    refine ev_ic f_L_law (nx := 1503) (v := 1) rfl (by decide) rfl ?_
    refine ev_aluvI f_L_law (nx := 1504) (w := 1) rfl rfl rfl (by decide) rfl ?_
    refine ev_scr f_L_law (nx := 1505) (j := 1) rfl hX (by decide) (by decide) (by decide) rfl ?_
    refine ev_inV2 f_L_law (nx := 1508) (lo2 := [(0, .ref 69), (1, .int ((X.2 1)))]) rfl rfl rfl rfl f_X12_keep (hW.s rfl) rfl rfl rfl rfl rfl ?_
    refine ev_loc f_X12_keep (nx := 1) rfl rfl rfl rfl ?_
    refine ev_ic f_X12_keep (nx := 2) (v := -1) rfl (by decide) rfl ?_
    refine ev_f f_X12_keep (t1 := 23) (t2 := 5) rfl rfl rfl (by rw [← Int32.toInt_inj, (by decide : (-1 : Int32).toInt = -1)]; omega) ?_
    refine ev_loc f_X12_keep (nx := 6) rfl rfl rfl rfl ?_
    refine ev_alu f_X12_keep (nx := 7) rfl rfl rfl rfl ?_
    refine ev_lc f_X12_keep (nx := 8) (v := 0) rfl (by decide) rfl ?_
    refine ev_ldL f_X12_keep (nx := 11) (v := 9999) rfl (by decide) rfl ?_
    refine ev_inS3 f_X12_keep (nx := 14) (lo2 := [(0, .long (((X.2 1) : Int32).toInt64)), (2, .long 0), (4, .long 9999)]) rfl rfl rfl rfl f_X12_isFrom rfl rfl rfl rfl ?_
    refine ev_loc f_X12_isFrom (nx := 1) rfl rfl rfl rfl ?_
    refine ev_loc f_X12_isFrom (nx := 2) rfl rfl rfl rfl ?_
    refine ev_alu f_X12_isFrom (nx := 3) rfl rfl rfl rfl ?_
    refine ev_t f_X12_isFrom (t1 := 17) (t2 := 6) rfl rfl rfl (by rw [lgc_lt (n := 0) (by decide)]; omega) ?_
    refine ev_ic f_X12_isFrom (nx := 18) (v := 0) rfl (by decide) rfl ?_
    refine ev_retK1 f_X12_isFrom rfl rfl rfl ?_
    refine ev_t f_X12_keep (t1 := 17) (t2 := 23) rfl rfl rfl (by decide) ?_
    refine ev_loc f_X12_keep (nx := 18) rfl rfl rfl rfl ?_
    refine ev_ic f_X12_keep (nx := 19) (v := 1) rfl (by decide) rfl ?_
    refine ev_inV2 f_X12_keep (nx := 22) (lo2 := [(0, .ref 69), (1, .int 1)]) rfl rfl rfl rfl f_X12_refuse (hW.s rfl) rfl rfl rfl rfl rfl ?_
    refine ev_loc f_X12_refuse (nx := 1) rfl rfl rfl rfl ?_
    refine ev_loc f_X12_refuse (nx := 2) rfl rfl rfl rfl ?_
    refine ev_putI f_X12_refuse (nx := 5) rfl (hW.s rfl) rfl rfl rfl ?_
    refine ev_ic f_X12_refuse (nx := 6) (v := -1) rfl (by decide) rfl ?_
    refine ev_retK1 f_X12_refuse rfl rfl rfl ?_
    refine ev_retK1 f_X12_keep rfl rfl rfl ?_
    refine ev_t f_L_law (t1 := 1628) (t2 := 1511) rfl rfl rfl (by decide) ?_
    refine ev_incv f_L_law (nx := 1631) (c := 6) (w := 6) (lo' := [(3, .int 6), (2, .ref 69), (1, .ref 0), (0, .retAddr 30)]) rfl rfl (by decide) (by decide) rfl rfl rfl ?_
    refine ev_jmp f_L_law (nx := 18) rfl rfl rfl ?_
    refine ev_loc f_L_law (nx := 19) rfl rfl rfl rfl ?_
    refine ev_loc f_L_law (nx := 20) rfl rfl rfl rfl ?_
    refine ev_alenX f_L_law (nx := 21) rfl hX rfl ?_
    refine ev_bp f_L_law (nx := 23) (v := 6) rfl (by decide) rfl ?_
    refine ev_aluvI f_L_law (nx := 24) (w := 0) rfl rfl rfl (by decide) rfl ?_
    refine ev_t f_L_law (t1 := 1634) (t2 := 27) rfl rfl rfl (by decide) ?_
    refine ev_ic f_L_law (nx := 1635) (v := 1) rfl (by decide) rfl ?_
    refine ev_ret f_L_law rfl rfl rfl ?_
    exact ⟨rfl, hz⟩
  · have q10 := h10; rw [Int32.lt_iff_toInt_lt, (by decide : (-1 : Int32).toInt = -1)] at q10
    refine ev_loc f_X11_keep (nx := 6) rfl rfl rfl rfl ?_
    refine ev_sp f_X11_keep (nx := 9) (v := 9999) rfl (by decide) rfl ?_
    refine ev_if f_X11_keep (t1 := 18) (t2 := 12) rfl rfl rfl (fun h64 => ?_) (fun h64 => ?_)
    · have q64 := h64; rw [Int32.le_iff_toInt_le, (by decide : (9999 : Int32).toInt = 9999)] at q64
      refine ev_loc f_X11_keep (nx := 19) rfl rfl rfl rfl ?_
      refine ev_getR f_X11_keep (nx := 22) rfl (hW.s rfl) rfl rfl (wr_0_7 (gr := gr) hR) rfl rfl ?_
      refine ev_jmp f_X11_keep (nx := 25) rfl rfl rfl ?_
      refine ev_loc f_X11_keep (nx := 26) rfl rfl rfl rfl ?_
      refine ev_bp f_X11_keep (nx := 28) (v := 6) rfl (by decide) rfl ?_
      refine ev_inV2 f_X11_keep (nx := 31) (lo2 := [(0, .ref 0), (1, .int 6)]) rfl rfl rfl rfl f_X11_refuse (hW.s rfl) rfl rfl rfl rfl rfl ?_
      refine ev_loc f_X11_refuse (nx := 1) rfl rfl rfl rfl ?_
      refine ev_loc f_X11_refuse (nx := 2) rfl rfl rfl rfl ?_
      refine ev_putI f_X11_refuse (nx := 5) rfl (hW.s rfl) rfl rfl rfl ?_
      refine ev_ic f_X11_refuse (nx := 6) (v := -1) rfl (by decide) rfl ?_
      refine ev_retK1 f_X11_refuse rfl rfl rfl ?_
      refine ev_retK1 f_X11_keep rfl rfl rfl ?_
      refine ev_loc f_L_law (nx := 1500) rfl rfl rfl rfl ?_
      refine ev_loc f_L_law (nx := 1501) rfl rfl rfl rfl ?_
      refine ev_loc f_L_law (nx := 1502) rfl rfl rfl rfl ?_
      refine ev_ic f_L_law (nx := 1503) (v := 1) rfl (by decide) rfl ?_
      refine ev_aluvI f_L_law (nx := 1504) (w := 1) rfl rfl rfl (by decide) rfl ?_
      refine ev_scr f_L_law (nx := 1505) (j := 1) rfl hX (by decide) (by decide) (by decide) rfl ?_
      refine ev_inV2 f_L_law (nx := 1508) (lo2 := [(0, .ref 69), (1, .int ((X.2 1)))]) rfl rfl rfl rfl f_X12_keep (hW.s rfl) rfl rfl rfl rfl rfl ?_
      refine ev_loc f_X12_keep (nx := 1) rfl rfl rfl rfl ?_
      refine ev_ic f_X12_keep (nx := 2) (v := -1) rfl (by decide) rfl ?_
      refine ev_if f_X12_keep (t1 := 23) (t2 := 5) rfl rfl rfl (fun h86 => ?_) (fun h86 => ?_)
      · have q86 := h86; rw [← Int32.toInt_inj, (by decide : (-1 : Int32).toInt = -1)] at q86
        refine ev_loc f_X12_keep (nx := 24) rfl rfl rfl rfl ?_
        refine ev_getR f_X12_keep (nx := 27) rfl (hW.s rfl) rfl rfl (hW.r rfl) rfl rfl ?_
        refine ev_bp f_X12_keep (nx := 29) (v := 8) rfl (by decide) rfl ?_
        refine ev_ialdv f_X12_keep (nx := 30) (j := 8) (w := 0) rfl (hW.s rfl) (by decide) (by decide) (by decide) (wi_70_8 (gi := gi) hR) rfl ?_
        refine ev_t f_X12_keep (t1 := 33) (t2 := 40) rfl rfl rfl (by decide) ?_
        refine ev_loc f_X12_keep (nx := 34) rfl rfl rfl rfl ?_
        refine ev_bp f_X12_keep (nx := 36) (v := 6) rfl (by decide) rfl ?_
        refine ev_inV2 f_X12_keep (nx := 39) (lo2 := [(0, .ref 69), (1, .int 6)]) rfl rfl rfl rfl f_X12_refuse (hW.s rfl) rfl rfl rfl rfl rfl ?_
        refine ev_loc f_X12_refuse (nx := 1) rfl rfl rfl rfl ?_
        refine ev_loc f_X12_refuse (nx := 2) rfl rfl rfl rfl ?_
        refine ev_putI f_X12_refuse (nx := 5) rfl (hW.s rfl) rfl rfl rfl ?_
        refine ev_ic f_X12_refuse (nx := 6) (v := -1) rfl (by decide) rfl ?_
        refine ev_retK1 f_X12_refuse rfl rfl rfl ?_
        refine ev_retK1 f_X12_keep rfl rfl rfl ?_
        refine ev_t f_L_law (t1 := 1628) (t2 := 1511) rfl rfl rfl (by decide) ?_
        refine ev_incv f_L_law (nx := 1631) (c := 6) (w := 6) (lo' := [(3, .int 6), (2, .ref 69), (1, .ref 0), (0, .retAddr 30)]) rfl rfl (by decide) (by decide) rfl rfl rfl ?_
        refine ev_jmp f_L_law (nx := 18) rfl rfl rfl ?_
        refine ev_loc f_L_law (nx := 19) rfl rfl rfl rfl ?_
        refine ev_loc f_L_law (nx := 20) rfl rfl rfl rfl ?_
        refine ev_alenX f_L_law (nx := 21) rfl hX rfl ?_
        refine ev_bp f_L_law (nx := 23) (v := 6) rfl (by decide) rfl ?_
        refine ev_aluvI f_L_law (nx := 24) (w := 0) rfl rfl rfl (by decide) rfl ?_
        refine ev_t f_L_law (t1 := 1634) (t2 := 27) rfl rfl rfl (by decide) ?_
        refine ev_ic f_L_law (nx := 1635) (v := 1) rfl (by decide) rfl ?_
        refine ev_ret f_L_law rfl rfl rfl ?_
        exact ⟨rfl, hz⟩
      · have q86 := h86; rw [← Int32.toInt_inj, (by decide : (-1 : Int32).toInt = -1)] at q86
        refine ev_loc f_X12_keep (nx := 6) rfl rfl rfl rfl ?_
        refine ev_alu f_X12_keep (nx := 7) rfl rfl rfl rfl ?_
        refine ev_lc f_X12_keep (nx := 8) (v := 0) rfl (by decide) rfl ?_
        refine ev_ldL f_X12_keep (nx := 11) (v := 9999) rfl (by decide) rfl ?_
        refine ev_inS3 f_X12_keep (nx := 14) (lo2 := [(0, .long (((X.2 1) : Int32).toInt64)), (2, .long 0), (4, .long 9999)]) rfl rfl rfl rfl f_X12_isFrom rfl rfl rfl rfl ?_
        refine ev_loc f_X12_isFrom (nx := 1) rfl rfl rfl rfl ?_
        refine ev_loc f_X12_isFrom (nx := 2) rfl rfl rfl rfl ?_
        refine ev_alu f_X12_isFrom (nx := 3) rfl rfl rfl rfl ?_
        refine ev_if f_X12_isFrom (t1 := 17) (t2 := 6) rfl rfl rfl (fun h120 => ?_) (fun h120 => ?_)
        · have q120 := h120; rw [Int32.lt_iff_toInt_lt, (by decide : (0 : Int32).toInt = 0)] at q120
          refine ev_ic f_X12_isFrom (nx := 18) (v := 0) rfl (by decide) rfl ?_
          refine ev_retK1 f_X12_isFrom rfl rfl rfl ?_
          refine ev_t f_X12_keep (t1 := 17) (t2 := 23) rfl rfl rfl (by decide) ?_
          refine ev_loc f_X12_keep (nx := 18) rfl rfl rfl rfl ?_
          refine ev_ic f_X12_keep (nx := 19) (v := 1) rfl (by decide) rfl ?_
          refine ev_inV2 f_X12_keep (nx := 22) (lo2 := [(0, .ref 69), (1, .int 1)]) rfl rfl rfl rfl f_X12_refuse (hW.s rfl) rfl rfl rfl rfl rfl ?_
          refine ev_loc f_X12_refuse (nx := 1) rfl rfl rfl rfl ?_
          refine ev_loc f_X12_refuse (nx := 2) rfl rfl rfl rfl ?_
          refine ev_putI f_X12_refuse (nx := 5) rfl (hW.s rfl) rfl rfl rfl ?_
          refine ev_ic f_X12_refuse (nx := 6) (v := -1) rfl (by decide) rfl ?_
          refine ev_retK1 f_X12_refuse rfl rfl rfl ?_
          refine ev_retK1 f_X12_keep rfl rfl rfl ?_
          refine ev_t f_L_law (t1 := 1628) (t2 := 1511) rfl rfl rfl (by decide) ?_
          refine ev_incv f_L_law (nx := 1631) (c := 6) (w := 6) (lo' := [(3, .int 6), (2, .ref 69), (1, .ref 0), (0, .retAddr 30)]) rfl rfl (by decide) (by decide) rfl rfl rfl ?_
          refine ev_jmp f_L_law (nx := 18) rfl rfl rfl ?_
          refine ev_loc f_L_law (nx := 19) rfl rfl rfl rfl ?_
          refine ev_loc f_L_law (nx := 20) rfl rfl rfl rfl ?_
          refine ev_alenX f_L_law (nx := 21) rfl hX rfl ?_
          refine ev_bp f_L_law (nx := 23) (v := 6) rfl (by decide) rfl ?_
          refine ev_aluvI f_L_law (nx := 24) (w := 0) rfl rfl rfl (by decide) rfl ?_
          refine ev_t f_L_law (t1 := 1634) (t2 := 27) rfl rfl rfl (by decide) ?_
          refine ev_ic f_L_law (nx := 1635) (v := 1) rfl (by decide) rfl ?_
          refine ev_ret f_L_law rfl rfl rfl ?_
          exact ⟨rfl, hz⟩
        · have q120 := h120; rw [Int32.lt_iff_toInt_lt, (by decide : (0 : Int32).toInt = 0)] at q120
          refine ev_loc f_X12_isFrom (nx := 7) rfl rfl rfl rfl ?_
          refine ev_loc f_X12_isFrom (nx := 9) rfl rfl rfl rfl ?_
          refine ev_alu f_X12_isFrom (nx := 10) rfl rfl rfl rfl ?_
          refine ev_f f_X12_isFrom (t1 := 17) (t2 := 13) rfl rfl rfl (by rw [lgc_gt (n := 9999) (by decide)]; omega) ?_
          refine ev_ic f_X12_isFrom (nx := 14) (v := 1) rfl (by decide) rfl ?_
          refine ev_jmp f_X12_isFrom (nx := 18) rfl rfl rfl ?_
          refine ev_retK1 f_X12_isFrom rfl rfl rfl ?_
          refine ev_f f_X12_keep (t1 := 17) (t2 := 23) rfl rfl rfl (by decide) ?_
          refine ev_loc f_X12_keep (nx := 24) rfl rfl rfl rfl ?_
          refine ev_getR f_X12_keep (nx := 27) rfl (hW.s rfl) rfl rfl (hW.r rfl) rfl rfl ?_
          refine ev_bp f_X12_keep (nx := 29) (v := 8) rfl (by decide) rfl ?_
          refine ev_ialdv f_X12_keep (nx := 30) (j := 8) (w := 0) rfl (hW.s rfl) (by decide) (by decide) (by decide) (wi_70_8 (gi := gi) hR) rfl ?_
          refine ev_t f_X12_keep (t1 := 33) (t2 := 40) rfl rfl rfl (by decide) ?_
          refine ev_loc f_X12_keep (nx := 34) rfl rfl rfl rfl ?_
          refine ev_bp f_X12_keep (nx := 36) (v := 6) rfl (by decide) rfl ?_
          refine ev_inV2 f_X12_keep (nx := 39) (lo2 := [(0, .ref 69), (1, .int 6)]) rfl rfl rfl rfl f_X12_refuse (hW.s rfl) rfl rfl rfl rfl rfl ?_
          refine ev_loc f_X12_refuse (nx := 1) rfl rfl rfl rfl ?_
          refine ev_loc f_X12_refuse (nx := 2) rfl rfl rfl rfl ?_
          refine ev_putI f_X12_refuse (nx := 5) rfl (hW.s rfl) rfl rfl rfl ?_
          refine ev_ic f_X12_refuse (nx := 6) (v := -1) rfl (by decide) rfl ?_
          refine ev_retK1 f_X12_refuse rfl rfl rfl ?_
          refine ev_retK1 f_X12_keep rfl rfl rfl ?_
          refine ev_t f_L_law (t1 := 1628) (t2 := 1511) rfl rfl rfl (by decide) ?_
          refine ev_incv f_L_law (nx := 1631) (c := 6) (w := 6) (lo' := [(3, .int 6), (2, .ref 69), (1, .ref 0), (0, .retAddr 30)]) rfl rfl (by decide) (by decide) rfl rfl rfl ?_
          refine ev_jmp f_L_law (nx := 18) rfl rfl rfl ?_
          refine ev_loc f_L_law (nx := 19) rfl rfl rfl rfl ?_
          refine ev_loc f_L_law (nx := 20) rfl rfl rfl rfl ?_
          refine ev_alenX f_L_law (nx := 21) rfl hX rfl ?_
          refine ev_bp f_L_law (nx := 23) (v := 6) rfl (by decide) rfl ?_
          refine ev_aluvI f_L_law (nx := 24) (w := 0) rfl rfl rfl (by decide) rfl ?_
          refine ev_t f_L_law (t1 := 1634) (t2 := 27) rfl rfl rfl (by decide) ?_
          refine ev_ic f_L_law (nx := 1635) (v := 1) rfl (by decide) rfl ?_
          refine ev_ret f_L_law rfl rfl rfl ?_
          exact ⟨rfl, hz⟩
    · have q64 := h64; rw [Int32.le_iff_toInt_le, (by decide : (9999 : Int32).toInt = 9999)] at q64
      refine ev_loc f_X11_keep (nx := 13) rfl rfl rfl rfl ?_
      refine ev_ic f_X11_keep (nx := 14) (v := 1) rfl (by decide) rfl ?_
      refine ev_inV2 f_X11_keep (nx := 17) (lo2 := [(0, .ref 0), (1, .int 1)]) rfl rfl rfl rfl f_X11_refuse (hW.s rfl) rfl rfl rfl rfl rfl ?_
      refine ev_loc f_X11_refuse (nx := 1) rfl rfl rfl rfl ?_
      refine ev_loc f_X11_refuse (nx := 2) rfl rfl rfl rfl ?_
      refine ev_putI f_X11_refuse (nx := 5) rfl (hW.s rfl) rfl rfl rfl ?_
      refine ev_ic f_X11_refuse (nx := 6) (v := -1) rfl (by decide) rfl ?_
      refine ev_retK1 f_X11_refuse rfl rfl rfl ?_
      refine ev_retK1 f_X11_keep rfl rfl rfl ?_
      refine ev_loc f_L_law (nx := 1500) rfl rfl rfl rfl ?_
      refine ev_loc f_L_law (nx := 1501) rfl rfl rfl rfl ?_
      refine ev_loc f_L_law (nx := 1502) rfl rfl rfl rfl ?_
      refine ev_ic f_L_law (nx := 1503) (v := 1) rfl (by decide) rfl ?_
      refine ev_aluvI f_L_law (nx := 1504) (w := 1) rfl rfl rfl (by decide) rfl ?_
      refine ev_scr f_L_law (nx := 1505) (j := 1) rfl hX (by decide) (by decide) (by decide) rfl ?_
      refine ev_inV2 f_L_law (nx := 1508) (lo2 := [(0, .ref 69), (1, .int ((X.2 1)))]) rfl rfl rfl rfl f_X12_keep (hW.s rfl) rfl rfl rfl rfl rfl ?_
      refine ev_loc f_X12_keep (nx := 1) rfl rfl rfl rfl ?_
      refine ev_ic f_X12_keep (nx := 2) (v := -1) rfl (by decide) rfl ?_
      refine ev_f f_X12_keep (t1 := 23) (t2 := 5) rfl rfl rfl (by rw [← Int32.toInt_inj, (by decide : (-1 : Int32).toInt = -1)]; omega) ?_
      refine ev_loc f_X12_keep (nx := 6) rfl rfl rfl rfl ?_
      refine ev_alu f_X12_keep (nx := 7) rfl rfl rfl rfl ?_
      refine ev_lc f_X12_keep (nx := 8) (v := 0) rfl (by decide) rfl ?_
      refine ev_ldL f_X12_keep (nx := 11) (v := 9999) rfl (by decide) rfl ?_
      refine ev_inS3 f_X12_keep (nx := 14) (lo2 := [(0, .long (((X.2 1) : Int32).toInt64)), (2, .long 0), (4, .long 9999)]) rfl rfl rfl rfl f_X12_isFrom rfl rfl rfl rfl ?_
      refine ev_loc f_X12_isFrom (nx := 1) rfl rfl rfl rfl ?_
      refine ev_loc f_X12_isFrom (nx := 2) rfl rfl rfl rfl ?_
      refine ev_alu f_X12_isFrom (nx := 3) rfl rfl rfl rfl ?_
      refine ev_f f_X12_isFrom (t1 := 17) (t2 := 6) rfl rfl rfl (by rw [lgc_lt (n := 0) (by decide)]; omega) ?_
      refine ev_loc f_X12_isFrom (nx := 7) rfl rfl rfl rfl ?_
      refine ev_loc f_X12_isFrom (nx := 9) rfl rfl rfl rfl ?_
      refine ev_alu f_X12_isFrom (nx := 10) rfl rfl rfl rfl ?_
      refine ev_t f_X12_isFrom (t1 := 17) (t2 := 13) rfl rfl rfl (by rw [lgc_gt (n := 9999) (by decide)]; omega) ?_
      refine ev_ic f_X12_isFrom (nx := 18) (v := 0) rfl (by decide) rfl ?_
      refine ev_retK1 f_X12_isFrom rfl rfl rfl ?_
      refine ev_t f_X12_keep (t1 := 17) (t2 := 23) rfl rfl rfl (by decide) ?_
      refine ev_loc f_X12_keep (nx := 18) rfl rfl rfl rfl ?_
      refine ev_ic f_X12_keep (nx := 19) (v := 1) rfl (by decide) rfl ?_
      refine ev_inV2 f_X12_keep (nx := 22) (lo2 := [(0, .ref 69), (1, .int 1)]) rfl rfl rfl rfl f_X12_refuse (hW.s rfl) rfl rfl rfl rfl rfl ?_
      refine ev_loc f_X12_refuse (nx := 1) rfl rfl rfl rfl ?_
      refine ev_loc f_X12_refuse (nx := 2) rfl rfl rfl rfl ?_
      refine ev_putI f_X12_refuse (nx := 5) rfl (hW.s rfl) rfl rfl rfl ?_
      refine ev_ic f_X12_refuse (nx := 6) (v := -1) rfl (by decide) rfl ?_
      refine ev_retK1 f_X12_refuse rfl rfl rfl ?_
      refine ev_retK1 f_X12_keep rfl rfl rfl ?_
      refine ev_t f_L_law (t1 := 1628) (t2 := 1511) rfl rfl rfl (by decide) ?_
      refine ev_incv f_L_law (nx := 1631) (c := 6) (w := 6) (lo' := [(3, .int 6), (2, .ref 69), (1, .ref 0), (0, .retAddr 30)]) rfl rfl (by decide) (by decide) rfl rfl rfl ?_
      refine ev_jmp f_L_law (nx := 18) rfl rfl rfl ?_
      refine ev_loc f_L_law (nx := 19) rfl rfl rfl rfl ?_
      refine ev_loc f_L_law (nx := 20) rfl rfl rfl rfl ?_
      refine ev_alenX f_L_law (nx := 21) rfl hX rfl ?_
      refine ev_bp f_L_law (nx := 23) (v := 6) rfl (by decide) rfl ?_
      refine ev_aluvI f_L_law (nx := 24) (w := 0) rfl rfl rfl (by decide) rfl ?_
      refine ev_t f_L_law (t1 := 1634) (t2 := 27) rfl rfl rfl (by decide) ?_
      refine ev_ic f_L_law (nx := 1635) (v := 1) rfl (by decide) rfl ?_
      refine ev_ret f_L_law rfl rfl rfl ?_
      exact ⟨rfl, hz⟩
set_option maxRecDepth 20000 in
theorem pc_44 (hR : x_R W1 (sh, gi, gl, gr)) (hX : X.1 = 6) : x_Ev X 1000 n_L_law 1513 [(3, .int 0), (2, .ref 69), (1, .ref 0), (0, .retAddr 30)] [] (sh, gi, gl, gr) x_P1 := by
  have hW := W1_WF hR
  have hz := W1_hz hR
  refine ev_loc f_L_law (nx := 1514) rfl rfl rfl rfl ?_
  refine ev_loc f_L_law (nx := 1515) rfl rfl rfl rfl ?_
  refine ev_loc f_L_law (nx := 1516) rfl rfl rfl rfl ?_
  refine ev_ic f_L_law (nx := 1517) (v := 1) rfl (by decide) rfl ?_
  refine ev_aluvI f_L_law (nx := 1518) (w := 1) rfl rfl rfl (by decide) rfl ?_
  refine ev_scr f_L_law (nx := 1519) (j := 1) rfl hX (by decide) (by decide) (by decide) rfl ?_
  refine ev_inV2 f_L_law (nx := 1522) (lo2 := [(0, .ref 0), (1, .int ((X.2 1)))]) rfl rfl rfl rfl f_X11_kept (hW.s rfl) rfl rfl rfl rfl rfl ?_
  refine ev_loc f_X11_kept (nx := 1) rfl rfl rfl rfl ?_
  refine ev_if f_X11_kept (t1 := 16) (t2 := 4) rfl rfl rfl (fun h9 => ?_) (fun h9 => ?_)
  · have q9 := h9; rw [Int32.lt_iff_toInt_lt, (by decide : (0 : Int32).toInt = 0)] at q9
    refine ev_loc f_X11_kept (nx := 17) rfl rfl rfl rfl ?_
    refine ev_ic f_X11_kept (nx := 18) (v := 1) rfl (by decide) rfl ?_
    refine ev_inV2 f_X11_kept (nx := 21) (lo2 := [(0, .ref 0), (1, .int 1)]) rfl rfl rfl rfl f_X11_refuse (hW.s rfl) rfl rfl rfl rfl rfl ?_
    refine ev_loc f_X11_refuse (nx := 1) rfl rfl rfl rfl ?_
    refine ev_loc f_X11_refuse (nx := 2) rfl rfl rfl rfl ?_
    refine ev_putI f_X11_refuse (nx := 5) rfl (hW.s rfl) rfl rfl rfl ?_
    refine ev_ic f_X11_refuse (nx := 6) (v := -1) rfl (by decide) rfl ?_
    refine ev_retK1 f_X11_refuse rfl rfl rfl ?_
    refine ev_retK1 f_X11_kept rfl rfl rfl ?_
    refine ev_loc f_L_law (nx := 1523) rfl rfl rfl rfl ?_
    refine ev_loc f_L_law (nx := 1524) rfl rfl rfl rfl ?_
    refine ev_loc f_L_law (nx := 1525) rfl rfl rfl rfl ?_
    refine ev_ic f_L_law (nx := 1526) (v := 1) rfl (by decide) rfl ?_
    refine ev_aluvI f_L_law (nx := 1527) (w := 1) rfl rfl rfl (by decide) rfl ?_
    refine ev_scr f_L_law (nx := 1528) (j := 1) rfl hX (by decide) (by decide) (by decide) rfl ?_
    refine ev_inV2 f_L_law (nx := 1531) (lo2 := [(0, .ref 69), (1, .int ((X.2 1)))]) rfl rfl rfl rfl f_X12_kept (hW.s rfl) rfl rfl rfl rfl rfl ?_
    refine ev_loc f_X12_kept (nx := 1) rfl rfl rfl rfl ?_
    refine ev_t f_X12_kept (t1 := 9) (t2 := 4) rfl rfl rfl (by rw [Int32.lt_iff_toInt_lt, (by decide : (0 : Int32).toInt = 0)]; omega) ?_
    refine ev_loc f_X12_kept (nx := 10) rfl rfl rfl rfl ?_
    refine ev_ic f_X12_kept (nx := 11) (v := 1) rfl (by decide) rfl ?_
    refine ev_inV2 f_X12_kept (nx := 14) (lo2 := [(0, .ref 69), (1, .int 1)]) rfl rfl rfl rfl f_X12_refuse (hW.s rfl) rfl rfl rfl rfl rfl ?_
    refine ev_loc f_X12_refuse (nx := 1) rfl rfl rfl rfl ?_
    refine ev_loc f_X12_refuse (nx := 2) rfl rfl rfl rfl ?_
    refine ev_putI f_X12_refuse (nx := 5) rfl (hW.s rfl) rfl rfl rfl ?_
    refine ev_ic f_X12_refuse (nx := 6) (v := -1) rfl (by decide) rfl ?_
    refine ev_retK1 f_X12_refuse rfl rfl rfl ?_
    refine ev_jmp f_X12_kept (nx := 43) rfl rfl rfl ?_
    refine ev_retK1 f_X12_kept rfl rfl rfl ?_
    refine ev_t f_L_law (t1 := 1628) (t2 := 1534) rfl rfl rfl (by decide) ?_
    refine ev_incv f_L_law (nx := 1631) (c := 6) (w := 6) (lo' := [(3, .int 6), (2, .ref 69), (1, .ref 0), (0, .retAddr 30)]) rfl rfl (by decide) (by decide) rfl rfl rfl ?_
    refine ev_jmp f_L_law (nx := 18) rfl rfl rfl ?_
    refine ev_loc f_L_law (nx := 19) rfl rfl rfl rfl ?_
    refine ev_loc f_L_law (nx := 20) rfl rfl rfl rfl ?_
    refine ev_alenX f_L_law (nx := 21) rfl hX rfl ?_
    refine ev_bp f_L_law (nx := 23) (v := 6) rfl (by decide) rfl ?_
    refine ev_aluvI f_L_law (nx := 24) (w := 0) rfl rfl rfl (by decide) rfl ?_
    refine ev_t f_L_law (t1 := 1634) (t2 := 27) rfl rfl rfl (by decide) ?_
    refine ev_ic f_L_law (nx := 1635) (v := 1) rfl (by decide) rfl ?_
    refine ev_ret f_L_law rfl rfl rfl ?_
    exact ⟨rfl, hz⟩
  · have q9 := h9; rw [Int32.lt_iff_toInt_lt, (by decide : (0 : Int32).toInt = 0)] at q9
    refine ev_loc f_X11_kept (nx := 5) rfl rfl rfl rfl ?_
    refine ev_loc f_X11_kept (nx := 6) rfl rfl rfl rfl ?_
    refine ev_getR f_X11_kept (nx := 9) rfl (hW.s rfl) rfl rfl (hW.r rfl) rfl rfl ?_
    refine ev_getR f_X11_kept (nx := 12) rfl (hW.s rfl) rfl rfl (hW.r rfl) rfl rfl ?_
    refine ev_alenv f_X11_kept (nx := 13) (w := 5) rfl (hW.s rfl) rfl (by decide) rfl ?_
    refine ev_if f_X11_kept (t1 := 22) (t2 := 16) rfl rfl rfl (fun h54 => ?_) (fun h54 => ?_)
    · have q54 := h54; rw [Int32.lt_iff_toInt_lt, (by decide : (5 : Int32).toInt = 5)] at q54
      refine ev_loc f_X11_kept (nx := 23) rfl rfl rfl rfl ?_
      refine ev_getR f_X11_kept (nx := 26) rfl (hW.s rfl) rfl rfl (hW.r rfl) rfl rfl ?_
      refine ev_gvI f_X11_kept (nx := 29) (w := 0) rfl (hW.s rfl) rfl rfl (wi_45_15 (gi := gi) hR) rfl ?_
      refine ev_t f_X11_kept (t1 := 48) (t2 := 32) rfl rfl rfl (by decide) ?_
      refine ev_loc f_X11_kept (nx := 49) rfl rfl rfl rfl ?_
      refine ev_bp f_X11_kept (nx := 51) (v := 6) rfl (by decide) rfl ?_
      refine ev_inV2 f_X11_kept (nx := 54) (lo2 := [(0, .ref 0), (1, .int 6)]) rfl rfl rfl rfl f_X11_refuse (hW.s rfl) rfl rfl rfl rfl rfl ?_
      refine ev_loc f_X11_refuse (nx := 1) rfl rfl rfl rfl ?_
      refine ev_loc f_X11_refuse (nx := 2) rfl rfl rfl rfl ?_
      refine ev_putI f_X11_refuse (nx := 5) rfl (hW.s rfl) rfl rfl rfl ?_
      refine ev_ic f_X11_refuse (nx := 6) (v := -1) rfl (by decide) rfl ?_
      refine ev_retK1 f_X11_refuse rfl rfl rfl ?_
      refine ev_retK1 f_X11_kept rfl rfl rfl ?_
      refine ev_loc f_L_law (nx := 1523) rfl rfl rfl rfl ?_
      refine ev_loc f_L_law (nx := 1524) rfl rfl rfl rfl ?_
      refine ev_loc f_L_law (nx := 1525) rfl rfl rfl rfl ?_
      refine ev_ic f_L_law (nx := 1526) (v := 1) rfl (by decide) rfl ?_
      refine ev_aluvI f_L_law (nx := 1527) (w := 1) rfl rfl rfl (by decide) rfl ?_
      refine ev_scr f_L_law (nx := 1528) (j := 1) rfl hX (by decide) (by decide) (by decide) rfl ?_
      refine ev_inV2 f_L_law (nx := 1531) (lo2 := [(0, .ref 69), (1, .int ((X.2 1)))]) rfl rfl rfl rfl f_X12_kept (hW.s rfl) rfl rfl rfl rfl rfl ?_
      refine ev_loc f_X12_kept (nx := 1) rfl rfl rfl rfl ?_
      refine ev_f f_X12_kept (t1 := 9) (t2 := 4) rfl rfl rfl (by rw [Int32.lt_iff_toInt_lt, (by decide : (0 : Int32).toInt = 0)]; omega) ?_
      refine ev_loc f_X12_kept (nx := 5) rfl rfl rfl rfl ?_
      refine ev_ic f_X12_kept (nx := 6) (v := 4) rfl (by decide) rfl ?_
      refine ev_t f_X12_kept (t1 := 17) (t2 := 9) rfl rfl rfl (by rw [Int32.le_iff_toInt_le, (by decide : (4 : Int32).toInt = 4)]; omega) ?_
      refine ev_loc f_X12_kept (nx := 18) rfl rfl rfl rfl ?_
      refine ev_gvI f_X12_kept (nx := 21) (w := 0) rfl (hW.s rfl) rfl rfl (wi_69_74 (gi := gi) hR) rfl ?_
      refine ev_t f_X12_kept (t1 := 37) (t2 := 24) rfl rfl rfl (by decide) ?_
      refine ev_loc f_X12_kept (nx := 38) rfl rfl rfl rfl ?_
      refine ev_bp f_X12_kept (nx := 40) (v := 6) rfl (by decide) rfl ?_
      refine ev_inV2 f_X12_kept (nx := 43) (lo2 := [(0, .ref 69), (1, .int 6)]) rfl rfl rfl rfl f_X12_refuse (hW.s rfl) rfl rfl rfl rfl rfl ?_
      refine ev_loc f_X12_refuse (nx := 1) rfl rfl rfl rfl ?_
      refine ev_loc f_X12_refuse (nx := 2) rfl rfl rfl rfl ?_
      refine ev_putI f_X12_refuse (nx := 5) rfl (hW.s rfl) rfl rfl rfl ?_
      refine ev_ic f_X12_refuse (nx := 6) (v := -1) rfl (by decide) rfl ?_
      refine ev_retK1 f_X12_refuse rfl rfl rfl ?_
      refine ev_retK1 f_X12_kept rfl rfl rfl ?_
      refine ev_t f_L_law (t1 := 1628) (t2 := 1534) rfl rfl rfl (by decide) ?_
      refine ev_incv f_L_law (nx := 1631) (c := 6) (w := 6) (lo' := [(3, .int 6), (2, .ref 69), (1, .ref 0), (0, .retAddr 30)]) rfl rfl (by decide) (by decide) rfl rfl rfl ?_
      refine ev_jmp f_L_law (nx := 18) rfl rfl rfl ?_
      refine ev_loc f_L_law (nx := 19) rfl rfl rfl rfl ?_
      refine ev_loc f_L_law (nx := 20) rfl rfl rfl rfl ?_
      refine ev_alenX f_L_law (nx := 21) rfl hX rfl ?_
      refine ev_bp f_L_law (nx := 23) (v := 6) rfl (by decide) rfl ?_
      refine ev_aluvI f_L_law (nx := 24) (w := 0) rfl rfl rfl (by decide) rfl ?_
      refine ev_t f_L_law (t1 := 1634) (t2 := 27) rfl rfl rfl (by decide) ?_
      refine ev_ic f_L_law (nx := 1635) (v := 1) rfl (by decide) rfl ?_
      refine ev_ret f_L_law rfl rfl rfl ?_
      exact ⟨rfl, hz⟩
    · have q54 := h54; rw [Int32.lt_iff_toInt_lt, (by decide : (5 : Int32).toInt = 5)] at q54
      refine ev_loc f_X11_kept (nx := 17) rfl rfl rfl rfl ?_
      refine ev_ic f_X11_kept (nx := 18) (v := 1) rfl (by decide) rfl ?_
      refine ev_inV2 f_X11_kept (nx := 21) (lo2 := [(0, .ref 0), (1, .int 1)]) rfl rfl rfl rfl f_X11_refuse (hW.s rfl) rfl rfl rfl rfl rfl ?_
      refine ev_loc f_X11_refuse (nx := 1) rfl rfl rfl rfl ?_
      refine ev_loc f_X11_refuse (nx := 2) rfl rfl rfl rfl ?_
      refine ev_putI f_X11_refuse (nx := 5) rfl (hW.s rfl) rfl rfl rfl ?_
      refine ev_ic f_X11_refuse (nx := 6) (v := -1) rfl (by decide) rfl ?_
      refine ev_retK1 f_X11_refuse rfl rfl rfl ?_
      refine ev_retK1 f_X11_kept rfl rfl rfl ?_
      refine ev_loc f_L_law (nx := 1523) rfl rfl rfl rfl ?_
      refine ev_loc f_L_law (nx := 1524) rfl rfl rfl rfl ?_
      refine ev_loc f_L_law (nx := 1525) rfl rfl rfl rfl ?_
      refine ev_ic f_L_law (nx := 1526) (v := 1) rfl (by decide) rfl ?_
      refine ev_aluvI f_L_law (nx := 1527) (w := 1) rfl rfl rfl (by decide) rfl ?_
      refine ev_scr f_L_law (nx := 1528) (j := 1) rfl hX (by decide) (by decide) (by decide) rfl ?_
      refine ev_inV2 f_L_law (nx := 1531) (lo2 := [(0, .ref 69), (1, .int ((X.2 1)))]) rfl rfl rfl rfl f_X12_kept (hW.s rfl) rfl rfl rfl rfl rfl ?_
      refine ev_loc f_X12_kept (nx := 1) rfl rfl rfl rfl ?_
      refine ev_f f_X12_kept (t1 := 9) (t2 := 4) rfl rfl rfl (by rw [Int32.lt_iff_toInt_lt, (by decide : (0 : Int32).toInt = 0)]; omega) ?_
      refine ev_loc f_X12_kept (nx := 5) rfl rfl rfl rfl ?_
      refine ev_ic f_X12_kept (nx := 6) (v := 4) rfl (by decide) rfl ?_
      refine ev_f f_X12_kept (t1 := 17) (t2 := 9) rfl rfl rfl (by rw [Int32.le_iff_toInt_le, (by decide : (4 : Int32).toInt = 4)]; omega) ?_
      refine ev_loc f_X12_kept (nx := 10) rfl rfl rfl rfl ?_
      refine ev_ic f_X12_kept (nx := 11) (v := 1) rfl (by decide) rfl ?_
      refine ev_inV2 f_X12_kept (nx := 14) (lo2 := [(0, .ref 69), (1, .int 1)]) rfl rfl rfl rfl f_X12_refuse (hW.s rfl) rfl rfl rfl rfl rfl ?_
      refine ev_loc f_X12_refuse (nx := 1) rfl rfl rfl rfl ?_
      refine ev_loc f_X12_refuse (nx := 2) rfl rfl rfl rfl ?_
      refine ev_putI f_X12_refuse (nx := 5) rfl (hW.s rfl) rfl rfl rfl ?_
      refine ev_ic f_X12_refuse (nx := 6) (v := -1) rfl (by decide) rfl ?_
      refine ev_retK1 f_X12_refuse rfl rfl rfl ?_
      refine ev_jmp f_X12_kept (nx := 43) rfl rfl rfl ?_
      refine ev_retK1 f_X12_kept rfl rfl rfl ?_
      refine ev_t f_L_law (t1 := 1628) (t2 := 1534) rfl rfl rfl (by decide) ?_
      refine ev_incv f_L_law (nx := 1631) (c := 6) (w := 6) (lo' := [(3, .int 6), (2, .ref 69), (1, .ref 0), (0, .retAddr 30)]) rfl rfl (by decide) (by decide) rfl rfl rfl ?_
      refine ev_jmp f_L_law (nx := 18) rfl rfl rfl ?_
      refine ev_loc f_L_law (nx := 19) rfl rfl rfl rfl ?_
      refine ev_loc f_L_law (nx := 20) rfl rfl rfl rfl ?_
      refine ev_alenX f_L_law (nx := 21) rfl hX rfl ?_
      refine ev_bp f_L_law (nx := 23) (v := 6) rfl (by decide) rfl ?_
      refine ev_aluvI f_L_law (nx := 24) (w := 0) rfl rfl rfl (by decide) rfl ?_
      refine ev_t f_L_law (t1 := 1634) (t2 := 27) rfl rfl rfl (by decide) ?_
      refine ev_ic f_L_law (nx := 1635) (v := 1) rfl (by decide) rfl ?_
      refine ev_ret f_L_law rfl rfl rfl ?_
      exact ⟨rfl, hz⟩
set_option maxRecDepth 20000 in
theorem pc_45 (hR : x_R W1 (sh, gi, gl, gr)) (hX : X.1 = 6) : x_Ev X 1000 n_L_law 1536 [(3, .int 0), (2, .ref 69), (1, .ref 0), (0, .retAddr 30)] [] (sh, gi, gl, gr) x_P1 := by
  have hW := W1_WF hR
  have hz := W1_hz hR
  refine ev_loc f_L_law (nx := 1537) rfl rfl rfl rfl ?_
  refine ev_loc f_L_law (nx := 1538) rfl rfl rfl rfl ?_
  refine ev_loc f_L_law (nx := 1539) rfl rfl rfl rfl ?_
  refine ev_ic f_L_law (nx := 1540) (v := 1) rfl (by decide) rfl ?_
  refine ev_aluvI f_L_law (nx := 1541) (w := 1) rfl rfl rfl (by decide) rfl ?_
  refine ev_scr f_L_law (nx := 1542) (j := 1) rfl hX (by decide) (by decide) (by decide) rfl ?_
  refine ev_loc f_L_law (nx := 1543) rfl rfl rfl rfl ?_
  refine ev_loc f_L_law (nx := 1544) rfl rfl rfl rfl ?_
  refine ev_ic f_L_law (nx := 1545) (v := 2) rfl (by decide) rfl ?_
  refine ev_aluvI f_L_law (nx := 1546) (w := 2) rfl rfl rfl (by decide) rfl ?_
  refine ev_scr f_L_law (nx := 1547) (j := 2) rfl hX (by decide) (by decide) (by decide) rfl ?_
  refine ev_inV3 f_L_law (nx := 1550) (lo2 := [(0, .ref 0), (1, .int ((X.2 1))), (2, .int ((X.2 2)))]) rfl rfl rfl rfl f_X11_odds (hW.s rfl) rfl rfl rfl rfl rfl ?_
  refine ev_loc f_X11_odds (nx := 1) rfl rfl rfl rfl ?_
  refine ev_loc f_X11_odds (nx := 2) rfl rfl rfl rfl ?_
  refine ev_loc f_X11_odds (nx := 3) rfl rfl rfl rfl ?_
  refine ev_inV3 f_X11_odds (nx := 6) (lo2 := [(0, .ref 0), (1, .int ((X.2 1))), (2, .int ((X.2 2)))]) rfl rfl rfl rfl f_X11_wrongSeeds (hW.s rfl) rfl rfl rfl rfl rfl ?_
  refine ev_loc f_X11_wrongSeeds (nx := 1) rfl rfl rfl rfl ?_
  refine ev_if f_X11_wrongSeeds (t1 := 33) (t2 := 4) rfl rfl rfl (fun h18 => ?_) (fun h18 => ?_)
  · have q18 := h18; rw [Int32.lt_iff_toInt_lt, (by decide : (0 : Int32).toInt = 0)] at q18
    refine ev_ic f_X11_wrongSeeds (nx := 34) (v := 1) rfl (by decide) rfl ?_
    refine ev_retK1 f_X11_wrongSeeds rfl rfl rfl ?_
    refine ev_loc f_X11_odds (nx := 7) (lo' := [(3, .int 1), (0, .ref 0), (1, .int ((X.2 1))), (2, .int ((X.2 2)))]) rfl rfl rfl rfl ?_
    refine ev_loc f_X11_odds (nx := 8) rfl rfl rfl rfl ?_
    refine ev_f f_X11_odds (t1 := 17) (t2 := 11) rfl rfl rfl (by decide) ?_
    refine ev_loc f_X11_odds (nx := 12) rfl rfl rfl rfl ?_
    refine ev_loc f_X11_odds (nx := 13) rfl rfl rfl rfl ?_
    refine ev_inV2 f_X11_odds (nx := 16) (lo2 := [(0, .ref 0), (1, .int 1)]) rfl rfl rfl rfl f_X11_deny (hW.s rfl) rfl rfl rfl rfl rfl ?_
    refine ev_loc f_X11_deny (nx := 1) rfl rfl rfl rfl ?_
    refine ev_loc f_X11_deny (nx := 2) rfl rfl rfl rfl ?_
    refine ev_putI f_X11_deny (nx := 5) rfl (hW.s rfl) rfl rfl rfl ?_
    refine ev_ic f_X11_deny (nx := 6) (v := 0) rfl (by decide) rfl ?_
    refine ev_retK1 f_X11_deny rfl rfl rfl ?_
    refine ev_retK1 f_X11_odds rfl rfl rfl ?_
    refine ev_loc f_L_law (nx := 1551) rfl rfl rfl rfl ?_
    refine ev_loc f_L_law (nx := 1552) rfl rfl rfl rfl ?_
    refine ev_loc f_L_law (nx := 1553) rfl rfl rfl rfl ?_
    refine ev_ic f_L_law (nx := 1554) (v := 1) rfl (by decide) rfl ?_
    refine ev_aluvI f_L_law (nx := 1555) (w := 1) rfl rfl rfl (by decide) rfl ?_
    refine ev_scr f_L_law (nx := 1556) (j := 1) rfl hX (by decide) (by decide) (by decide) rfl ?_
    refine ev_loc f_L_law (nx := 1557) rfl rfl rfl rfl ?_
    refine ev_loc f_L_law (nx := 1558) rfl rfl rfl rfl ?_
    refine ev_ic f_L_law (nx := 1559) (v := 2) rfl (by decide) rfl ?_
    refine ev_aluvI f_L_law (nx := 1560) (w := 2) rfl rfl rfl (by decide) rfl ?_
    refine ev_scr f_L_law (nx := 1561) (j := 2) rfl hX (by decide) (by decide) (by decide) rfl ?_
    refine ev_inV3 f_L_law (nx := 1564) (lo2 := [(0, .ref 69), (1, .int ((X.2 1))), (2, .int ((X.2 2)))]) rfl rfl rfl rfl f_X12_odds (hW.s rfl) rfl rfl rfl rfl rfl ?_
    refine ev_loc f_X12_odds (nx := 1) rfl rfl rfl rfl ?_
    refine ev_loc f_X12_odds (nx := 2) rfl rfl rfl rfl ?_
    refine ev_loc f_X12_odds (nx := 3) rfl rfl rfl rfl ?_
    refine ev_inV3 f_X12_odds (nx := 6) (lo2 := [(0, .ref 69), (1, .int ((X.2 1))), (2, .int ((X.2 2)))]) rfl rfl rfl rfl f_X12_areSeeds (hW.s rfl) rfl rfl rfl rfl rfl ?_
    refine ev_loc f_X12_areSeeds (nx := 1) rfl rfl rfl rfl ?_
    refine ev_alu f_X12_areSeeds (nx := 2) rfl rfl rfl rfl ?_
    refine ev_lc f_X12_areSeeds (nx := 3) (v := 0) rfl (by decide) rfl ?_
    refine ev_ldL f_X12_areSeeds (nx := 6) (v := 9999) rfl (by decide) rfl ?_
    refine ev_inS3 f_X12_areSeeds (nx := 9) (lo2 := [(0, .long (((X.2 1) : Int32).toInt64)), (2, .long 0), (4, .long 9999)]) rfl rfl rfl rfl f_X12_isFrom rfl rfl rfl rfl ?_
    refine ev_loc f_X12_isFrom (nx := 1) rfl rfl rfl rfl ?_
    refine ev_loc f_X12_isFrom (nx := 2) rfl rfl rfl rfl ?_
    refine ev_alu f_X12_isFrom (nx := 3) rfl rfl rfl rfl ?_
    refine ev_t f_X12_isFrom (t1 := 17) (t2 := 6) rfl rfl rfl (by rw [lgc_lt (n := 0) (by decide)]; omega) ?_
    refine ev_ic f_X12_isFrom (nx := 18) (v := 0) rfl (by decide) rfl ?_
    refine ev_retK1 f_X12_isFrom rfl rfl rfl ?_
    refine ev_t f_X12_areSeeds (t1 := 39) (t2 := 12) rfl rfl rfl (by decide) ?_
    refine ev_ic f_X12_areSeeds (nx := 40) (v := 0) rfl (by decide) rfl ?_
    refine ev_retK1 f_X12_areSeeds rfl rfl rfl ?_
    refine ev_t f_X12_odds (t1 := 9) (t2 := 15) rfl rfl rfl (by decide) ?_
    refine ev_loc f_X12_odds (nx := 10) rfl rfl rfl rfl ?_
    refine ev_ic f_X12_odds (nx := 11) (v := 1) rfl (by decide) rfl ?_
    refine ev_inV2 f_X12_odds (nx := 14) (lo2 := [(0, .ref 69), (1, .int 1)]) rfl rfl rfl rfl f_X12_is (hW.s rfl) rfl rfl rfl rfl rfl ?_
    refine ev_loc f_X12_is (nx := 1) rfl rfl rfl rfl ?_
    refine ev_loc f_X12_is (nx := 2) rfl rfl rfl rfl ?_
    refine ev_putI f_X12_is (nx := 5) rfl (hW.s rfl) rfl rfl rfl ?_
    refine ev_loc f_X12_is (nx := 6) rfl rfl rfl rfl ?_
    refine ev_f f_X12_is (t1 := 9) (t2 := 13) rfl rfl rfl (by decide) ?_
    refine ev_ic f_X12_is (nx := 14) (v := 0) rfl (by decide) rfl ?_
    refine ev_retK1 f_X12_is rfl rfl rfl ?_
    refine ev_retK1 f_X12_odds rfl rfl rfl ?_
    refine ev_t f_L_law (t1 := 1628) (t2 := 1567) rfl rfl rfl (by decide) ?_
    refine ev_incv f_L_law (nx := 1631) (c := 6) (w := 6) (lo' := [(3, .int 6), (2, .ref 69), (1, .ref 0), (0, .retAddr 30)]) rfl rfl (by decide) (by decide) rfl rfl rfl ?_
    refine ev_jmp f_L_law (nx := 18) rfl rfl rfl ?_
    refine ev_loc f_L_law (nx := 19) rfl rfl rfl rfl ?_
    refine ev_loc f_L_law (nx := 20) rfl rfl rfl rfl ?_
    refine ev_alenX f_L_law (nx := 21) rfl hX rfl ?_
    refine ev_bp f_L_law (nx := 23) (v := 6) rfl (by decide) rfl ?_
    refine ev_aluvI f_L_law (nx := 24) (w := 0) rfl rfl rfl (by decide) rfl ?_
    refine ev_t f_L_law (t1 := 1634) (t2 := 27) rfl rfl rfl (by decide) ?_
    refine ev_ic f_L_law (nx := 1635) (v := 1) rfl (by decide) rfl ?_
    refine ev_ret f_L_law rfl rfl rfl ?_
    exact ⟨rfl, hz⟩
  · have q18 := h18; rw [Int32.lt_iff_toInt_lt, (by decide : (0 : Int32).toInt = 0)] at q18
    refine ev_loc f_X11_wrongSeeds (nx := 5) rfl rfl rfl rfl ?_
    refine ev_sp f_X11_wrongSeeds (nx := 8) (v := 9999) rfl (by decide) rfl ?_
    refine ev_if f_X11_wrongSeeds (t1 := 33) (t2 := 11) rfl rfl rfl (fun h88 => ?_) (fun h88 => ?_)
    · have q88 := h88; rw [Int32.lt_iff_toInt_lt, (by decide : (9999 : Int32).toInt = 9999)] at q88
      refine ev_ic f_X11_wrongSeeds (nx := 34) (v := 1) rfl (by decide) rfl ?_
      refine ev_retK1 f_X11_wrongSeeds rfl rfl rfl ?_
      refine ev_loc f_X11_odds (nx := 7) (lo' := [(3, .int 1), (0, .ref 0), (1, .int ((X.2 1))), (2, .int ((X.2 2)))]) rfl rfl rfl rfl ?_
      refine ev_loc f_X11_odds (nx := 8) rfl rfl rfl rfl ?_
      refine ev_f f_X11_odds (t1 := 17) (t2 := 11) rfl rfl rfl (by decide) ?_
      refine ev_loc f_X11_odds (nx := 12) rfl rfl rfl rfl ?_
      refine ev_loc f_X11_odds (nx := 13) rfl rfl rfl rfl ?_
      refine ev_inV2 f_X11_odds (nx := 16) (lo2 := [(0, .ref 0), (1, .int 1)]) rfl rfl rfl rfl f_X11_deny (hW.s rfl) rfl rfl rfl rfl rfl ?_
      refine ev_loc f_X11_deny (nx := 1) rfl rfl rfl rfl ?_
      refine ev_loc f_X11_deny (nx := 2) rfl rfl rfl rfl ?_
      refine ev_putI f_X11_deny (nx := 5) rfl (hW.s rfl) rfl rfl rfl ?_
      refine ev_ic f_X11_deny (nx := 6) (v := 0) rfl (by decide) rfl ?_
      refine ev_retK1 f_X11_deny rfl rfl rfl ?_
      refine ev_retK1 f_X11_odds rfl rfl rfl ?_
      refine ev_loc f_L_law (nx := 1551) rfl rfl rfl rfl ?_
      refine ev_loc f_L_law (nx := 1552) rfl rfl rfl rfl ?_
      refine ev_loc f_L_law (nx := 1553) rfl rfl rfl rfl ?_
      refine ev_ic f_L_law (nx := 1554) (v := 1) rfl (by decide) rfl ?_
      refine ev_aluvI f_L_law (nx := 1555) (w := 1) rfl rfl rfl (by decide) rfl ?_
      refine ev_scr f_L_law (nx := 1556) (j := 1) rfl hX (by decide) (by decide) (by decide) rfl ?_
      refine ev_loc f_L_law (nx := 1557) rfl rfl rfl rfl ?_
      refine ev_loc f_L_law (nx := 1558) rfl rfl rfl rfl ?_
      refine ev_ic f_L_law (nx := 1559) (v := 2) rfl (by decide) rfl ?_
      refine ev_aluvI f_L_law (nx := 1560) (w := 2) rfl rfl rfl (by decide) rfl ?_
      refine ev_scr f_L_law (nx := 1561) (j := 2) rfl hX (by decide) (by decide) (by decide) rfl ?_
      refine ev_inV3 f_L_law (nx := 1564) (lo2 := [(0, .ref 69), (1, .int ((X.2 1))), (2, .int ((X.2 2)))]) rfl rfl rfl rfl f_X12_odds (hW.s rfl) rfl rfl rfl rfl rfl ?_
      refine ev_loc f_X12_odds (nx := 1) rfl rfl rfl rfl ?_
      refine ev_loc f_X12_odds (nx := 2) rfl rfl rfl rfl ?_
      refine ev_loc f_X12_odds (nx := 3) rfl rfl rfl rfl ?_
      refine ev_inV3 f_X12_odds (nx := 6) (lo2 := [(0, .ref 69), (1, .int ((X.2 1))), (2, .int ((X.2 2)))]) rfl rfl rfl rfl f_X12_areSeeds (hW.s rfl) rfl rfl rfl rfl rfl ?_
      refine ev_loc f_X12_areSeeds (nx := 1) rfl rfl rfl rfl ?_
      refine ev_alu f_X12_areSeeds (nx := 2) rfl rfl rfl rfl ?_
      refine ev_lc f_X12_areSeeds (nx := 3) (v := 0) rfl (by decide) rfl ?_
      refine ev_ldL f_X12_areSeeds (nx := 6) (v := 9999) rfl (by decide) rfl ?_
      refine ev_inS3 f_X12_areSeeds (nx := 9) (lo2 := [(0, .long (((X.2 1) : Int32).toInt64)), (2, .long 0), (4, .long 9999)]) rfl rfl rfl rfl f_X12_isFrom rfl rfl rfl rfl ?_
      refine ev_loc f_X12_isFrom (nx := 1) rfl rfl rfl rfl ?_
      refine ev_loc f_X12_isFrom (nx := 2) rfl rfl rfl rfl ?_
      refine ev_alu f_X12_isFrom (nx := 3) rfl rfl rfl rfl ?_
      refine ev_f f_X12_isFrom (t1 := 17) (t2 := 6) rfl rfl rfl (by rw [lgc_lt (n := 0) (by decide)]; omega) ?_
      refine ev_loc f_X12_isFrom (nx := 7) rfl rfl rfl rfl ?_
      refine ev_loc f_X12_isFrom (nx := 9) rfl rfl rfl rfl ?_
      refine ev_alu f_X12_isFrom (nx := 10) rfl rfl rfl rfl ?_
      refine ev_t f_X12_isFrom (t1 := 17) (t2 := 13) rfl rfl rfl (by rw [lgc_gt (n := 9999) (by decide)]; omega) ?_
      refine ev_ic f_X12_isFrom (nx := 18) (v := 0) rfl (by decide) rfl ?_
      refine ev_retK1 f_X12_isFrom rfl rfl rfl ?_
      refine ev_t f_X12_areSeeds (t1 := 39) (t2 := 12) rfl rfl rfl (by decide) ?_
      refine ev_ic f_X12_areSeeds (nx := 40) (v := 0) rfl (by decide) rfl ?_
      refine ev_retK1 f_X12_areSeeds rfl rfl rfl ?_
      refine ev_t f_X12_odds (t1 := 9) (t2 := 15) rfl rfl rfl (by decide) ?_
      refine ev_loc f_X12_odds (nx := 10) rfl rfl rfl rfl ?_
      refine ev_ic f_X12_odds (nx := 11) (v := 1) rfl (by decide) rfl ?_
      refine ev_inV2 f_X12_odds (nx := 14) (lo2 := [(0, .ref 69), (1, .int 1)]) rfl rfl rfl rfl f_X12_is (hW.s rfl) rfl rfl rfl rfl rfl ?_
      refine ev_loc f_X12_is (nx := 1) rfl rfl rfl rfl ?_
      refine ev_loc f_X12_is (nx := 2) rfl rfl rfl rfl ?_
      refine ev_putI f_X12_is (nx := 5) rfl (hW.s rfl) rfl rfl rfl ?_
      refine ev_loc f_X12_is (nx := 6) rfl rfl rfl rfl ?_
      refine ev_f f_X12_is (t1 := 9) (t2 := 13) rfl rfl rfl (by decide) ?_
      refine ev_ic f_X12_is (nx := 14) (v := 0) rfl (by decide) rfl ?_
      refine ev_retK1 f_X12_is rfl rfl rfl ?_
      refine ev_retK1 f_X12_odds rfl rfl rfl ?_
      refine ev_t f_L_law (t1 := 1628) (t2 := 1567) rfl rfl rfl (by decide) ?_
      refine ev_incv f_L_law (nx := 1631) (c := 6) (w := 6) (lo' := [(3, .int 6), (2, .ref 69), (1, .ref 0), (0, .retAddr 30)]) rfl rfl (by decide) (by decide) rfl rfl rfl ?_
      refine ev_jmp f_L_law (nx := 18) rfl rfl rfl ?_
      refine ev_loc f_L_law (nx := 19) rfl rfl rfl rfl ?_
      refine ev_loc f_L_law (nx := 20) rfl rfl rfl rfl ?_
      refine ev_alenX f_L_law (nx := 21) rfl hX rfl ?_
      refine ev_bp f_L_law (nx := 23) (v := 6) rfl (by decide) rfl ?_
      refine ev_aluvI f_L_law (nx := 24) (w := 0) rfl rfl rfl (by decide) rfl ?_
      refine ev_t f_L_law (t1 := 1634) (t2 := 27) rfl rfl rfl (by decide) ?_
      refine ev_ic f_L_law (nx := 1635) (v := 1) rfl (by decide) rfl ?_
      refine ev_ret f_L_law rfl rfl rfl ?_
      exact ⟨rfl, hz⟩
    · have q88 := h88; rw [Int32.lt_iff_toInt_lt, (by decide : (9999 : Int32).toInt = 9999)] at q88
      refine ev_loc f_X11_wrongSeeds (nx := 12) rfl rfl rfl rfl ?_
      refine ev_ic f_X11_wrongSeeds (nx := 13) (v := 1) rfl (by decide) rfl ?_
      refine ev_if f_X11_wrongSeeds (t1 := 33) (t2 := 16) rfl rfl rfl (fun h162 => ?_) (fun h162 => ?_)
      · have q162 := h162; rw [Int32.lt_iff_toInt_lt, (by decide : (1 : Int32).toInt = 1)] at q162
        refine ev_ic f_X11_wrongSeeds (nx := 34) (v := 1) rfl (by decide) rfl ?_
        refine ev_retK1 f_X11_wrongSeeds rfl rfl rfl ?_
        refine ev_loc f_X11_odds (nx := 7) (lo' := [(3, .int 1), (0, .ref 0), (1, .int ((X.2 1))), (2, .int ((X.2 2)))]) rfl rfl rfl rfl ?_
        refine ev_loc f_X11_odds (nx := 8) rfl rfl rfl rfl ?_
        refine ev_f f_X11_odds (t1 := 17) (t2 := 11) rfl rfl rfl (by decide) ?_
        refine ev_loc f_X11_odds (nx := 12) rfl rfl rfl rfl ?_
        refine ev_loc f_X11_odds (nx := 13) rfl rfl rfl rfl ?_
        refine ev_inV2 f_X11_odds (nx := 16) (lo2 := [(0, .ref 0), (1, .int 1)]) rfl rfl rfl rfl f_X11_deny (hW.s rfl) rfl rfl rfl rfl rfl ?_
        refine ev_loc f_X11_deny (nx := 1) rfl rfl rfl rfl ?_
        refine ev_loc f_X11_deny (nx := 2) rfl rfl rfl rfl ?_
        refine ev_putI f_X11_deny (nx := 5) rfl (hW.s rfl) rfl rfl rfl ?_
        refine ev_ic f_X11_deny (nx := 6) (v := 0) rfl (by decide) rfl ?_
        refine ev_retK1 f_X11_deny rfl rfl rfl ?_
        refine ev_retK1 f_X11_odds rfl rfl rfl ?_
        refine ev_loc f_L_law (nx := 1551) rfl rfl rfl rfl ?_
        refine ev_loc f_L_law (nx := 1552) rfl rfl rfl rfl ?_
        refine ev_loc f_L_law (nx := 1553) rfl rfl rfl rfl ?_
        refine ev_ic f_L_law (nx := 1554) (v := 1) rfl (by decide) rfl ?_
        refine ev_aluvI f_L_law (nx := 1555) (w := 1) rfl rfl rfl (by decide) rfl ?_
        refine ev_scr f_L_law (nx := 1556) (j := 1) rfl hX (by decide) (by decide) (by decide) rfl ?_
        refine ev_loc f_L_law (nx := 1557) rfl rfl rfl rfl ?_
        refine ev_loc f_L_law (nx := 1558) rfl rfl rfl rfl ?_
        refine ev_ic f_L_law (nx := 1559) (v := 2) rfl (by decide) rfl ?_
        refine ev_aluvI f_L_law (nx := 1560) (w := 2) rfl rfl rfl (by decide) rfl ?_
        refine ev_scr f_L_law (nx := 1561) (j := 2) rfl hX (by decide) (by decide) (by decide) rfl ?_
        refine ev_inV3 f_L_law (nx := 1564) (lo2 := [(0, .ref 69), (1, .int ((X.2 1))), (2, .int ((X.2 2)))]) rfl rfl rfl rfl f_X12_odds (hW.s rfl) rfl rfl rfl rfl rfl ?_
        refine ev_loc f_X12_odds (nx := 1) rfl rfl rfl rfl ?_
        refine ev_loc f_X12_odds (nx := 2) rfl rfl rfl rfl ?_
        refine ev_loc f_X12_odds (nx := 3) rfl rfl rfl rfl ?_
        refine ev_inV3 f_X12_odds (nx := 6) (lo2 := [(0, .ref 69), (1, .int ((X.2 1))), (2, .int ((X.2 2)))]) rfl rfl rfl rfl f_X12_areSeeds (hW.s rfl) rfl rfl rfl rfl rfl ?_
        refine ev_loc f_X12_areSeeds (nx := 1) rfl rfl rfl rfl ?_
        refine ev_alu f_X12_areSeeds (nx := 2) rfl rfl rfl rfl ?_
        refine ev_lc f_X12_areSeeds (nx := 3) (v := 0) rfl (by decide) rfl ?_
        refine ev_ldL f_X12_areSeeds (nx := 6) (v := 9999) rfl (by decide) rfl ?_
        refine ev_inS3 f_X12_areSeeds (nx := 9) (lo2 := [(0, .long (((X.2 1) : Int32).toInt64)), (2, .long 0), (4, .long 9999)]) rfl rfl rfl rfl f_X12_isFrom rfl rfl rfl rfl ?_
        refine ev_loc f_X12_isFrom (nx := 1) rfl rfl rfl rfl ?_
        refine ev_loc f_X12_isFrom (nx := 2) rfl rfl rfl rfl ?_
        refine ev_alu f_X12_isFrom (nx := 3) rfl rfl rfl rfl ?_
        refine ev_f f_X12_isFrom (t1 := 17) (t2 := 6) rfl rfl rfl (by rw [lgc_lt (n := 0) (by decide)]; omega) ?_
        refine ev_loc f_X12_isFrom (nx := 7) rfl rfl rfl rfl ?_
        refine ev_loc f_X12_isFrom (nx := 9) rfl rfl rfl rfl ?_
        refine ev_alu f_X12_isFrom (nx := 10) rfl rfl rfl rfl ?_
        refine ev_f f_X12_isFrom (t1 := 17) (t2 := 13) rfl rfl rfl (by rw [lgc_gt (n := 9999) (by decide)]; omega) ?_
        refine ev_ic f_X12_isFrom (nx := 14) (v := 1) rfl (by decide) rfl ?_
        refine ev_jmp f_X12_isFrom (nx := 18) rfl rfl rfl ?_
        refine ev_retK1 f_X12_isFrom rfl rfl rfl ?_
        refine ev_f f_X12_areSeeds (t1 := 39) (t2 := 12) rfl rfl rfl (by decide) ?_
        refine ev_loc f_X12_areSeeds (nx := 13) rfl rfl rfl rfl ?_
        refine ev_alu f_X12_areSeeds (nx := 14) rfl rfl rfl rfl ?_
        refine ev_lc f_X12_areSeeds (nx := 15) (v := 1) rfl (by decide) rfl ?_
        refine ev_ldL f_X12_areSeeds (nx := 18) (v := 20) rfl (by decide) rfl ?_
        refine ev_inS3 f_X12_areSeeds (nx := 21) (lo2 := [(0, .long (((X.2 2) : Int32).toInt64)), (2, .long 1), (4, .long 20)]) rfl rfl rfl rfl f_X12_isFrom rfl rfl rfl rfl ?_
        refine ev_loc f_X12_isFrom (nx := 1) rfl rfl rfl rfl ?_
        refine ev_loc f_X12_isFrom (nx := 2) rfl rfl rfl rfl ?_
        refine ev_alu f_X12_isFrom (nx := 3) rfl rfl rfl rfl ?_
        refine ev_t f_X12_isFrom (t1 := 17) (t2 := 6) rfl rfl rfl (by rw [lgc_lt (n := 1) (by decide)]; omega) ?_
        refine ev_ic f_X12_isFrom (nx := 18) (v := 0) rfl (by decide) rfl ?_
        refine ev_retK1 f_X12_isFrom rfl rfl rfl ?_
        refine ev_t f_X12_areSeeds (t1 := 39) (t2 := 24) rfl rfl rfl (by decide) ?_
        refine ev_ic f_X12_areSeeds (nx := 40) (v := 0) rfl (by decide) rfl ?_
        refine ev_retK1 f_X12_areSeeds rfl rfl rfl ?_
        refine ev_t f_X12_odds (t1 := 9) (t2 := 15) rfl rfl rfl (by decide) ?_
        refine ev_loc f_X12_odds (nx := 10) rfl rfl rfl rfl ?_
        refine ev_ic f_X12_odds (nx := 11) (v := 1) rfl (by decide) rfl ?_
        refine ev_inV2 f_X12_odds (nx := 14) (lo2 := [(0, .ref 69), (1, .int 1)]) rfl rfl rfl rfl f_X12_is (hW.s rfl) rfl rfl rfl rfl rfl ?_
        refine ev_loc f_X12_is (nx := 1) rfl rfl rfl rfl ?_
        refine ev_loc f_X12_is (nx := 2) rfl rfl rfl rfl ?_
        refine ev_putI f_X12_is (nx := 5) rfl (hW.s rfl) rfl rfl rfl ?_
        refine ev_loc f_X12_is (nx := 6) rfl rfl rfl rfl ?_
        refine ev_f f_X12_is (t1 := 9) (t2 := 13) rfl rfl rfl (by decide) ?_
        refine ev_ic f_X12_is (nx := 14) (v := 0) rfl (by decide) rfl ?_
        refine ev_retK1 f_X12_is rfl rfl rfl ?_
        refine ev_retK1 f_X12_odds rfl rfl rfl ?_
        refine ev_t f_L_law (t1 := 1628) (t2 := 1567) rfl rfl rfl (by decide) ?_
        refine ev_incv f_L_law (nx := 1631) (c := 6) (w := 6) (lo' := [(3, .int 6), (2, .ref 69), (1, .ref 0), (0, .retAddr 30)]) rfl rfl (by decide) (by decide) rfl rfl rfl ?_
        refine ev_jmp f_L_law (nx := 18) rfl rfl rfl ?_
        refine ev_loc f_L_law (nx := 19) rfl rfl rfl rfl ?_
        refine ev_loc f_L_law (nx := 20) rfl rfl rfl rfl ?_
        refine ev_alenX f_L_law (nx := 21) rfl hX rfl ?_
        refine ev_bp f_L_law (nx := 23) (v := 6) rfl (by decide) rfl ?_
        refine ev_aluvI f_L_law (nx := 24) (w := 0) rfl rfl rfl (by decide) rfl ?_
        refine ev_t f_L_law (t1 := 1634) (t2 := 27) rfl rfl rfl (by decide) ?_
        refine ev_ic f_L_law (nx := 1635) (v := 1) rfl (by decide) rfl ?_
        refine ev_ret f_L_law rfl rfl rfl ?_
        exact ⟨rfl, hz⟩
      · have q162 := h162; rw [Int32.lt_iff_toInt_lt, (by decide : (1 : Int32).toInt = 1)] at q162
        refine ev_loc f_X11_wrongSeeds (nx := 17) rfl rfl rfl rfl ?_
        refine ev_bp f_X11_wrongSeeds (nx := 19) (v := 20) rfl (by decide) rfl ?_
        refine ev_if f_X11_wrongSeeds (t1 := 33) (t2 := 22) rfl rfl rfl (fun h249 => ?_) (fun h249 => ?_)
        · have q249 := h249; rw [Int32.lt_iff_toInt_lt, (by decide : (20 : Int32).toInt = 20)] at q249
          refine ev_ic f_X11_wrongSeeds (nx := 34) (v := 1) rfl (by decide) rfl ?_
          refine ev_retK1 f_X11_wrongSeeds rfl rfl rfl ?_
          refine ev_loc f_X11_odds (nx := 7) (lo' := [(3, .int 1), (0, .ref 0), (1, .int ((X.2 1))), (2, .int ((X.2 2)))]) rfl rfl rfl rfl ?_
          refine ev_loc f_X11_odds (nx := 8) rfl rfl rfl rfl ?_
          refine ev_f f_X11_odds (t1 := 17) (t2 := 11) rfl rfl rfl (by decide) ?_
          refine ev_loc f_X11_odds (nx := 12) rfl rfl rfl rfl ?_
          refine ev_loc f_X11_odds (nx := 13) rfl rfl rfl rfl ?_
          refine ev_inV2 f_X11_odds (nx := 16) (lo2 := [(0, .ref 0), (1, .int 1)]) rfl rfl rfl rfl f_X11_deny (hW.s rfl) rfl rfl rfl rfl rfl ?_
          refine ev_loc f_X11_deny (nx := 1) rfl rfl rfl rfl ?_
          refine ev_loc f_X11_deny (nx := 2) rfl rfl rfl rfl ?_
          refine ev_putI f_X11_deny (nx := 5) rfl (hW.s rfl) rfl rfl rfl ?_
          refine ev_ic f_X11_deny (nx := 6) (v := 0) rfl (by decide) rfl ?_
          refine ev_retK1 f_X11_deny rfl rfl rfl ?_
          refine ev_retK1 f_X11_odds rfl rfl rfl ?_
          refine ev_loc f_L_law (nx := 1551) rfl rfl rfl rfl ?_
          refine ev_loc f_L_law (nx := 1552) rfl rfl rfl rfl ?_
          refine ev_loc f_L_law (nx := 1553) rfl rfl rfl rfl ?_
          refine ev_ic f_L_law (nx := 1554) (v := 1) rfl (by decide) rfl ?_
          refine ev_aluvI f_L_law (nx := 1555) (w := 1) rfl rfl rfl (by decide) rfl ?_
          refine ev_scr f_L_law (nx := 1556) (j := 1) rfl hX (by decide) (by decide) (by decide) rfl ?_
          refine ev_loc f_L_law (nx := 1557) rfl rfl rfl rfl ?_
          refine ev_loc f_L_law (nx := 1558) rfl rfl rfl rfl ?_
          refine ev_ic f_L_law (nx := 1559) (v := 2) rfl (by decide) rfl ?_
          refine ev_aluvI f_L_law (nx := 1560) (w := 2) rfl rfl rfl (by decide) rfl ?_
          refine ev_scr f_L_law (nx := 1561) (j := 2) rfl hX (by decide) (by decide) (by decide) rfl ?_
          refine ev_inV3 f_L_law (nx := 1564) (lo2 := [(0, .ref 69), (1, .int ((X.2 1))), (2, .int ((X.2 2)))]) rfl rfl rfl rfl f_X12_odds (hW.s rfl) rfl rfl rfl rfl rfl ?_
          refine ev_loc f_X12_odds (nx := 1) rfl rfl rfl rfl ?_
          refine ev_loc f_X12_odds (nx := 2) rfl rfl rfl rfl ?_
          refine ev_loc f_X12_odds (nx := 3) rfl rfl rfl rfl ?_
          refine ev_inV3 f_X12_odds (nx := 6) (lo2 := [(0, .ref 69), (1, .int ((X.2 1))), (2, .int ((X.2 2)))]) rfl rfl rfl rfl f_X12_areSeeds (hW.s rfl) rfl rfl rfl rfl rfl ?_
          refine ev_loc f_X12_areSeeds (nx := 1) rfl rfl rfl rfl ?_
          refine ev_alu f_X12_areSeeds (nx := 2) rfl rfl rfl rfl ?_
          refine ev_lc f_X12_areSeeds (nx := 3) (v := 0) rfl (by decide) rfl ?_
          refine ev_ldL f_X12_areSeeds (nx := 6) (v := 9999) rfl (by decide) rfl ?_
          refine ev_inS3 f_X12_areSeeds (nx := 9) (lo2 := [(0, .long (((X.2 1) : Int32).toInt64)), (2, .long 0), (4, .long 9999)]) rfl rfl rfl rfl f_X12_isFrom rfl rfl rfl rfl ?_
          refine ev_loc f_X12_isFrom (nx := 1) rfl rfl rfl rfl ?_
          refine ev_loc f_X12_isFrom (nx := 2) rfl rfl rfl rfl ?_
          refine ev_alu f_X12_isFrom (nx := 3) rfl rfl rfl rfl ?_
          refine ev_f f_X12_isFrom (t1 := 17) (t2 := 6) rfl rfl rfl (by rw [lgc_lt (n := 0) (by decide)]; omega) ?_
          refine ev_loc f_X12_isFrom (nx := 7) rfl rfl rfl rfl ?_
          refine ev_loc f_X12_isFrom (nx := 9) rfl rfl rfl rfl ?_
          refine ev_alu f_X12_isFrom (nx := 10) rfl rfl rfl rfl ?_
          refine ev_f f_X12_isFrom (t1 := 17) (t2 := 13) rfl rfl rfl (by rw [lgc_gt (n := 9999) (by decide)]; omega) ?_
          refine ev_ic f_X12_isFrom (nx := 14) (v := 1) rfl (by decide) rfl ?_
          refine ev_jmp f_X12_isFrom (nx := 18) rfl rfl rfl ?_
          refine ev_retK1 f_X12_isFrom rfl rfl rfl ?_
          refine ev_f f_X12_areSeeds (t1 := 39) (t2 := 12) rfl rfl rfl (by decide) ?_
          refine ev_loc f_X12_areSeeds (nx := 13) rfl rfl rfl rfl ?_
          refine ev_alu f_X12_areSeeds (nx := 14) rfl rfl rfl rfl ?_
          refine ev_lc f_X12_areSeeds (nx := 15) (v := 1) rfl (by decide) rfl ?_
          refine ev_ldL f_X12_areSeeds (nx := 18) (v := 20) rfl (by decide) rfl ?_
          refine ev_inS3 f_X12_areSeeds (nx := 21) (lo2 := [(0, .long (((X.2 2) : Int32).toInt64)), (2, .long 1), (4, .long 20)]) rfl rfl rfl rfl f_X12_isFrom rfl rfl rfl rfl ?_
          refine ev_loc f_X12_isFrom (nx := 1) rfl rfl rfl rfl ?_
          refine ev_loc f_X12_isFrom (nx := 2) rfl rfl rfl rfl ?_
          refine ev_alu f_X12_isFrom (nx := 3) rfl rfl rfl rfl ?_
          refine ev_f f_X12_isFrom (t1 := 17) (t2 := 6) rfl rfl rfl (by rw [lgc_lt (n := 1) (by decide)]; omega) ?_
          refine ev_loc f_X12_isFrom (nx := 7) rfl rfl rfl rfl ?_
          refine ev_loc f_X12_isFrom (nx := 9) rfl rfl rfl rfl ?_
          refine ev_alu f_X12_isFrom (nx := 10) rfl rfl rfl rfl ?_
          refine ev_t f_X12_isFrom (t1 := 17) (t2 := 13) rfl rfl rfl (by rw [lgc_gt (n := 20) (by decide)]; omega) ?_
          refine ev_ic f_X12_isFrom (nx := 18) (v := 0) rfl (by decide) rfl ?_
          refine ev_retK1 f_X12_isFrom rfl rfl rfl ?_
          refine ev_t f_X12_areSeeds (t1 := 39) (t2 := 24) rfl rfl rfl (by decide) ?_
          refine ev_ic f_X12_areSeeds (nx := 40) (v := 0) rfl (by decide) rfl ?_
          refine ev_retK1 f_X12_areSeeds rfl rfl rfl ?_
          refine ev_t f_X12_odds (t1 := 9) (t2 := 15) rfl rfl rfl (by decide) ?_
          refine ev_loc f_X12_odds (nx := 10) rfl rfl rfl rfl ?_
          refine ev_ic f_X12_odds (nx := 11) (v := 1) rfl (by decide) rfl ?_
          refine ev_inV2 f_X12_odds (nx := 14) (lo2 := [(0, .ref 69), (1, .int 1)]) rfl rfl rfl rfl f_X12_is (hW.s rfl) rfl rfl rfl rfl rfl ?_
          refine ev_loc f_X12_is (nx := 1) rfl rfl rfl rfl ?_
          refine ev_loc f_X12_is (nx := 2) rfl rfl rfl rfl ?_
          refine ev_putI f_X12_is (nx := 5) rfl (hW.s rfl) rfl rfl rfl ?_
          refine ev_loc f_X12_is (nx := 6) rfl rfl rfl rfl ?_
          refine ev_f f_X12_is (t1 := 9) (t2 := 13) rfl rfl rfl (by decide) ?_
          refine ev_ic f_X12_is (nx := 14) (v := 0) rfl (by decide) rfl ?_
          refine ev_retK1 f_X12_is rfl rfl rfl ?_
          refine ev_retK1 f_X12_odds rfl rfl rfl ?_
          refine ev_t f_L_law (t1 := 1628) (t2 := 1567) rfl rfl rfl (by decide) ?_
          refine ev_incv f_L_law (nx := 1631) (c := 6) (w := 6) (lo' := [(3, .int 6), (2, .ref 69), (1, .ref 0), (0, .retAddr 30)]) rfl rfl (by decide) (by decide) rfl rfl rfl ?_
          refine ev_jmp f_L_law (nx := 18) rfl rfl rfl ?_
          refine ev_loc f_L_law (nx := 19) rfl rfl rfl rfl ?_
          refine ev_loc f_L_law (nx := 20) rfl rfl rfl rfl ?_
          refine ev_alenX f_L_law (nx := 21) rfl hX rfl ?_
          refine ev_bp f_L_law (nx := 23) (v := 6) rfl (by decide) rfl ?_
          refine ev_aluvI f_L_law (nx := 24) (w := 0) rfl rfl rfl (by decide) rfl ?_
          refine ev_t f_L_law (t1 := 1634) (t2 := 27) rfl rfl rfl (by decide) ?_
          refine ev_ic f_L_law (nx := 1635) (v := 1) rfl (by decide) rfl ?_
          refine ev_ret f_L_law rfl rfl rfl ?_
          exact ⟨rfl, hz⟩
        · have q249 := h249; rw [Int32.lt_iff_toInt_lt, (by decide : (20 : Int32).toInt = 20)] at q249
          refine ev_loc f_X11_wrongSeeds (nx := 23) rfl rfl rfl rfl ?_
          refine ev_loc f_X11_wrongSeeds (nx := 24) rfl rfl rfl rfl ?_
          refine ev_alu f_X11_wrongSeeds (nx := 25) rfl rfl rfl rfl ?_
          refine ev_ic f_X11_wrongSeeds (nx := 26) (v := 1) rfl (by decide) rfl ?_
          refine ev_alu f_X11_wrongSeeds (nx := 27) rfl rfl rfl rfl ?_
          refine ev_sp f_X11_wrongSeeds (nx := 30) (v := 9999) rfl (by decide) rfl ?_
          refine ev_if f_X11_wrongSeeds (t1 := 35) (t2 := 33) rfl rfl rfl (fun h344 => ?_) (fun h344 => ?_)
          · refine ev_loc f_X11_wrongSeeds (nx := 36) rfl rfl rfl rfl ?_
            refine ev_getR f_X11_wrongSeeds (nx := 39) rfl (hW.s rfl) rfl rfl (wr_0_7 (gr := gr) hR) rfl rfl ?_
            refine ev_jmp f_X11_wrongSeeds (nx := 42) rfl rfl rfl ?_
            refine ev_bp f_X11_wrongSeeds (nx := 44) (v := 6) rfl (by decide) rfl ?_
            refine ev_jmp f_X11_wrongSeeds (nx := 48) rfl rfl rfl ?_
            refine ev_retK1 f_X11_wrongSeeds rfl rfl rfl ?_
            refine ev_loc f_X11_odds (nx := 7) (lo' := [(3, .int 6), (0, .ref 0), (1, .int ((X.2 1))), (2, .int ((X.2 2)))]) rfl rfl rfl rfl ?_
            refine ev_loc f_X11_odds (nx := 8) rfl rfl rfl rfl ?_
            refine ev_f f_X11_odds (t1 := 17) (t2 := 11) rfl rfl rfl (by decide) ?_
            refine ev_loc f_X11_odds (nx := 12) rfl rfl rfl rfl ?_
            refine ev_loc f_X11_odds (nx := 13) rfl rfl rfl rfl ?_
            refine ev_inV2 f_X11_odds (nx := 16) (lo2 := [(0, .ref 0), (1, .int 6)]) rfl rfl rfl rfl f_X11_deny (hW.s rfl) rfl rfl rfl rfl rfl ?_
            refine ev_loc f_X11_deny (nx := 1) rfl rfl rfl rfl ?_
            refine ev_loc f_X11_deny (nx := 2) rfl rfl rfl rfl ?_
            refine ev_putI f_X11_deny (nx := 5) rfl (hW.s rfl) rfl rfl rfl ?_
            refine ev_ic f_X11_deny (nx := 6) (v := 0) rfl (by decide) rfl ?_
            refine ev_retK1 f_X11_deny rfl rfl rfl ?_
            refine ev_retK1 f_X11_odds rfl rfl rfl ?_
            refine ev_loc f_L_law (nx := 1551) rfl rfl rfl rfl ?_
            refine ev_loc f_L_law (nx := 1552) rfl rfl rfl rfl ?_
            refine ev_loc f_L_law (nx := 1553) rfl rfl rfl rfl ?_
            refine ev_ic f_L_law (nx := 1554) (v := 1) rfl (by decide) rfl ?_
            refine ev_aluvI f_L_law (nx := 1555) (w := 1) rfl rfl rfl (by decide) rfl ?_
            refine ev_scr f_L_law (nx := 1556) (j := 1) rfl hX (by decide) (by decide) (by decide) rfl ?_
            refine ev_loc f_L_law (nx := 1557) rfl rfl rfl rfl ?_
            refine ev_loc f_L_law (nx := 1558) rfl rfl rfl rfl ?_
            refine ev_ic f_L_law (nx := 1559) (v := 2) rfl (by decide) rfl ?_
            refine ev_aluvI f_L_law (nx := 1560) (w := 2) rfl rfl rfl (by decide) rfl ?_
            refine ev_scr f_L_law (nx := 1561) (j := 2) rfl hX (by decide) (by decide) (by decide) rfl ?_
            refine ev_inV3 f_L_law (nx := 1564) (lo2 := [(0, .ref 69), (1, .int ((X.2 1))), (2, .int ((X.2 2)))]) rfl rfl rfl rfl f_X12_odds (hW.s rfl) rfl rfl rfl rfl rfl ?_
            refine ev_loc f_X12_odds (nx := 1) rfl rfl rfl rfl ?_
            refine ev_loc f_X12_odds (nx := 2) rfl rfl rfl rfl ?_
            refine ev_loc f_X12_odds (nx := 3) rfl rfl rfl rfl ?_
            refine ev_inV3 f_X12_odds (nx := 6) (lo2 := [(0, .ref 69), (1, .int ((X.2 1))), (2, .int ((X.2 2)))]) rfl rfl rfl rfl f_X12_areSeeds (hW.s rfl) rfl rfl rfl rfl rfl ?_
            refine ev_loc f_X12_areSeeds (nx := 1) rfl rfl rfl rfl ?_
            refine ev_alu f_X12_areSeeds (nx := 2) rfl rfl rfl rfl ?_
            refine ev_lc f_X12_areSeeds (nx := 3) (v := 0) rfl (by decide) rfl ?_
            refine ev_ldL f_X12_areSeeds (nx := 6) (v := 9999) rfl (by decide) rfl ?_
            refine ev_inS3 f_X12_areSeeds (nx := 9) (lo2 := [(0, .long (((X.2 1) : Int32).toInt64)), (2, .long 0), (4, .long 9999)]) rfl rfl rfl rfl f_X12_isFrom rfl rfl rfl rfl ?_
            refine ev_loc f_X12_isFrom (nx := 1) rfl rfl rfl rfl ?_
            refine ev_loc f_X12_isFrom (nx := 2) rfl rfl rfl rfl ?_
            refine ev_alu f_X12_isFrom (nx := 3) rfl rfl rfl rfl ?_
            refine ev_f f_X12_isFrom (t1 := 17) (t2 := 6) rfl rfl rfl (by rw [lgc_lt (n := 0) (by decide)]; omega) ?_
            refine ev_loc f_X12_isFrom (nx := 7) rfl rfl rfl rfl ?_
            refine ev_loc f_X12_isFrom (nx := 9) rfl rfl rfl rfl ?_
            refine ev_alu f_X12_isFrom (nx := 10) rfl rfl rfl rfl ?_
            refine ev_f f_X12_isFrom (t1 := 17) (t2 := 13) rfl rfl rfl (by rw [lgc_gt (n := 9999) (by decide)]; omega) ?_
            refine ev_ic f_X12_isFrom (nx := 14) (v := 1) rfl (by decide) rfl ?_
            refine ev_jmp f_X12_isFrom (nx := 18) rfl rfl rfl ?_
            refine ev_retK1 f_X12_isFrom rfl rfl rfl ?_
            refine ev_f f_X12_areSeeds (t1 := 39) (t2 := 12) rfl rfl rfl (by decide) ?_
            refine ev_loc f_X12_areSeeds (nx := 13) rfl rfl rfl rfl ?_
            refine ev_alu f_X12_areSeeds (nx := 14) rfl rfl rfl rfl ?_
            refine ev_lc f_X12_areSeeds (nx := 15) (v := 1) rfl (by decide) rfl ?_
            refine ev_ldL f_X12_areSeeds (nx := 18) (v := 20) rfl (by decide) rfl ?_
            refine ev_inS3 f_X12_areSeeds (nx := 21) (lo2 := [(0, .long (((X.2 2) : Int32).toInt64)), (2, .long 1), (4, .long 20)]) rfl rfl rfl rfl f_X12_isFrom rfl rfl rfl rfl ?_
            refine ev_loc f_X12_isFrom (nx := 1) rfl rfl rfl rfl ?_
            refine ev_loc f_X12_isFrom (nx := 2) rfl rfl rfl rfl ?_
            refine ev_alu f_X12_isFrom (nx := 3) rfl rfl rfl rfl ?_
            refine ev_f f_X12_isFrom (t1 := 17) (t2 := 6) rfl rfl rfl (by rw [lgc_lt (n := 1) (by decide)]; omega) ?_
            refine ev_loc f_X12_isFrom (nx := 7) rfl rfl rfl rfl ?_
            refine ev_loc f_X12_isFrom (nx := 9) rfl rfl rfl rfl ?_
            refine ev_alu f_X12_isFrom (nx := 10) rfl rfl rfl rfl ?_
            refine ev_f f_X12_isFrom (t1 := 17) (t2 := 13) rfl rfl rfl (by rw [lgc_gt (n := 20) (by decide)]; omega) ?_
            refine ev_ic f_X12_isFrom (nx := 14) (v := 1) rfl (by decide) rfl ?_
            refine ev_jmp f_X12_isFrom (nx := 18) rfl rfl rfl ?_
            refine ev_retK1 f_X12_isFrom rfl rfl rfl ?_
            refine ev_f f_X12_areSeeds (t1 := 39) (t2 := 24) rfl rfl rfl (by decide) ?_
            refine ev_loc f_X12_areSeeds (nx := 25) rfl rfl rfl rfl ?_
            refine ev_loc f_X12_areSeeds (nx := 26) rfl rfl rfl rfl ?_
            refine ev_alu f_X12_areSeeds (nx := 27) rfl rfl rfl rfl ?_
            refine ev_ic f_X12_areSeeds (nx := 28) (v := 1) rfl (by decide) rfl ?_
            refine ev_alu f_X12_areSeeds (nx := 29) rfl rfl rfl rfl ?_
            refine ev_sp f_X12_areSeeds (nx := 32) (v := 9999) rfl (by decide) rfl ?_
            refine ev_f f_X12_areSeeds (t1 := 39) (t2 := 35) rfl rfl rfl (Int32.not_lt.mpr h344) ?_
            refine ev_ic f_X12_areSeeds (nx := 36) (v := 1) rfl (by decide) rfl ?_
            refine ev_jmp f_X12_areSeeds (nx := 40) rfl rfl rfl ?_
            refine ev_retK1 f_X12_areSeeds rfl rfl rfl ?_
            refine ev_f f_X12_odds (t1 := 9) (t2 := 15) rfl rfl rfl (by decide) ?_
            refine ev_loc f_X12_odds (nx := 16) rfl rfl rfl rfl ?_
            refine ev_getR f_X12_odds (nx := 19) rfl (hW.s rfl) rfl rfl (hW.r rfl) rfl rfl ?_
            refine ev_bp f_X12_odds (nx := 21) (v := 8) rfl (by decide) rfl ?_
            refine ev_ialdv f_X12_odds (nx := 22) (j := 8) (w := 0) rfl (hW.s rfl) (by decide) (by decide) (by decide) (wi_70_8 (gi := gi) hR) rfl ?_
            refine ev_t f_X12_odds (t1 := 25) (t2 := 32) rfl rfl rfl (by decide) ?_
            refine ev_loc f_X12_odds (nx := 26) rfl rfl rfl rfl ?_
            refine ev_bp f_X12_odds (nx := 28) (v := 6) rfl (by decide) rfl ?_
            refine ev_inV2 f_X12_odds (nx := 31) (lo2 := [(0, .ref 69), (1, .int 6)]) rfl rfl rfl rfl f_X12_is (hW.s rfl) rfl rfl rfl rfl rfl ?_
            refine ev_loc f_X12_is (nx := 1) rfl rfl rfl rfl ?_
            refine ev_loc f_X12_is (nx := 2) rfl rfl rfl rfl ?_
            refine ev_putI f_X12_is (nx := 5) rfl (hW.s rfl) rfl rfl rfl ?_
            refine ev_loc f_X12_is (nx := 6) rfl rfl rfl rfl ?_
            refine ev_f f_X12_is (t1 := 9) (t2 := 13) rfl rfl rfl (by decide) ?_
            refine ev_ic f_X12_is (nx := 14) (v := 0) rfl (by decide) rfl ?_
            refine ev_retK1 f_X12_is rfl rfl rfl ?_
            refine ev_retK1 f_X12_odds rfl rfl rfl ?_
            refine ev_t f_L_law (t1 := 1628) (t2 := 1567) rfl rfl rfl (by decide) ?_
            refine ev_incv f_L_law (nx := 1631) (c := 6) (w := 6) (lo' := [(3, .int 6), (2, .ref 69), (1, .ref 0), (0, .retAddr 30)]) rfl rfl (by decide) (by decide) rfl rfl rfl ?_
            refine ev_jmp f_L_law (nx := 18) rfl rfl rfl ?_
            refine ev_loc f_L_law (nx := 19) rfl rfl rfl rfl ?_
            refine ev_loc f_L_law (nx := 20) rfl rfl rfl rfl ?_
            refine ev_alenX f_L_law (nx := 21) rfl hX rfl ?_
            refine ev_bp f_L_law (nx := 23) (v := 6) rfl (by decide) rfl ?_
            refine ev_aluvI f_L_law (nx := 24) (w := 0) rfl rfl rfl (by decide) rfl ?_
            refine ev_t f_L_law (t1 := 1634) (t2 := 27) rfl rfl rfl (by decide) ?_
            refine ev_ic f_L_law (nx := 1635) (v := 1) rfl (by decide) rfl ?_
            refine ev_ret f_L_law rfl rfl rfl ?_
            exact ⟨rfl, hz⟩
          · refine ev_ic f_X11_wrongSeeds (nx := 34) (v := 1) rfl (by decide) rfl ?_
            refine ev_retK1 f_X11_wrongSeeds rfl rfl rfl ?_
            refine ev_loc f_X11_odds (nx := 7) (lo' := [(3, .int 1), (0, .ref 0), (1, .int ((X.2 1))), (2, .int ((X.2 2)))]) rfl rfl rfl rfl ?_
            refine ev_loc f_X11_odds (nx := 8) rfl rfl rfl rfl ?_
            refine ev_f f_X11_odds (t1 := 17) (t2 := 11) rfl rfl rfl (by decide) ?_
            refine ev_loc f_X11_odds (nx := 12) rfl rfl rfl rfl ?_
            refine ev_loc f_X11_odds (nx := 13) rfl rfl rfl rfl ?_
            refine ev_inV2 f_X11_odds (nx := 16) (lo2 := [(0, .ref 0), (1, .int 1)]) rfl rfl rfl rfl f_X11_deny (hW.s rfl) rfl rfl rfl rfl rfl ?_
            refine ev_loc f_X11_deny (nx := 1) rfl rfl rfl rfl ?_
            refine ev_loc f_X11_deny (nx := 2) rfl rfl rfl rfl ?_
            refine ev_putI f_X11_deny (nx := 5) rfl (hW.s rfl) rfl rfl rfl ?_
            refine ev_ic f_X11_deny (nx := 6) (v := 0) rfl (by decide) rfl ?_
            refine ev_retK1 f_X11_deny rfl rfl rfl ?_
            refine ev_retK1 f_X11_odds rfl rfl rfl ?_
            refine ev_loc f_L_law (nx := 1551) rfl rfl rfl rfl ?_
            refine ev_loc f_L_law (nx := 1552) rfl rfl rfl rfl ?_
            refine ev_loc f_L_law (nx := 1553) rfl rfl rfl rfl ?_
            refine ev_ic f_L_law (nx := 1554) (v := 1) rfl (by decide) rfl ?_
            refine ev_aluvI f_L_law (nx := 1555) (w := 1) rfl rfl rfl (by decide) rfl ?_
            refine ev_scr f_L_law (nx := 1556) (j := 1) rfl hX (by decide) (by decide) (by decide) rfl ?_
            refine ev_loc f_L_law (nx := 1557) rfl rfl rfl rfl ?_
            refine ev_loc f_L_law (nx := 1558) rfl rfl rfl rfl ?_
            refine ev_ic f_L_law (nx := 1559) (v := 2) rfl (by decide) rfl ?_
            refine ev_aluvI f_L_law (nx := 1560) (w := 2) rfl rfl rfl (by decide) rfl ?_
            refine ev_scr f_L_law (nx := 1561) (j := 2) rfl hX (by decide) (by decide) (by decide) rfl ?_
            refine ev_inV3 f_L_law (nx := 1564) (lo2 := [(0, .ref 69), (1, .int ((X.2 1))), (2, .int ((X.2 2)))]) rfl rfl rfl rfl f_X12_odds (hW.s rfl) rfl rfl rfl rfl rfl ?_
            refine ev_loc f_X12_odds (nx := 1) rfl rfl rfl rfl ?_
            refine ev_loc f_X12_odds (nx := 2) rfl rfl rfl rfl ?_
            refine ev_loc f_X12_odds (nx := 3) rfl rfl rfl rfl ?_
            refine ev_inV3 f_X12_odds (nx := 6) (lo2 := [(0, .ref 69), (1, .int ((X.2 1))), (2, .int ((X.2 2)))]) rfl rfl rfl rfl f_X12_areSeeds (hW.s rfl) rfl rfl rfl rfl rfl ?_
            refine ev_loc f_X12_areSeeds (nx := 1) rfl rfl rfl rfl ?_
            refine ev_alu f_X12_areSeeds (nx := 2) rfl rfl rfl rfl ?_
            refine ev_lc f_X12_areSeeds (nx := 3) (v := 0) rfl (by decide) rfl ?_
            refine ev_ldL f_X12_areSeeds (nx := 6) (v := 9999) rfl (by decide) rfl ?_
            refine ev_inS3 f_X12_areSeeds (nx := 9) (lo2 := [(0, .long (((X.2 1) : Int32).toInt64)), (2, .long 0), (4, .long 9999)]) rfl rfl rfl rfl f_X12_isFrom rfl rfl rfl rfl ?_
            refine ev_loc f_X12_isFrom (nx := 1) rfl rfl rfl rfl ?_
            refine ev_loc f_X12_isFrom (nx := 2) rfl rfl rfl rfl ?_
            refine ev_alu f_X12_isFrom (nx := 3) rfl rfl rfl rfl ?_
            refine ev_f f_X12_isFrom (t1 := 17) (t2 := 6) rfl rfl rfl (by rw [lgc_lt (n := 0) (by decide)]; omega) ?_
            refine ev_loc f_X12_isFrom (nx := 7) rfl rfl rfl rfl ?_
            refine ev_loc f_X12_isFrom (nx := 9) rfl rfl rfl rfl ?_
            refine ev_alu f_X12_isFrom (nx := 10) rfl rfl rfl rfl ?_
            refine ev_f f_X12_isFrom (t1 := 17) (t2 := 13) rfl rfl rfl (by rw [lgc_gt (n := 9999) (by decide)]; omega) ?_
            refine ev_ic f_X12_isFrom (nx := 14) (v := 1) rfl (by decide) rfl ?_
            refine ev_jmp f_X12_isFrom (nx := 18) rfl rfl rfl ?_
            refine ev_retK1 f_X12_isFrom rfl rfl rfl ?_
            refine ev_f f_X12_areSeeds (t1 := 39) (t2 := 12) rfl rfl rfl (by decide) ?_
            refine ev_loc f_X12_areSeeds (nx := 13) rfl rfl rfl rfl ?_
            refine ev_alu f_X12_areSeeds (nx := 14) rfl rfl rfl rfl ?_
            refine ev_lc f_X12_areSeeds (nx := 15) (v := 1) rfl (by decide) rfl ?_
            refine ev_ldL f_X12_areSeeds (nx := 18) (v := 20) rfl (by decide) rfl ?_
            refine ev_inS3 f_X12_areSeeds (nx := 21) (lo2 := [(0, .long (((X.2 2) : Int32).toInt64)), (2, .long 1), (4, .long 20)]) rfl rfl rfl rfl f_X12_isFrom rfl rfl rfl rfl ?_
            refine ev_loc f_X12_isFrom (nx := 1) rfl rfl rfl rfl ?_
            refine ev_loc f_X12_isFrom (nx := 2) rfl rfl rfl rfl ?_
            refine ev_alu f_X12_isFrom (nx := 3) rfl rfl rfl rfl ?_
            refine ev_f f_X12_isFrom (t1 := 17) (t2 := 6) rfl rfl rfl (by rw [lgc_lt (n := 1) (by decide)]; omega) ?_
            refine ev_loc f_X12_isFrom (nx := 7) rfl rfl rfl rfl ?_
            refine ev_loc f_X12_isFrom (nx := 9) rfl rfl rfl rfl ?_
            refine ev_alu f_X12_isFrom (nx := 10) rfl rfl rfl rfl ?_
            refine ev_f f_X12_isFrom (t1 := 17) (t2 := 13) rfl rfl rfl (by rw [lgc_gt (n := 20) (by decide)]; omega) ?_
            refine ev_ic f_X12_isFrom (nx := 14) (v := 1) rfl (by decide) rfl ?_
            refine ev_jmp f_X12_isFrom (nx := 18) rfl rfl rfl ?_
            refine ev_retK1 f_X12_isFrom rfl rfl rfl ?_
            refine ev_f f_X12_areSeeds (t1 := 39) (t2 := 24) rfl rfl rfl (by decide) ?_
            refine ev_loc f_X12_areSeeds (nx := 25) rfl rfl rfl rfl ?_
            refine ev_loc f_X12_areSeeds (nx := 26) rfl rfl rfl rfl ?_
            refine ev_alu f_X12_areSeeds (nx := 27) rfl rfl rfl rfl ?_
            refine ev_ic f_X12_areSeeds (nx := 28) (v := 1) rfl (by decide) rfl ?_
            refine ev_alu f_X12_areSeeds (nx := 29) rfl rfl rfl rfl ?_
            refine ev_sp f_X12_areSeeds (nx := 32) (v := 9999) rfl (by decide) rfl ?_
            refine ev_t f_X12_areSeeds (t1 := 39) (t2 := 35) rfl rfl rfl (Int32.not_le.mp h344) ?_
            refine ev_ic f_X12_areSeeds (nx := 40) (v := 0) rfl (by decide) rfl ?_
            refine ev_retK1 f_X12_areSeeds rfl rfl rfl ?_
            refine ev_t f_X12_odds (t1 := 9) (t2 := 15) rfl rfl rfl (by decide) ?_
            refine ev_loc f_X12_odds (nx := 10) rfl rfl rfl rfl ?_
            refine ev_ic f_X12_odds (nx := 11) (v := 1) rfl (by decide) rfl ?_
            refine ev_inV2 f_X12_odds (nx := 14) (lo2 := [(0, .ref 69), (1, .int 1)]) rfl rfl rfl rfl f_X12_is (hW.s rfl) rfl rfl rfl rfl rfl ?_
            refine ev_loc f_X12_is (nx := 1) rfl rfl rfl rfl ?_
            refine ev_loc f_X12_is (nx := 2) rfl rfl rfl rfl ?_
            refine ev_putI f_X12_is (nx := 5) rfl (hW.s rfl) rfl rfl rfl ?_
            refine ev_loc f_X12_is (nx := 6) rfl rfl rfl rfl ?_
            refine ev_f f_X12_is (t1 := 9) (t2 := 13) rfl rfl rfl (by decide) ?_
            refine ev_ic f_X12_is (nx := 14) (v := 0) rfl (by decide) rfl ?_
            refine ev_retK1 f_X12_is rfl rfl rfl ?_
            refine ev_retK1 f_X12_odds rfl rfl rfl ?_
            refine ev_t f_L_law (t1 := 1628) (t2 := 1567) rfl rfl rfl (by decide) ?_
            refine ev_incv f_L_law (nx := 1631) (c := 6) (w := 6) (lo' := [(3, .int 6), (2, .ref 69), (1, .ref 0), (0, .retAddr 30)]) rfl rfl (by decide) (by decide) rfl rfl rfl ?_
            refine ev_jmp f_L_law (nx := 18) rfl rfl rfl ?_
            refine ev_loc f_L_law (nx := 19) rfl rfl rfl rfl ?_
            refine ev_loc f_L_law (nx := 20) rfl rfl rfl rfl ?_
            refine ev_alenX f_L_law (nx := 21) rfl hX rfl ?_
            refine ev_bp f_L_law (nx := 23) (v := 6) rfl (by decide) rfl ?_
            refine ev_aluvI f_L_law (nx := 24) (w := 0) rfl rfl rfl (by decide) rfl ?_
            refine ev_t f_L_law (t1 := 1634) (t2 := 27) rfl rfl rfl (by decide) ?_
            refine ev_ic f_L_law (nx := 1635) (v := 1) rfl (by decide) rfl ?_
            refine ev_ret f_L_law rfl rfl rfl ?_
            exact ⟨rfl, hz⟩
end XC
