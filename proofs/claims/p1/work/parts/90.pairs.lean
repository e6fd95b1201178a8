/-! ===== printed by gen90.py: closed calls ===== -/
theorem cl_8 : x_pair 12000 999 n_X11_river n_X12_river [.ref 0, .int 0] [.ref 69, .int 0] W1 = true := by decide +kernel
theorem cl_9 : x_pair 12000 999 n_X11_rules n_X12_rules [.ref 0, .int 0] [.ref 69, .int 0] W1 = true := by decide +kernel
theorem cl_47 : x_pair 12000 999 n_X11_mark n_X12_mark [.ref 0] [.ref 69] W1 = true := by decide +kernel
section XP
variable {X : x_Ext} {d mi pc nx a b q len ml : Nat} {z : Int} {lo : x_Lo} {st r : List Value} {P : Option Value → x_G → Prop} {T : List (Nat × x_Row)} {rt : Option FieldType}
theorem ev_cF {w : Int32} {Q : x_G → Prop} {as : List Value} {G : x_G} (F : x_F mi T ml rt) {ins : Instr} (hr : T.lookup pc = some (ins, len, a, b, q, z)) (hc : x_cat ins = 4) (ha : Nat.blt a 1000 = true) (hb : Nat.ble b st.length = true) (has : (st.take b).reverse = as) (hrest : st.drop b = r) (h8 : Nat.ble (x_words r) 8 = true) (hM : x_Me X d a as G (fun v G1 => v = some (.int w) ∧ Q G1)) (hn : pc + 3 = nx) (kk : ∀ G1, Q G1 → x_Ev X (d + 1) mi nx lo (.int w :: r) G1 P) : x_Ev X (d + 1) mi pc lo st G P := by
  subst has; subst hrest
  refine ev_call F hr hc (decide_eq_true (Nat.le_of_ble_eq_true ha)) (Nat.le_of_ble_eq_true hb) (Nat.le_of_ble_eq_true h8) hM hn ?_
  rintro _ G1 ⟨rfl, h⟩
  exact kk G1 h
end XP
section XC8
variable {X : x_Ext} {sh : List (Nat ⊕ (Nat × Nat))} {gi : Nat → Nat → Int32} {gl : Nat → Nat → Int64} {gr : Nat → Nat → Value}
set_option maxRecDepth 20000 in
theorem pc_8 (hR : x_R W1 (sh, gi, gl, gr)) (hX : X.1 = 6) (hp : x_pair 12000 999 n_X11_river n_X12_river [.ref 0, .int (X.2 1)] [.ref 69, .int (X.2 1)] W1 = true) : x_Ev X 1000 n_L_law 561 [(3, .int 0), (2, .ref 69), (1, .ref 0), (0, .retAddr 30)] [] (sh, gi, gl, gr) x_P1 := by
  refine ev_loc f_L_law (nx := 562) rfl rfl rfl rfl ?_
  refine ev_loc f_L_law (nx := 563) rfl rfl rfl rfl ?_
  refine ev_loc f_L_law (nx := 564) rfl rfl rfl rfl ?_
  refine ev_ic f_L_law (nx := 565) (v := 1) rfl (by decide) rfl ?_
  refine ev_aluvI f_L_law (nx := 566) (w := 1) rfl rfl rfl (by decide) rfl ?_
  refine ev_scr f_L_law (nx := 567) (j := 1) rfl hX (by decide) (by decide) (by decide) rfl ?_
  refine ev_cE f_L_law (nx := 570) (r := []) rfl rfl rfl rfl rfl rfl rfl (x_pair_ok hp hR) rfl ?_
  rintro x1 ⟨sh, gi, gl, gr⟩ hM
  refine ev_loc f_L_law (nx := 571) rfl rfl rfl rfl ?_
  refine ev_loc f_L_law (nx := 572) rfl rfl rfl rfl ?_
  refine ev_loc f_L_law (nx := 573) rfl rfl rfl rfl ?_
  refine ev_ic f_L_law (nx := 574) (v := 1) rfl (by decide) rfl ?_
  refine ev_aluvI f_L_law (nx := 575) (w := 1) rfl rfl rfl (by decide) rfl ?_
  refine ev_scr f_L_law (nx := 576) (j := 1) rfl hX (by decide) (by decide) (by decide) rfl ?_
  refine ev_cF f_L_law (nx := 579) (r := [.int x1]) rfl rfl rfl rfl rfl rfl rfl hM rfl ?_
  rintro ⟨sh, gi, gl, gr⟩ hz2
  refine ev_t f_L_law (t1 := 1628) (t2 := 582) rfl rfl rfl rfl ?_
  refine ev_incv f_L_law (nx := 1631) (c := 6) (w := 6) (lo' := [(3, .int 6), (2, .ref 69), (1, .ref 0), (0, .retAddr 30)]) rfl rfl (by decide) (by decide) rfl rfl rfl ?_
  refine ev_jmp f_L_law (nx := 18) rfl rfl rfl ?_
  refine ev_loc f_L_law (nx := 19) rfl rfl rfl rfl ?_
  refine ev_loc f_L_law (nx := 20) rfl rfl rfl rfl ?_
  refine ev_alenX f_L_law (nx := 21) rfl hX rfl ?_
  refine ev_bp f_L_law (nx := 23) (v := 6) rfl (by decide) rfl ?_
  refine ev_aluvI f_L_law (nx := 24) (w := 0) rfl rfl rfl (by decide) rfl ?_
  refine ev_t f_L_law (t1 := 1634) (t2 := 27) rfl rfl rfl (by decide) ?_
  refine ev_ic f_L_law (nx := 1635) (v := 1) rfl (by decide) rfl ?_
  refine ev_ret f_L_law rfl rfl rfl ?_
  exact ⟨rfl, hz2⟩
end XC8
section XC9
variable {X : x_Ext} {sh : List (Nat ⊕ (Nat × Nat))} {gi : Nat → Nat → Int32} {gl : Nat → Nat → Int64} {gr : Nat → Nat → Value}
set_option maxRecDepth 20000 in
theorem pc_9 (hR : x_R W1 (sh, gi, gl, gr)) (hX : X.1 = 6) (hp : x_pair 12000 999 n_X11_rules n_X12_rules [.ref 0, .int (X.2 1)] [.ref 69, .int (X.2 1)] W1 = true) : x_Ev X 1000 n_L_law 584 [(3, .int 0), (2, .ref 69), (1, .ref 0), (0, .retAddr 30)] [] (sh, gi, gl, gr) x_P1 := by
  refine ev_loc f_L_law (nx := 585) rfl rfl rfl rfl ?_
  refine ev_loc f_L_law (nx := 586) rfl rfl rfl rfl ?_
  refine ev_loc f_L_law (nx := 587) rfl rfl rfl rfl ?_
  refine ev_ic f_L_law (nx := 588) (v := 1) rfl (by decide) rfl ?_
  refine ev_aluvI f_L_law (nx := 589) (w := 1) rfl rfl rfl (by decide) rfl ?_
  refine ev_scr f_L_law (nx := 590) (j := 1) rfl hX (by decide) (by decide) (by decide) rfl ?_
  refine ev_cE f_L_law (nx := 593) (r := []) rfl rfl rfl rfl rfl rfl rfl (x_pair_ok hp hR) rfl ?_
  rintro x1 ⟨sh, gi, gl, gr⟩ hM
  refine ev_loc f_L_law (nx := 594) rfl rfl rfl rfl ?_
  refine ev_loc f_L_law (nx := 595) rfl rfl rfl rfl ?_
  refine ev_loc f_L_law (nx := 596) rfl rfl rfl rfl ?_
  refine ev_ic f_L_law (nx := 597) (v := 1) rfl (by decide) rfl ?_
  refine ev_aluvI f_L_law (nx := 598) (w := 1) rfl rfl rfl (by decide) rfl ?_
  refine ev_scr f_L_law (nx := 599) (j := 1) rfl hX (by decide) (by decide) (by decide) rfl ?_
  refine ev_cF f_L_law (nx := 602) (r := [.int x1]) rfl rfl rfl rfl rfl rfl rfl hM rfl ?_
  rintro ⟨sh, gi, gl, gr⟩ hz2
  refine ev_t f_L_law (t1 := 1628) (t2 := 605) rfl rfl rfl rfl ?_
  refine ev_incv f_L_law (nx := 1631) (c := 6) (w := 6) (lo' := [(3, .int 6), (2, .ref 69), (1, .ref 0), (0, .retAddr 30)]) rfl rfl (by decide) (by decide) rfl rfl rfl ?_
  refine ev_jmp f_L_law (nx := 18) rfl rfl rfl ?_
  refine ev_loc f_L_law (nx := 19) rfl rfl rfl rfl ?_
  refine ev_loc f_L_law (nx := 20) rfl rfl rfl rfl ?_
  refine ev_alenX f_L_law (nx := 21) rfl hX rfl ?_
  refine ev_bp f_L_law (nx := 23) (v := 6) rfl (by decide) rfl ?_
  refine ev_aluvI f_L_law (nx := 24) (w := 0) rfl rfl rfl (by decide) rfl ?_
  refine ev_t f_L_law (t1 := 1634) (t2 := 27) rfl rfl rfl (by decide) ?_
  refine ev_ic f_L_law (nx := 1635) (v := 1) rfl (by decide) rfl ?_
  refine ev_ret f_L_law rfl rfl rfl ?_
  exact ⟨rfl, hz2⟩
end XC9
section XC47
variable {X : x_Ext} {sh : List (Nat ⊕ (Nat × Nat))} {gi : Nat → Nat → Int32} {gl : Nat → Nat → Int64} {gr : Nat → Nat → Value}
set_option maxRecDepth 20000 in
theorem pc_47 (hR : x_R W1 (sh, gi, gl, gr)) (hX : X.1 = 6) (hp : x_pair 12000 999 n_X11_mark n_X12_mark [.ref 0] [.ref 69] W1 = true) : x_Ev X 1000 n_L_law 1602 [(3, .int 0), (2, .ref 69), (1, .ref 0), (0, .retAddr 30)] [] (sh, gi, gl, gr) x_P1 := by
  refine ev_loc f_L_law (nx := 1603) rfl rfl rfl rfl ?_
  refine ev_cE f_L_law (nx := 1606) (r := []) rfl rfl rfl rfl rfl rfl rfl (x_pair_ok hp hR) rfl ?_
  rintro x1 ⟨sh, gi, gl, gr⟩ hM
  refine ev_loc f_L_law (nx := 1607) rfl rfl rfl rfl ?_
  refine ev_cF f_L_law (nx := 1610) (r := [.int x1]) rfl rfl rfl rfl rfl rfl rfl hM rfl ?_
  rintro ⟨sh, gi, gl, gr⟩ hz2
  refine ev_t f_L_law (t1 := 1628) (t2 := 1613) rfl rfl rfl rfl ?_
  refine ev_incv f_L_law (nx := 1631) (c := 6) (w := 6) (lo' := [(3, .int 6), (2, .ref 69), (1, .ref 0), (0, .retAddr 30)]) rfl rfl (by decide) (by decide) rfl rfl rfl ?_
  refine ev_jmp f_L_law (nx := 18) rfl rfl rfl ?_
  refine ev_loc f_L_law (nx := 19) rfl rfl rfl rfl ?_
  refine ev_loc f_L_law (nx := 20) rfl rfl rfl rfl ?_
  refine ev_alenX f_L_law (nx := 21) rfl hX rfl ?_
  refine ev_bp f_L_law (nx := 23) (v := 6) rfl (by decide) rfl ?_
  refine ev_aluvI f_L_law (nx := 24) (w := 0) rfl rfl rfl (by decide) rfl ?_
  refine ev_t f_L_law (t1 := 1634) (t2 := 27) rfl rfl rfl (by decide) ?_
  refine ev_ic f_L_law (nx := 1635) (v := 1) rfl (by decide) rfl ?_
  refine ev_ret f_L_law rfl rfl rfl ?_
  exact ⟨rfl, hz2⟩
end XC47
section XC25
variable {X : x_Ext} {sh : List (Nat ⊕ (Nat × Nat))} {gi : Nat → Nat → Int32} {gl : Nat → Nat → Int64} {gr : Nat → Nat → Value}
set_option maxRecDepth 20000 in
theorem pc_25 (hR : x_R W1 (sh, gi, gl, gr)) (hX : X.1 = 6) (hp : x_pair 21000 999 n_X11_code n_X12_code [.ref 0, .int (X.2 1), .int (X.2 2), .int (X.2 3)] [.ref 69, .int (X.2 1), .int (X.2 2), .int (X.2 3)] W1 = true) : x_Ev X 1000 n_L_law 1075 [(3, .int 0), (2, .ref 69), (1, .ref 0), (0, .retAddr 30)] [] (sh, gi, gl, gr) x_P1 := by
  refine ev_loc f_L_law (nx := 1076) rfl rfl rfl rfl ?_
  refine ev_loc f_L_law (nx := 1077) rfl rfl rfl rfl ?_
  refine ev_loc f_L_law (nx := 1078) rfl rfl rfl rfl ?_
  refine ev_ic f_L_law (nx := 1079) (v := 1) rfl (by decide) rfl ?_
  refine ev_aluvI f_L_law (nx := 1080) (w := 1) rfl rfl rfl (by decide) rfl ?_
  refine ev_scr f_L_law (nx := 1081) (j := 1) rfl hX (by decide) (by decide) (by decide) rfl ?_
  refine ev_loc f_L_law (nx := 1082) rfl rfl rfl rfl ?_
  refine ev_loc f_L_law (nx := 1083) rfl rfl rfl rfl ?_
  refine ev_ic f_L_law (nx := 1084) (v := 2) rfl (by decide) rfl ?_
  refine ev_aluvI f_L_law (nx := 1085) (w := 2) rfl rfl rfl (by decide) rfl ?_
  refine ev_scr f_L_law (nx := 1086) (j := 2) rfl hX (by decide) (by decide) (by decide) rfl ?_
  refine ev_loc f_L_law (nx := 1087) rfl rfl rfl rfl ?_
  refine ev_loc f_L_law (nx := 1088) rfl rfl rfl rfl ?_
  refine ev_ic f_L_law (nx := 1089) (v := 3) rfl (by decide) rfl ?_
  refine ev_aluvI f_L_law (nx := 1090) (w := 3) rfl rfl rfl (by decide) rfl ?_
  refine ev_scr f_L_law (nx := 1091) (j := 3) rfl hX (by decide) (by decide) (by decide) rfl ?_
  refine ev_cE f_L_law (nx := 1094) (r := []) rfl rfl rfl rfl rfl rfl rfl (x_pair_ok hp hR) rfl ?_
  rintro x1 ⟨sh, gi, gl, gr⟩ hM
  refine ev_loc f_L_law (nx := 1095) rfl rfl rfl rfl ?_
  refine ev_loc f_L_law (nx := 1096) rfl rfl rfl rfl ?_
  refine ev_loc f_L_law (nx := 1097) rfl rfl rfl rfl ?_
  refine ev_ic f_L_law (nx := 1098) (v := 1) rfl (by decide) rfl ?_
  refine ev_aluvI f_L_law (nx := 1099) (w := 1) rfl rfl rfl (by decide) rfl ?_
  refine ev_scr f_L_law (nx := 1100) (j := 1) rfl hX (by decide) (by decide) (by decide) rfl ?_
  refine ev_loc f_L_law (nx := 1101) rfl rfl rfl rfl ?_
  refine ev_loc f_L_law (nx := 1102) rfl rfl rfl rfl ?_
  refine ev_ic f_L_law (nx := 1103) (v := 2) rfl (by decide) rfl ?_
  refine ev_aluvI f_L_law (nx := 1104) (w := 2) rfl rfl rfl (by decide) rfl ?_
  refine ev_scr f_L_law (nx := 1105) (j := 2) rfl hX (by decide) (by decide) (by decide) rfl ?_
  refine ev_loc f_L_law (nx := 1106) rfl rfl rfl rfl ?_
  refine ev_loc f_L_law (nx := 1107) rfl rfl rfl rfl ?_
  refine ev_ic f_L_law (nx := 1108) (v := 3) rfl (by decide) rfl ?_
  refine ev_aluvI f_L_law (nx := 1109) (w := 3) rfl rfl rfl (by decide) rfl ?_
  refine ev_scr f_L_law (nx := 1110) (j := 3) rfl hX (by decide) (by decide) (by decide) rfl ?_
  refine ev_cF f_L_law (nx := 1113) (r := [.int x1]) rfl rfl rfl rfl rfl rfl rfl hM rfl ?_
  rintro ⟨sh, gi, gl, gr⟩ hz2
  refine ev_t f_L_law (t1 := 1628) (t2 := 1116) rfl rfl rfl rfl ?_
  refine ev_incv f_L_law (nx := 1631) (c := 6) (w := 6) (lo' := [(3, .int 6), (2, .ref 69), (1, .ref 0), (0, .retAddr 30)]) rfl rfl (by decide) (by decide) rfl rfl rfl ?_
  refine ev_jmp f_L_law (nx := 18) rfl rfl rfl ?_
  refine ev_loc f_L_law (nx := 19) rfl rfl rfl rfl ?_
  refine ev_loc f_L_law (nx := 20) rfl rfl rfl rfl ?_
  refine ev_alenX f_L_law (nx := 21) rfl hX rfl ?_
  refine ev_bp f_L_law (nx := 23) (v := 6) rfl (by decide) rfl ?_
  refine ev_aluvI f_L_law (nx := 24) (w := 0) rfl rfl rfl (by decide) rfl ?_
  refine ev_t f_L_law (t1 := 1634) (t2 := 27) rfl rfl rfl (by decide) ?_
  refine ev_ic f_L_law (nx := 1635) (v := 1) rfl (by decide) rfl ?_
  refine ev_ret f_L_law rfl rfl rfl ?_
  exact ⟨rfl, hz2⟩
end XC25
