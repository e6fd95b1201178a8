/-! ===== printed by gen65.py: more loops ===== -/
section XB
variable {X : x_Ext} {d mi pc nx a b q len ml : Nat} {z : Int} {lo : x_Lo} {st r : List Value} {P : Option Value → x_G → Prop} {T : List (Nat × x_Row)} {rt : Option FieldType}
variable {sh : List (Nat ⊕ (Nat × Nat))} {gi : Nat → Nat → Int32} {gl : Nat → Nat → Int64} {gr : Nat → Nat → Value}
theorem wz_92 (hR : x_R W1 (sh, gi, gl, gr)) : ∀ j, j < 23716 → gi 92 j = 0 := by
  intro j hj
  have h := (hR.2.2.2 92 (by decide) w1_c92 rfl j (Nat.lt_of_lt_of_le hj (by decide))).1
  have h : gi 92 j = x_cI w1_c92 j := h
  rw [h]
  unfold x_cI
  rw [show w1_c92.2.1 = x_Te from rfl, x_tg_e]
theorem wz_74 (hR : x_R W1 (sh, gi, gl, gr)) : ∀ j, j < 240 → gl 74 j = 0 := by
  intro j hj
  have h := (hR.2.2.2 74 (by decide) w1_c74 rfl j (Nat.lt_of_lt_of_le hj (by decide))).2.1
  have h : gl 74 j = x_cL w1_c74 j := h
  rw [h]
  unfold x_cL
  rw [show w1_c74.2.2.1 = x_Te from rfl, x_tg_e]
theorem ev_cpyI {k0 k1 n0 n1 sp dp n : Nat} {i1 i2 i3 : Int32} (F : x_F mi T ml rt) {ins : Instr} (hr : T.lookup pc = some (ins, len, 1001, b, q, z)) (hc : x_cat ins = 4) (h0 : sh[k0]? = some (.inr (0, n0))) (h1 : sh[k1]? = some (.inr (0, n1))) (hd : 1 ≤ d) (a1 : ¬ i1 < 0) (a2 : ¬ i2 < 0) (a3 : ¬ i3 < 0) (b1 : i1.toNatClampNeg = sp) (b2 : i2.toNatClampNeg = dp) (b3 : i3.toNatClampNeg = n) (c0 : sp + n ≤ n0) (c1 : dp + n ≤ n1) (hn : pc + 3 = nx) (kk : x_Ev X d mi nx lo [] (sh, (fun a => if a = k1 then va_cpy (gi k0) (gi k1) sp dp n else gi a), gl, gr) P) : x_Ev X d mi pc lo [.int i3, .int i2, .ref k1, .int i1, .ref k0] (sh, gi, gl, gr) P := by
  subst b1; subst b2; subst b3
  obtain ⟨m, v, G', e1, e2⟩ := kk
  refine ⟨m + 1, v, G', ?_, e2⟩
  unfold x_exec; rw [x_Frow F hr]; dsimp only
  rw [hc]; (try dsimp only)
  rw [if_neg (by decide), if_pos rfl, h0, h1]; dsimp only
  rw [if_pos ⟨rfl, by decide, hd, a1, a2, a3, c0, c1⟩, hn]
  exact e1
/-- a call whose number is told later -/
theorem ev_cE {PC : Int32 → x_G → Prop} {as : List Value} {G : x_G} (F : x_F mi T ml rt) {ins : Instr} (hr : T.lookup pc = some (ins, len, a, b, q, z)) (hc : x_cat ins = 4) (ha : Nat.blt a 1000 = true) (hb : Nat.ble b st.length = true) (has : (st.take b).reverse = as) (hrest : st.drop b = r) (h8 : Nat.ble (x_words r) 8 = true) (hM : x_Me X d a as G (fun v G1 => ∃ x, v = some (.int x) ∧ PC x G1)) (hn : pc + 3 = nx) (kk : ∀ x G1, PC x G1 → x_Ev X (d + 1) mi nx lo (.int x :: r) G1 P) : x_Ev X (d + 1) mi pc lo st G P := by
  subst has; subst hrest
  refine ev_call F hr hc (decide_eq_true (Nat.le_of_ble_eq_true ha)) (Nat.le_of_ble_eq_true hb) (Nat.le_of_ble_eq_true h8) hM hn ?_
  rintro _ G1 ⟨x, rfl, h⟩
  exact kk x G1 h
theorem l_bp (hW : x_WF sh gr) (h29 : gi 29 0 = 0) (h35 : gi 35 0 = 0) (K : x_Ev X (d + 1) n_X1_busiestByPlan 57 [(3, .int 241), (4, .int 0), (2, .int (-1)), (1, .int 0), (0, .ref 28)] [] (sh, gi, gl, gr) P) : ∀ (n i : Nat), i + n = 241 → x_Ev X (d + 1) n_X1_busiestByPlan 6 [(3, .int (nI i)), (4, .int 0), (2, .int (-1)), (1, .int 0), (0, .ref 28)] [] (sh, gi, gl, gr) P := by
  intro n
  induction n with
  | zero =>
    intro i hi
    have hi : i = 241 := by omega
    subst hi
    show x_Ev X (d + 1) n_X1_busiestByPlan 6 [(3, .int 241), (4, .int 0), (2, .int (-1)), (1, .int 0), (0, .ref 28)] [] (sh, gi, gl, gr) P
    refine ev_loc f_X1_busiestByPlan (nx := 7) rfl rfl rfl rfl ?_
    refine ev_sp f_X1_busiestByPlan (nx := 10) (v := 240) rfl (by decide) rfl ?_
    refine ev_t f_X1_busiestByPlan (t1 := 57) (t2 := 13) rfl rfl rfl (by decide) ?_
    exact K
  | succ n ih =>
    intro i hi
    have qi : (nI i).toInt = ((i : Nat) : Int) := nI_toInt (by omega)
    refine ev_loc f_X1_busiestByPlan (nx := 7) rfl rfl rfl rfl ?_
    refine ev_sp f_X1_busiestByPlan (nx := 10) (v := 240) rfl (by decide) rfl ?_
    refine ev_f f_X1_busiestByPlan (t1 := 57) (t2 := 13) rfl rfl rfl (by rw [Int32.lt_iff_toInt_lt, (by decide : (240 : Int32).toInt = 240)]; omega) ?_
    refine ev_loc f_X1_busiestByPlan (nx := 14) rfl rfl rfl rfl ?_
    refine ev_getR f_X1_busiestByPlan (nx := 17) rfl (hW.s rfl) rfl rfl (hW.r rfl) rfl rfl ?_
    refine ev_loc f_X1_busiestByPlan (nx := 18) rfl rfl rfl rfl ?_
    refine ev_getR f_X1_busiestByPlan (nx := 21) rfl (hW.s rfl) rfl rfl (hW.r rfl) rfl rfl ?_
    refine ev_loc f_X1_busiestByPlan (nx := 22) rfl rfl rfl rfl ?_
    refine ev_inS3 f_X1_busiestByPlan (nx := 25) (lo2 := [(0, .ref 29), (1, .ref 43), (2, .int (nI i))]) rfl rfl rfl rfl f_X1_waitingIn rfl rfl rfl rfl ?_
    refine ev_ic f_X1_waitingIn (nx := 1) (v := 0) rfl (by decide) rfl ?_
    refine ev_loc f_X1_waitingIn (nx := 2) (lo' := [(3, .int 0), (0, .ref 29), (1, .ref 43), (2, .int (nI i))]) rfl rfl rfl rfl ?_
    refine ev_ic f_X1_waitingIn (nx := 3) (v := 0) rfl (by decide) rfl ?_
    refine ev_loc f_X1_waitingIn (nx := 5) (lo' := [(4, .int 0), (3, .int 0), (0, .ref 29), (1, .ref 43), (2, .int (nI i))]) rfl rfl rfl rfl ?_
    refine ev_loc f_X1_waitingIn (nx := 7) rfl rfl rfl rfl ?_
    refine ev_loc f_X1_waitingIn (nx := 8) rfl rfl rfl rfl ?_
    refine ev_gvI f_X1_waitingIn (nx := 11) (w := 0) rfl (hW.s rfl) rfl rfl h29 rfl ?_
    refine ev_t f_X1_waitingIn (t1 := 49) (t2 := 14) rfl rfl rfl (by decide) ?_
    refine ev_loc f_X1_waitingIn (nx := 50) rfl rfl rfl rfl ?_
    refine ev_retK1 f_X1_waitingIn rfl rfl rfl ?_
    refine ev_loc f_X1_busiestByPlan (nx := 26) rfl rfl rfl rfl ?_
    refine ev_getR f_X1_busiestByPlan (nx := 29) rfl (hW.s rfl) rfl rfl (hW.r rfl) rfl rfl ?_
    refine ev_loc f_X1_busiestByPlan (nx := 30) rfl rfl rfl rfl ?_
    refine ev_getR f_X1_busiestByPlan (nx := 33) rfl (hW.s rfl) rfl rfl (hW.r rfl) rfl rfl ?_
    refine ev_loc f_X1_busiestByPlan (nx := 34) rfl rfl rfl rfl ?_
    refine ev_inS3 f_X1_busiestByPlan (nx := 37) (lo2 := [(0, .ref 35), (1, .ref 44), (2, .int (nI i))]) rfl rfl rfl rfl f_X1_waitingIn rfl rfl rfl rfl ?_
    refine ev_ic f_X1_waitingIn (nx := 1) (v := 0) rfl (by decide) rfl ?_
    refine ev_loc f_X1_waitingIn (nx := 2) (lo' := [(3, .int 0), (0, .ref 35), (1, .ref 44), (2, .int (nI i))]) rfl rfl rfl rfl ?_
    refine ev_ic f_X1_waitingIn (nx := 3) (v := 0) rfl (by decide) rfl ?_
    refine ev_loc f_X1_waitingIn (nx := 5) (lo' := [(4, .int 0), (3, .int 0), (0, .ref 35), (1, .ref 44), (2, .int (nI i))]) rfl rfl rfl rfl ?_
    refine ev_loc f_X1_waitingIn (nx := 7) rfl rfl rfl rfl ?_
    refine ev_loc f_X1_waitingIn (nx := 8) rfl rfl rfl rfl ?_
    refine ev_gvI f_X1_waitingIn (nx := 11) (w := 0) rfl (hW.s rfl) rfl rfl h35 rfl ?_
    refine ev_t f_X1_waitingIn (t1 := 49) (t2 := 14) rfl rfl rfl (by decide) ?_
    refine ev_loc f_X1_waitingIn (nx := 50) rfl rfl rfl rfl ?_
    refine ev_retK1 f_X1_waitingIn rfl rfl rfl ?_
    refine ev_aluvI f_X1_busiestByPlan (nx := 38) (w := 0) rfl rfl rfl (by decide) rfl ?_
    refine ev_loc f_X1_busiestByPlan (nx := 40) (lo' := [(4, .int 0), (3, .int (nI i)), (2, .int (-1)), (1, .int 0), (0, .ref 28)]) rfl rfl rfl rfl ?_
    refine ev_loc f_X1_busiestByPlan (nx := 42) rfl rfl rfl rfl ?_
    refine ev_loc f_X1_busiestByPlan (nx := 43) rfl rfl rfl rfl ?_
    refine ev_t f_X1_busiestByPlan (t1 := 51) (t2 := 46) rfl rfl rfl (by decide) ?_
    refine ev_incv f_X1_busiestByPlan (nx := 54) (c := 1) (w := nI (i + 1)) (lo' := [(3, .int (nI (i + 1))), (4, .int 0), (2, .int (-1)), (1, .int 0), (0, .ref 28)]) rfl rfl (by decide) (nI_1 i) (by decide) rfl rfl ?_
    refine ev_jmp f_X1_busiestByPlan (nx := 6) rfl rfl rfl ?_
    exact ih (i + 1) (by omega)
theorem l_mb (hW : x_WF sh gr) (h55 : gi 69 55 = 0) (K : x_Ev X (d + 1) n_X12_busiest 110 [(3, .int 241), (5, .int 0), (4, .int 0), (2, .int 0), (1, .int (-1)), (0, .ref 69)] [] (sh, gi, gl, gr) P) : ∀ (n i : Nat), i + n = 241 → x_Ev X (d + 1) n_X12_busiest 20 [(3, .int (nI i)), (5, .int 0), (4, .int 0), (2, .int 0), (1, .int (-1)), (0, .ref 69)] [] (sh, gi, gl, gr) P := by
  intro n
  induction n with
  | zero =>
    intro i hi
    have hi : i = 241 := by omega
    subst hi
    show x_Ev X (d + 1) n_X12_busiest 20 [(3, .int 241), (5, .int 0), (4, .int 0), (2, .int 0), (1, .int (-1)), (0, .ref 69)] [] (sh, gi, gl, gr) P
    refine ev_loc f_X12_busiest (nx := 21) rfl rfl rfl rfl ?_
    refine ev_sp f_X12_busiest (nx := 24) (v := 240) rfl (by decide) rfl ?_
    refine ev_t f_X12_busiest (t1 := 110) (t2 := 27) rfl rfl rfl (by decide) ?_
    exact K
  | succ n ih =>
    intro i hi
    have qi : (nI i).toInt = ((i : Nat) : Int) := nI_toInt (by omega)
    refine ev_loc f_X12_busiest (nx := 21) rfl rfl rfl rfl ?_
    refine ev_sp f_X12_busiest (nx := 24) (v := 240) rfl (by decide) rfl ?_
    refine ev_f f_X12_busiest (t1 := 110) (t2 := 27) rfl rfl rfl (by rw [Int32.lt_iff_toInt_lt, (by decide : (240 : Int32).toInt = 240)]; omega) ?_
    refine ev_ic f_X12_busiest (nx := 28) (v := 0) rfl (by decide) rfl ?_
    refine ev_loc f_X12_busiest (nx := 30) (lo' := [(4, .int 0), (3, .int (nI i)), (5, .int 0), (2, .int 0), (1, .int (-1)), (0, .ref 69)]) rfl rfl rfl rfl ?_
    refine ev_ic f_X12_busiest (nx := 31) (v := 0) rfl (by decide) rfl ?_
    refine ev_loc f_X12_busiest (nx := 33) (lo' := [(5, .int 0), (4, .int 0), (3, .int (nI i)), (2, .int 0), (1, .int (-1)), (0, .ref 69)]) rfl rfl rfl rfl ?_
    refine ev_loc f_X12_busiest (nx := 35) rfl rfl rfl rfl ?_
    refine ev_loc f_X12_busiest (nx := 36) rfl rfl rfl rfl ?_
    refine ev_gvI f_X12_busiest (nx := 39) (w := 0) rfl (hW.s rfl) rfl rfl h55 rfl ?_
    refine ev_t f_X12_busiest (t1 := 90) (t2 := 42) rfl rfl rfl (by decide) ?_
    refine ev_loc f_X12_busiest (nx := 92) rfl rfl rfl rfl ?_
    refine ev_loc f_X12_busiest (nx := 93) rfl rfl rfl rfl ?_
    refine ev_f f_X12_busiest (t1 := 99) (t2 := 96) rfl rfl rfl (by decide) ?_
    refine ev_jmp f_X12_busiest (nx := 104) rfl rfl rfl ?_
    refine ev_incv f_X12_busiest (nx := 107) (c := 1) (w := nI (i + 1)) (lo' := [(3, .int (nI (i + 1))), (5, .int 0), (4, .int 0), (2, .int 0), (1, .int (-1)), (0, .ref 69)]) rfl rfl (by decide) (nI_1 i) (by decide) rfl rfl ?_
    refine ev_jmp f_X12_busiest (nx := 20) rfl rfl rfl ?_
    exact ih (i + 1) (by omega)
theorem l_mtray (hW : x_WF sh gr) {tc : Nat} (htc : tc < 4) {s m : Int32} (hm0 : 0 ≤ m.toInt) (hm : m.toInt ≤ 60) (hz : ∀ j, j < 240 → gl 74 j = 0) (K : ∀ v, x_Ev X d n_X12_tray 74 [(4, v), (0, .ref 69), (1, .int (nI tc)), (2, .int s), (3, .int m)] [] (sh, gi, gl, gr) P) : ∀ (n i : Nat), i + n = m.toInt.toNat → x_Ev X d n_X12_tray 49 [(4, .int (nI i)), (0, .ref 69), (1, .int (nI tc)), (2, .int s), (3, .int m)] [] (sh, gi, gl, gr) P := by
  intro n
  induction n with
  | zero =>
    intro i hi
    have qi : (nI i).toInt = ((i : Nat) : Int) := nI_toInt (by omega)
    refine ev_loc f_X12_tray (nx := 51) rfl rfl rfl rfl ?_
    refine ev_loc f_X12_tray (nx := 52) rfl rfl rfl rfl ?_
    refine ev_t f_X12_tray (t1 := 74) (t2 := 55) rfl rfl rfl (by rw [Int32.le_iff_toInt_le, qi]; omega) ?_
    exact K _
  | succ n ih =>
    intro i hi
    have qi : (nI i).toInt = ((i : Nat) : Int) := nI_toInt (by omega)
    refine ev_loc f_X12_tray (nx := 51) rfl rfl rfl rfl ?_
    refine ev_loc f_X12_tray (nx := 52) rfl rfl rfl rfl ?_
    refine ev_f f_X12_tray (t1 := 74) (t2 := 55) rfl rfl rfl (by rw [Int32.le_iff_toInt_le, qi]; omega) ?_
    refine ev_loc f_X12_tray (nx := 56) rfl rfl rfl rfl ?_
    refine ev_getR f_X12_tray (nx := 59) rfl (hW.s rfl) rfl rfl (hW.r rfl) rfl rfl ?_
    refine ev_bp f_X12_tray (nx := 61) (v := 60) rfl (by decide) rfl ?_
    refine ev_loc f_X12_tray (nx := 62) rfl rfl rfl rfl ?_
    refine ev_alu f_X12_tray (nx := 63) rfl rfl rfl rfl ?_
    refine ev_loc f_X12_tray (nx := 65) rfl rfl rfl rfl ?_
    refine ev_alu f_X12_tray (nx := 66) rfl rfl rfl rfl ?_
    refine ev_lc f_X12_tray (nx := 67) (v := 0) rfl (by decide) rfl ?_
    refine ev_last0 f_X12_tray (nx := 68) (j := 60 * tc + i) rfl (hW.s rfl) (by show nI 60 * nI tc + nI i = _; rw [so_mul, nI_add]) (by omega) (by decide) hz rfl ?_
    refine ev_inc f_X12_tray (nx := 71) (c := 1) rfl rfl (by decide) rfl rfl rfl ?_
    refine ev_jmp f_X12_tray (nx := 49) rfl rfl rfl ?_
    rw [nI_1]
    exact ih (i + 1) (by omega)
end XB
