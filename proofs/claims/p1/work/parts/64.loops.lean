/-! ===== printed by gen64.py: loops over a world without SHIPS and CARTS ===== -/
theorem so_dec (i : Nat) : nI (i + 1) + (-1) = nI i := by
  have h := nI_pred i
  rw [Int32.sub_eq_add_neg] at h
  exact h
theorem so_mul (a b : Nat) : nI a * nI b = nI (a * b) := by
  show Int32.ofNat a * Int32.ofNat b = Int32.ofNat (a * b)
  rw [Int32.ofNat_mul]
theorem so_ix0 (i : Nat) : ((2 * nI i + 0) * 7 + 0) * 7 + 0 = nI ((2 * i + 0) * 49) := by
  show ((nI 2 * nI i + nI 0) * nI 7 + nI 0) * nI 7 + nI 0 = _
  simp only [so_mul, nI_add]
  congr 1; omega
theorem so_ix1 (i : Nat) : ((2 * nI i + 1) * 7 + 0) * 7 + 0 = nI ((2 * i + 1) * 49) := by
  show ((nI 2 * nI i + nI 1) * nI 7 + nI 0) * nI 7 + nI 0 = _
  simp only [so_mul, nI_add]
  congr 1; omega
theorem x_up2_id {α : Type} {f : Nat → Nat → α} {k j : Nat} {x : α} (h : f k j = x) : x_up2 f k j x = f := by
  funext a b
  unfold x_up2
  by_cases ha : a = k
  · subst ha
    simp only [if_true]
    by_cases hb : b = j
    · subst hb; simp [h]
    · simp [hb]
  · simp [ha]
section XL
variable {X : x_Ext} {d mi pc nx a b q len ml : Nat} {z : Int} {lo : x_Lo} {st r : List Value} {P : Option Value → x_G → Prop} {T : List (Nat × x_Row)} {rt : Option FieldType}
variable {sh : List (Nat ⊕ (Nat × Nat))} {gi : Nat → Nat → Int32} {gl : Nat → Nat → Int64} {gr : Nat → Nat → Value} {k n j : Nat} {i : Int32}
theorem ev_iast0 (F : x_F mi T ml rt) (hr : T.lookup pc = some (.iastore, len, a, b, q, z)) (hk : sh[k]? = some (.inr (0, n))) (hi : i = nI j) (hj : j < n) (hn31 : n < 2 ^ 31) (hL : ∀ j, j < n → gi k j = 0) (hn : pc + len = nx) (kk : x_Ev X d mi nx lo r (sh, gi, gl, gr) P) : x_Ev X d mi pc lo (.int 0 :: .int i :: .ref k :: r) (sh, gi, gl, gr) P := by
  subst hi
  refine ev_iast F hr hk (nI_pos (by omega)) (by rw [nI_clamp (by omega)]; exact hj) hn ?_
  rw [nI_clamp (by omega), x_up2_id (hL j hj)]
  exact kk
theorem ev_last0 (F : x_F mi T ml rt) (hr : T.lookup pc = some (.lastore, len, a, b, q, z)) (hk : sh[k]? = some (.inr (1, n))) (hi : i = nI j) (hj : j < n) (hn31 : n < 2 ^ 31) (hL : ∀ j, j < n → gl k j = 0) (hn : pc + len = nx) (kk : x_Ev X d mi nx lo r (sh, gi, gl, gr) P) : x_Ev X d mi pc lo (.long 0 :: .int i :: .ref k :: r) (sh, gi, gl, gr) P := by
  subst hi
  refine ev_last F hr hk (nI_pos (by omega)) (by rw [nI_clamp (by omega)]; exact hj) hn ?_
  rw [nI_clamp (by omega), x_up2_id (hL j hj)]
  exact kk
/-- a call by its contract -/
theorem ev_cM {as : List Value} {G G1 : x_G} {v : Option Value} {st2 : List Value} (F : x_F mi T ml rt) {ins : Instr} (hr : T.lookup pc = some (ins, len, a, b, q, z)) (hc : x_cat ins = 4) (ha : Nat.blt a 1000 = true) (hb : Nat.ble b st.length = true) (has : (st.take b).reverse = as) (h8 : Nat.ble (x_words (st.drop b)) 8 = true) (hM : x_Me X d a as G (fun w G' => w = v ∧ G' = G1)) (hn : pc + 3 = nx) (he : v.toList ++ st.drop b = st2) (kk : x_Ev X (d + 1) mi nx lo st2 G1 P) : x_Ev X (d + 1) mi pc lo st G P := by
  subst has; subst he
  refine ev_call F hr hc (decide_eq_true (Nat.le_of_ble_eq_true ha)) (Nat.le_of_ble_eq_true hb) (Nat.le_of_ble_eq_true h8) hM hn ?_
  rintro _ _ ⟨rfl, rfl⟩
  exact kk
end XL
section XR
variable {X : x_Ext} {d : Nat}
variable {sh : List (Nat ⊕ (Nat × Nat))} {gi : Nat → Nat → Int32} {gl : Nat → Nat → Int64} {gr : Nat → Nat → Value}
theorem l_rk_e (hW : x_WF sh gr) (h44 : gi 69 44 = 0) (h45 : gi 69 45 = 0) : x_Ev X (d + 3) n_X12_reckons 4 [(1, .int (-1)), (2, .int 2), (3, .int (-1)), (4, .int (-1)), (5, .int 0), (0, .ref 69)] [] (sh, gi, gl, gr) (fun v G' => v = some (.int 0) ∧ G' = (sh, gi, gl, gr)) := by
  refine ev_loc f_X12_reckons (nx := 5) rfl rfl rfl rfl ?_
  refine ev_t f_X12_reckons (t1 := 176) (t2 := 8) rfl rfl rfl (by decide) ?_
  refine ev_loc f_X12_reckons (nx := 177) rfl rfl rfl rfl ?_
  refine ev_ic f_X12_reckons (nx := 178) (v := 0) rfl (by decide) rfl ?_
  refine ev_ic f_X12_reckons (nx := 179) (v := 0) rfl (by decide) rfl ?_
  refine ev_ic f_X12_reckons (nx := 180) (v := 0) rfl (by decide) rfl ?_
  refine ev_ic f_X12_reckons (nx := 181) (v := 0) rfl (by decide) rfl ?_
  refine ev_inV5 f_X12_reckons (nx := 184) (lo2 := [(0, .ref 69), (1, .int 0), (2, .int 0), (3, .int 0), (4, .int 0)]) rfl rfl rfl rfl f_X12_leftAt (hW.s rfl) rfl rfl rfl rfl rfl ?_
  refine ev_loc f_X12_leftAt (nx := 1) rfl rfl rfl rfl ?_
  refine ev_loc f_X12_leftAt (nx := 2) rfl rfl rfl rfl ?_
  refine ev_gvI f_X12_leftAt (nx := 5) (w := 0) rfl (hW.s rfl) rfl rfl h44 rfl ?_
  refine ev_t f_X12_leftAt (t1 := 8) (t2 := 19) rfl rfl rfl (by decide) ?_
  refine ev_loc f_X12_leftAt (nx := 10) rfl rfl rfl rfl ?_
  refine ev_loc f_X12_leftAt (nx := 11) rfl rfl rfl rfl ?_
  refine ev_gvI f_X12_leftAt (nx := 14) (w := 0) rfl (hW.s rfl) rfl rfl h45 rfl ?_
  refine ev_t f_X12_leftAt (t1 := 17) (t2 := 19) rfl rfl rfl (by decide) ?_
  refine ev_ic f_X12_leftAt (nx := 18) (v := 0) rfl (by decide) rfl ?_
  refine ev_retK1 f_X12_leftAt rfl rfl rfl ?_
  refine ev_loc f_X12_reckons (nx := 185) (lo' := [(1, .int 0), (2, .int 2), (3, .int (-1)), (4, .int (-1)), (5, .int 0), (0, .ref 69)]) rfl rfl rfl rfl ?_
  refine ev_loc f_X12_reckons (nx := 186) rfl rfl rfl rfl ?_
  refine ev_ldW f_X12_reckons (nx := 189) (v := 1000000000) rfl (by decide) rfl ?_
  refine ev_f f_X12_reckons (t1 := 196) (t2 := 192) rfl rfl rfl (by decide) ?_
  refine ev_loc f_X12_reckons (nx := 193) rfl rfl rfl rfl ?_
  refine ev_jmp f_X12_reckons (nx := 197) rfl rfl rfl ?_
  exact ev_ret f_X12_reckons rfl rfl rfl ⟨rfl, rfl⟩
theorem l_rk_s (hW : x_WF sh gr) (h44 : gi 69 44 = 0) (h45 : gi 69 45 = 0) (h5 : gi 70 5 = 0) (hL : ∀ j, j < 23716 → gi 92 j = 0) : ∀ i, i ≤ 239 → x_Ev X (d + 3) n_X12_reckons 4 [(1, .int (nI i)), (2, .int 2), (3, .int (-1)), (4, .int (-1)), (5, .int 0), (0, .ref 69)] [] (sh, gi, gl, gr) (fun v G' => v = some (.int 0) ∧ G' = (sh, gi, gl, gr)) := by
  intro i
  induction i with
  | zero =>
    intro _
    show x_Ev X (d + 3) n_X12_reckons 4 [(1, .int 0), (2, .int 2), (3, .int (-1)), (4, .int (-1)), (5, .int 0), (0, .ref 69)] [] (sh, gi, gl, gr) _
    refine ev_loc f_X12_reckons (nx := 5) rfl rfl rfl rfl ?_
    refine ev_f f_X12_reckons (t1 := 176) (t2 := 8) rfl rfl rfl (by decide) ?_
    refine ev_ic f_X12_reckons (nx := 9) (v := 0) rfl (by decide) rfl ?_
    refine ev_loc f_X12_reckons (nx := 10) (lo' := [(2, .int 0), (1, .int 0), (3, .int (-1)), (4, .int (-1)), (5, .int 0), (0, .ref 69)]) rfl rfl rfl rfl ?_
    refine ev_loc f_X12_reckons (nx := 11) rfl rfl rfl rfl ?_
    refine ev_ic f_X12_reckons (nx := 12) (v := 2) rfl (by decide) rfl ?_
    refine ev_f f_X12_reckons (t1 := 170) (t2 := 15) rfl rfl rfl (by decide) ?_
    refine ev_loc f_X12_reckons (nx := 16) rfl rfl rfl rfl ?_
    refine ev_gvI f_X12_reckons (nx := 19) (w := 0) rfl (hW.s rfl) rfl rfl h44 rfl ?_
    refine ev_loc f_X12_reckons (nx := 20) (lo' := [(3, .int 0), (2, .int 0), (1, .int 0), (4, .int (-1)), (5, .int 0), (0, .ref 69)]) rfl rfl rfl rfl ?_
    refine ev_loc f_X12_reckons (nx := 21) rfl rfl rfl rfl ?_
    refine ev_f f_X12_reckons (t1 := 164) (t2 := 24) rfl rfl rfl (by decide) ?_
    refine ev_loc f_X12_reckons (nx := 25) rfl rfl rfl rfl ?_
    refine ev_gvI f_X12_reckons (nx := 28) (w := 0) rfl (hW.s rfl) rfl rfl h45 rfl ?_
    refine ev_loc f_X12_reckons (nx := 30) (lo' := [(4, .int 0), (3, .int 0), (2, .int 0), (1, .int 0), (5, .int 0), (0, .ref 69)]) rfl rfl rfl rfl ?_
    refine ev_loc f_X12_reckons (nx := 32) rfl rfl rfl rfl ?_
    refine ev_f f_X12_reckons (t1 := 158) (t2 := 35) rfl rfl rfl (by decide) ?_
    refine ev_loc f_X12_reckons (nx := 36) rfl rfl rfl rfl ?_
    refine ev_loc f_X12_reckons (nx := 37) rfl rfl rfl rfl ?_
    refine ev_ic f_X12_reckons (nx := 38) (v := 1) rfl (by decide) rfl ?_
    refine ev_aluvI f_X12_reckons (nx := 39) (w := 1) rfl rfl rfl (by decide) rfl ?_
    refine ev_loc f_X12_reckons (nx := 40) rfl rfl rfl rfl ?_
    refine ev_loc f_X12_reckons (nx := 41) rfl rfl rfl rfl ?_
    refine ev_loc f_X12_reckons (nx := 43) rfl rfl rfl rfl ?_
    refine ev_inV5 f_X12_reckons (nx := 46) (lo2 := [(0, .ref 69), (1, .int 1), (2, .int 0), (3, .int 0), (4, .int 0)]) rfl rfl rfl rfl f_X12_leftAt (hW.s rfl) rfl rfl rfl rfl rfl ?_
    refine ev_loc f_X12_leftAt (nx := 1) rfl rfl rfl rfl ?_
    refine ev_loc f_X12_leftAt (nx := 2) rfl rfl rfl rfl ?_
    refine ev_gvI f_X12_leftAt (nx := 5) (w := 0) rfl (hW.s rfl) rfl rfl h44 rfl ?_
    refine ev_t f_X12_leftAt (t1 := 8) (t2 := 19) rfl rfl rfl (by decide) ?_
    refine ev_loc f_X12_leftAt (nx := 10) rfl rfl rfl rfl ?_
    refine ev_loc f_X12_leftAt (nx := 11) rfl rfl rfl rfl ?_
    refine ev_gvI f_X12_leftAt (nx := 14) (w := 0) rfl (hW.s rfl) rfl rfl h45 rfl ?_
    refine ev_t f_X12_leftAt (t1 := 17) (t2 := 19) rfl rfl rfl (by decide) ?_
    refine ev_ic f_X12_leftAt (nx := 18) (v := 0) rfl (by decide) rfl ?_
    refine ev_retK1 f_X12_leftAt rfl rfl rfl ?_
    refine ev_loc f_X12_reckons (nx := 47) rfl rfl rfl rfl ?_
    refine ev_loc f_X12_reckons (nx := 48) rfl rfl rfl rfl ?_
    refine ev_loc f_X12_reckons (nx := 49) rfl rfl rfl rfl ?_
    refine ev_loc f_X12_reckons (nx := 50) rfl rfl rfl rfl ?_
    refine ev_loc f_X12_reckons (nx := 51) rfl rfl rfl rfl ?_
    refine ev_getI f_X12_reckons (nx := 54) rfl (hW.s rfl) rfl rfl rfl ?_
    refine ev_inV3 f_X12_reckons (nx := 57) (lo2 := [(0, .ref 69), (1, .int 0), (2, .int (gi 69 48))]) rfl rfl rfl rfl f_X12_turnTime (hW.s rfl) rfl rfl rfl rfl rfl ?_
    refine ev_loc f_X12_turnTime (nx := 1) rfl rfl rfl rfl ?_
    refine ev_loc f_X12_turnTime (nx := 2) rfl rfl rfl rfl ?_
    refine ev_getR f_X12_turnTime (nx := 5) rfl (hW.s rfl) rfl rfl (hW.r rfl) rfl rfl ?_
    refine ev_ic f_X12_turnTime (nx := 6) (v := 5) rfl (by decide) rfl ?_
    refine ev_ialdv f_X12_turnTime (nx := 7) (j := 5) (w := 0) rfl (hW.s rfl) (by decide) (by decide) (by decide) h5 rfl ?_
    refine ev_t f_X12_turnTime (t1 := 30) (t2 := 10) rfl rfl rfl (by decide) ?_
    refine ev_ic f_X12_turnTime (nx := 31) (v := 0) rfl (by decide) rfl ?_
    refine ev_alu f_X12_turnTime (nx := 32) rfl rfl rfl rfl ?_
    refine ev_retK1 f_X12_turnTime rfl rfl rfl ?_
    refine ev_alu f_X12_reckons (nx := 58) rfl rfl rfl rfl ?_
    refine ev_ic f_X12_reckons (nx := 59) (v := 1) rfl (by decide) rfl ?_
    refine ev_loc f_X12_reckons (nx := 60) rfl rfl rfl rfl ?_
    refine ev_aluvI f_X12_reckons (nx := 61) (w := 1) rfl rfl rfl (by decide) rfl ?_
    refine ev_loc f_X12_reckons (nx := 62) rfl rfl rfl rfl ?_
    refine ev_loc f_X12_reckons (nx := 64) rfl rfl rfl rfl ?_
    refine ev_inV5 f_X12_reckons (nx := 67) (lo2 := [(0, .ref 69), (1, .int ((0 + (gi 69 48 + 0)))), (2, .int 1), (3, .int 0), (4, .int 0)]) rfl rfl rfl rfl f_X12_leftAt (hW.s rfl) rfl rfl rfl rfl rfl ?_
    refine ev_loc f_X12_leftAt (nx := 1) rfl rfl rfl rfl ?_
    refine ev_loc f_X12_leftAt (nx := 2) rfl rfl rfl rfl ?_
    refine ev_gvI f_X12_leftAt (nx := 5) (w := 0) rfl (hW.s rfl) rfl rfl h44 rfl ?_
    refine ev_t f_X12_leftAt (t1 := 8) (t2 := 19) rfl rfl rfl (by decide) ?_
    refine ev_loc f_X12_leftAt (nx := 10) rfl rfl rfl rfl ?_
    refine ev_loc f_X12_leftAt (nx := 11) rfl rfl rfl rfl ?_
    refine ev_gvI f_X12_leftAt (nx := 14) (w := 0) rfl (hW.s rfl) rfl rfl h45 rfl ?_
    refine ev_t f_X12_leftAt (t1 := 17) (t2 := 19) rfl rfl rfl (by decide) ?_
    refine ev_ic f_X12_leftAt (nx := 18) (v := 0) rfl (by decide) rfl ?_
    refine ev_retK1 f_X12_leftAt rfl rfl rfl ?_
    refine ev_mmv f_X12_reckons (nx := 70) (w := 0) rfl rfl rfl (by omega) rfl (by decide) rfl ?_
    refine ev_loc f_X12_reckons (nx := 72) (lo' := [(5, .int 0), (4, .int 0), (3, .int 0), (2, .int 0), (1, .int 0), (0, .ref 69)]) rfl rfl rfl rfl ?_
    refine ev_loc f_X12_reckons (nx := 73) rfl rfl rfl rfl ?_
    refine ev_loc f_X12_reckons (nx := 74) rfl rfl rfl rfl ?_
    refine ev_loc f_X12_reckons (nx := 75) rfl rfl rfl rfl ?_
    refine ev_loc f_X12_reckons (nx := 76) rfl rfl rfl rfl ?_
    refine ev_inV4 f_X12_reckons (nx := 79) (lo2 := [(0, .ref 69), (1, .int 0), (2, .int 0), (3, .int 0)]) rfl rfl rfl rfl f_X12_mayShip (hW.s rfl) rfl rfl rfl rfl rfl ?_
    refine ev_loc f_X12_mayShip (nx := 1) rfl rfl rfl rfl ?_
    refine ev_t f_X12_mayShip (t1 := 27) (t2 := 4) rfl rfl rfl (by decide) ?_
    refine ev_ic f_X12_mayShip (nx := 28) (v := 0) rfl (by decide) rfl ?_
    refine ev_retK1 f_X12_mayShip rfl rfl rfl ?_
    refine ev_t f_X12_reckons (t1 := 97) (t2 := 82) rfl rfl rfl (by decide) ?_
    refine ev_loc f_X12_reckons (nx := 98) rfl rfl rfl rfl ?_
    refine ev_loc f_X12_reckons (nx := 99) rfl rfl rfl rfl ?_
    refine ev_loc f_X12_reckons (nx := 100) rfl rfl rfl rfl ?_
    refine ev_loc f_X12_reckons (nx := 102) rfl rfl rfl rfl ?_
    refine ev_inV4 f_X12_reckons (nx := 105) (lo2 := [(0, .ref 69), (1, .int 0), (2, .int 0), (3, .int 0)]) rfl rfl rfl rfl f_X12_mayCart (hW.s rfl) rfl rfl rfl rfl rfl ?_
    refine ev_loc f_X12_mayCart (nx := 1) rfl rfl rfl rfl ?_
    refine ev_t f_X12_mayCart (t1 := 4) (t2 := 34) rfl rfl rfl (by decide) ?_
    refine ev_loc f_X12_mayCart (nx := 5) rfl rfl rfl rfl ?_
    refine ev_loc f_X12_mayCart (nx := 6) rfl rfl rfl rfl ?_
    refine ev_gvI f_X12_mayCart (nx := 9) (w := 0) rfl (hW.s rfl) rfl rfl h45 rfl ?_
    refine ev_t f_X12_mayCart (t1 := 34) (t2 := 12) rfl rfl rfl (by decide) ?_
    refine ev_ic f_X12_mayCart (nx := 35) (v := 0) rfl (by decide) rfl ?_
    refine ev_retK1 f_X12_mayCart rfl rfl rfl ?_
    refine ev_t f_X12_reckons (t1 := 123) (t2 := 108) rfl rfl rfl (by decide) ?_
    refine ev_loc f_X12_reckons (nx := 124) rfl rfl rfl rfl ?_
    refine ev_getR f_X12_reckons (nx := 127) rfl (hW.s rfl) rfl rfl (hW.r rfl) rfl rfl ?_
    refine ev_loc f_X12_reckons (nx := 128) rfl rfl rfl rfl ?_
    refine ev_loc f_X12_reckons (nx := 129) rfl rfl rfl rfl ?_
    refine ev_loc f_X12_reckons (nx := 130) rfl rfl rfl rfl ?_
    refine ev_loc f_X12_reckons (nx := 132) rfl rfl rfl rfl ?_
    refine ev_inS4 f_X12_reckons (nx := 135) (lo2 := [(0, .int 0), (1, .int 0), (2, .int 0), (3, .int 0)]) rfl rfl rfl rfl f_X12_stateOf rfl rfl rfl rfl ?_
    refine ev_ic f_X12_stateOf (nx := 1) (v := 2) rfl (by decide) rfl ?_
    refine ev_loc f_X12_stateOf (nx := 2) rfl rfl rfl rfl ?_
    refine ev_aluvI f_X12_stateOf (nx := 3) (w := 0) rfl rfl rfl (by decide) rfl ?_
    refine ev_loc f_X12_stateOf (nx := 4) rfl rfl rfl rfl ?_
    refine ev_aluvI f_X12_stateOf (nx := 5) (w := 0) rfl rfl rfl (by decide) rfl ?_
    refine ev_bp f_X12_stateOf (nx := 7) (v := 7) rfl (by decide) rfl ?_
    refine ev_aluvI f_X12_stateOf (nx := 8) (w := 0) rfl rfl rfl (by decide) rfl ?_
    refine ev_loc f_X12_stateOf (nx := 9) rfl rfl rfl rfl ?_
    refine ev_aluvI f_X12_stateOf (nx := 10) (w := 0) rfl rfl rfl (by decide) rfl ?_
    refine ev_bp f_X12_stateOf (nx := 12) (v := 7) rfl (by decide) rfl ?_
    refine ev_aluvI f_X12_stateOf (nx := 13) (w := 0) rfl rfl rfl (by decide) rfl ?_
    refine ev_loc f_X12_stateOf (nx := 14) rfl rfl rfl rfl ?_
    refine ev_aluvI f_X12_stateOf (nx := 15) (w := 0) rfl rfl rfl (by decide) rfl ?_
    refine ev_retK1 f_X12_stateOf rfl rfl rfl ?_
    refine ev_loc f_X12_reckons (nx := 137) rfl rfl rfl rfl ?_
    refine ev_ldW f_X12_reckons (nx := 140) (v := 1000000000) rfl (by decide) rfl ?_
    refine ev_f f_X12_reckons (t1 := 148) (t2 := 143) rfl rfl rfl (by decide) ?_
    refine ev_loc f_X12_reckons (nx := 145) rfl rfl rfl rfl ?_
    refine ev_jmp f_X12_reckons (nx := 151) rfl rfl rfl ?_
    refine ev_iast0 f_X12_reckons (nx := 152) (j := 0) rfl (hW.s rfl) (by decide) (by decide) (by decide) hL rfl ?_
    refine ev_incv f_X12_reckons (nx := 155) (c := -1) (w := -1) (lo' := [(4, .int (-1)), (5, .int 0), (3, .int 0), (2, .int 0), (1, .int 0), (0, .ref 69)]) rfl rfl (by decide) (by decide) rfl rfl rfl ?_
    refine ev_jmp f_X12_reckons (nx := 30) rfl rfl rfl ?_
    refine ev_loc f_X12_reckons (nx := 32) rfl rfl rfl rfl ?_
    refine ev_t f_X12_reckons (t1 := 158) (t2 := 35) rfl rfl rfl (by decide) ?_
    refine ev_incv f_X12_reckons (nx := 161) (c := -1) (w := -1) (lo' := [(3, .int (-1)), (4, .int (-1)), (5, .int 0), (2, .int 0), (1, .int 0), (0, .ref 69)]) rfl rfl (by decide) (by decide) rfl rfl rfl ?_
    refine ev_jmp f_X12_reckons (nx := 20) rfl rfl rfl ?_
    refine ev_loc f_X12_reckons (nx := 21) rfl rfl rfl rfl ?_
    refine ev_t f_X12_reckons (t1 := 164) (t2 := 24) rfl rfl rfl (by decide) ?_
    refine ev_incv f_X12_reckons (nx := 167) (c := 1) (w := 1) (lo' := [(2, .int 1), (3, .int (-1)), (4, .int (-1)), (5, .int 0), (1, .int 0), (0, .ref 69)]) rfl rfl (by decide) (by decide) rfl rfl rfl ?_
    refine ev_jmp f_X12_reckons (nx := 10) rfl rfl rfl ?_
    refine ev_loc f_X12_reckons (nx := 11) rfl rfl rfl rfl ?_
    refine ev_ic f_X12_reckons (nx := 12) (v := 2) rfl (by decide) rfl ?_
    refine ev_f f_X12_reckons (t1 := 170) (t2 := 15) rfl rfl rfl (by decide) ?_
    refine ev_loc f_X12_reckons (nx := 16) rfl rfl rfl rfl ?_
    refine ev_gvI f_X12_reckons (nx := 19) (w := 0) rfl (hW.s rfl) rfl rfl h44 rfl ?_
    refine ev_loc f_X12_reckons (nx := 20) (lo' := [(3, .int 0), (2, .int 1), (4, .int (-1)), (5, .int 0), (1, .int 0), (0, .ref 69)]) rfl rfl rfl rfl ?_
    refine ev_loc f_X12_reckons (nx := 21) rfl rfl rfl rfl ?_
    refine ev_f f_X12_reckons (t1 := 164) (t2 := 24) rfl rfl rfl (by decide) ?_
    refine ev_loc f_X12_reckons (nx := 25) rfl rfl rfl rfl ?_
    refine ev_gvI f_X12_reckons (nx := 28) (w := 0) rfl (hW.s rfl) rfl rfl h45 rfl ?_
    refine ev_loc f_X12_reckons (nx := 30) (lo' := [(4, .int 0), (3, .int 0), (2, .int 1), (5, .int 0), (1, .int 0), (0, .ref 69)]) rfl rfl rfl rfl ?_
    refine ev_loc f_X12_reckons (nx := 32) rfl rfl rfl rfl ?_
    refine ev_f f_X12_reckons (t1 := 158) (t2 := 35) rfl rfl rfl (by decide) ?_
    refine ev_loc f_X12_reckons (nx := 36) rfl rfl rfl rfl ?_
    refine ev_loc f_X12_reckons (nx := 37) rfl rfl rfl rfl ?_
    refine ev_ic f_X12_reckons (nx := 38) (v := 1) rfl (by decide) rfl ?_
    refine ev_aluvI f_X12_reckons (nx := 39) (w := 1) rfl rfl rfl (by decide) rfl ?_
    refine ev_loc f_X12_reckons (nx := 40) rfl rfl rfl rfl ?_
    refine ev_loc f_X12_reckons (nx := 41) rfl rfl rfl rfl ?_
    refine ev_loc f_X12_reckons (nx := 43) rfl rfl rfl rfl ?_
    refine ev_inV5 f_X12_reckons (nx := 46) (lo2 := [(0, .ref 69), (1, .int 1), (2, .int 1), (3, .int 0), (4, .int 0)]) rfl rfl rfl rfl f_X12_leftAt (hW.s rfl) rfl rfl rfl rfl rfl ?_
    refine ev_loc f_X12_leftAt (nx := 1) rfl rfl rfl rfl ?_
    refine ev_loc f_X12_leftAt (nx := 2) rfl rfl rfl rfl ?_
    refine ev_gvI f_X12_leftAt (nx := 5) (w := 0) rfl (hW.s rfl) rfl rfl h44 rfl ?_
    refine ev_t f_X12_leftAt (t1 := 8) (t2 := 19) rfl rfl rfl (by decide) ?_
    refine ev_loc f_X12_leftAt (nx := 10) rfl rfl rfl rfl ?_
    refine ev_loc f_X12_leftAt (nx := 11) rfl rfl rfl rfl ?_
    refine ev_gvI f_X12_leftAt (nx := 14) (w := 0) rfl (hW.s rfl) rfl rfl h45 rfl ?_
    refine ev_t f_X12_leftAt (t1 := 17) (t2 := 19) rfl rfl rfl (by decide) ?_
    refine ev_ic f_X12_leftAt (nx := 18) (v := 0) rfl (by decide) rfl ?_
    refine ev_retK1 f_X12_leftAt rfl rfl rfl ?_
    refine ev_loc f_X12_reckons (nx := 47) rfl rfl rfl rfl ?_
    refine ev_loc f_X12_reckons (nx := 48) rfl rfl rfl rfl ?_
    refine ev_loc f_X12_reckons (nx := 49) rfl rfl rfl rfl ?_
    refine ev_loc f_X12_reckons (nx := 50) rfl rfl rfl rfl ?_
    refine ev_loc f_X12_reckons (nx := 51) rfl rfl rfl rfl ?_
    refine ev_getI f_X12_reckons (nx := 54) rfl (hW.s rfl) rfl rfl rfl ?_
    refine ev_inV3 f_X12_reckons (nx := 57) (lo2 := [(0, .ref 69), (1, .int 0), (2, .int (gi 69 48))]) rfl rfl rfl rfl f_X12_turnTime (hW.s rfl) rfl rfl rfl rfl rfl ?_
    refine ev_loc f_X12_turnTime (nx := 1) rfl rfl rfl rfl ?_
    refine ev_loc f_X12_turnTime (nx := 2) rfl rfl rfl rfl ?_
    refine ev_getR f_X12_turnTime (nx := 5) rfl (hW.s rfl) rfl rfl (hW.r rfl) rfl rfl ?_
    refine ev_ic f_X12_turnTime (nx := 6) (v := 5) rfl (by decide) rfl ?_
    refine ev_ialdv f_X12_turnTime (nx := 7) (j := 5) (w := 0) rfl (hW.s rfl) (by decide) (by decide) (by decide) h5 rfl ?_
    refine ev_t f_X12_turnTime (t1 := 30) (t2 := 10) rfl rfl rfl (by decide) ?_
    refine ev_ic f_X12_turnTime (nx := 31) (v := 0) rfl (by decide) rfl ?_
    refine ev_alu f_X12_turnTime (nx := 32) rfl rfl rfl rfl ?_
    refine ev_retK1 f_X12_turnTime rfl rfl rfl ?_
    refine ev_alu f_X12_reckons (nx := 58) rfl rfl rfl rfl ?_
    refine ev_ic f_X12_reckons (nx := 59) (v := 1) rfl (by decide) rfl ?_
    refine ev_loc f_X12_reckons (nx := 60) rfl rfl rfl rfl ?_
    refine ev_aluvI f_X12_reckons (nx := 61) (w := 0) rfl rfl rfl (by decide) rfl ?_
    refine ev_loc f_X12_reckons (nx := 62) rfl rfl rfl rfl ?_
    refine ev_loc f_X12_reckons (nx := 64) rfl rfl rfl rfl ?_
    refine ev_inV5 f_X12_reckons (nx := 67) (lo2 := [(0, .ref 69), (1, .int ((0 + (gi 69 48 + 0)))), (2, .int 0), (3, .int 0), (4, .int 0)]) rfl rfl rfl rfl f_X12_leftAt (hW.s rfl) rfl rfl rfl rfl rfl ?_
    refine ev_loc f_X12_leftAt (nx := 1) rfl rfl rfl rfl ?_
    refine ev_loc f_X12_leftAt (nx := 2) rfl rfl rfl rfl ?_
    refine ev_gvI f_X12_leftAt (nx := 5) (w := 0) rfl (hW.s rfl) rfl rfl h44 rfl ?_
    refine ev_t f_X12_leftAt (t1 := 8) (t2 := 19) rfl rfl rfl (by decide) ?_
    refine ev_loc f_X12_leftAt (nx := 10) rfl rfl rfl rfl ?_
    refine ev_loc f_X12_leftAt (nx := 11) rfl rfl rfl rfl ?_
    refine ev_gvI f_X12_leftAt (nx := 14) (w := 0) rfl (hW.s rfl) rfl rfl h45 rfl ?_
    refine ev_t f_X12_leftAt (t1 := 17) (t2 := 19) rfl rfl rfl (by decide) ?_
    refine ev_ic f_X12_leftAt (nx := 18) (v := 0) rfl (by decide) rfl ?_
    refine ev_retK1 f_X12_leftAt rfl rfl rfl ?_
    refine ev_mmv f_X12_reckons (nx := 70) (w := 0) rfl rfl rfl (by omega) rfl (by decide) rfl ?_
    refine ev_loc f_X12_reckons (nx := 72) (lo' := [(5, .int 0), (4, .int 0), (3, .int 0), (2, .int 1), (1, .int 0), (0, .ref 69)]) rfl rfl rfl rfl ?_
    refine ev_loc f_X12_reckons (nx := 73) rfl rfl rfl rfl ?_
    refine ev_loc f_X12_reckons (nx := 74) rfl rfl rfl rfl ?_
    refine ev_loc f_X12_reckons (nx := 75) rfl rfl rfl rfl ?_
    refine ev_loc f_X12_reckons (nx := 76) rfl rfl rfl rfl ?_
    refine ev_inV4 f_X12_reckons (nx := 79) (lo2 := [(0, .ref 69), (1, .int 0), (2, .int 1), (3, .int 0)]) rfl rfl rfl rfl f_X12_mayShip (hW.s rfl) rfl rfl rfl rfl rfl ?_
    refine ev_loc f_X12_mayShip (nx := 1) rfl rfl rfl rfl ?_
    refine ev_f f_X12_mayShip (t1 := 27) (t2 := 4) rfl rfl rfl (by decide) ?_
    refine ev_loc f_X12_mayShip (nx := 5) rfl rfl rfl rfl ?_
    refine ev_loc f_X12_mayShip (nx := 6) rfl rfl rfl rfl ?_
    refine ev_gvI f_X12_mayShip (nx := 9) (w := 0) rfl (hW.s rfl) rfl rfl h44 rfl ?_
    refine ev_t f_X12_mayShip (t1 := 27) (t2 := 12) rfl rfl rfl (by decide) ?_
    refine ev_ic f_X12_mayShip (nx := 28) (v := 0) rfl (by decide) rfl ?_
    refine ev_retK1 f_X12_mayShip rfl rfl rfl ?_
    refine ev_t f_X12_reckons (t1 := 97) (t2 := 82) rfl rfl rfl (by decide) ?_
    refine ev_loc f_X12_reckons (nx := 98) rfl rfl rfl rfl ?_
    refine ev_loc f_X12_reckons (nx := 99) rfl rfl rfl rfl ?_
    refine ev_loc f_X12_reckons (nx := 100) rfl rfl rfl rfl ?_
    refine ev_loc f_X12_reckons (nx := 102) rfl rfl rfl rfl ?_
    refine ev_inV4 f_X12_reckons (nx := 105) (lo2 := [(0, .ref 69), (1, .int 0), (2, .int 1), (3, .int 0)]) rfl rfl rfl rfl f_X12_mayCart (hW.s rfl) rfl rfl rfl rfl rfl ?_
    refine ev_loc f_X12_mayCart (nx := 1) rfl rfl rfl rfl ?_
    refine ev_f f_X12_mayCart (t1 := 4) (t2 := 34) rfl rfl rfl (by decide) ?_
    refine ev_ic f_X12_mayCart (nx := 35) (v := 0) rfl (by decide) rfl ?_
    refine ev_retK1 f_X12_mayCart rfl rfl rfl ?_
    refine ev_t f_X12_reckons (t1 := 123) (t2 := 108) rfl rfl rfl (by decide) ?_
    refine ev_loc f_X12_reckons (nx := 124) rfl rfl rfl rfl ?_
    refine ev_getR f_X12_reckons (nx := 127) rfl (hW.s rfl) rfl rfl (hW.r rfl) rfl rfl ?_
    refine ev_loc f_X12_reckons (nx := 128) rfl rfl rfl rfl ?_
    refine ev_loc f_X12_reckons (nx := 129) rfl rfl rfl rfl ?_
    refine ev_loc f_X12_reckons (nx := 130) rfl rfl rfl rfl ?_
    refine ev_loc f_X12_reckons (nx := 132) rfl rfl rfl rfl ?_
    refine ev_inS4 f_X12_reckons (nx := 135) (lo2 := [(0, .int 0), (1, .int 1), (2, .int 0), (3, .int 0)]) rfl rfl rfl rfl f_X12_stateOf rfl rfl rfl rfl ?_
    refine ev_ic f_X12_stateOf (nx := 1) (v := 2) rfl (by decide) rfl ?_
    refine ev_loc f_X12_stateOf (nx := 2) rfl rfl rfl rfl ?_
    refine ev_aluvI f_X12_stateOf (nx := 3) (w := 0) rfl rfl rfl (by decide) rfl ?_
    refine ev_loc f_X12_stateOf (nx := 4) rfl rfl rfl rfl ?_
    refine ev_aluvI f_X12_stateOf (nx := 5) (w := 1) rfl rfl rfl (by decide) rfl ?_
    refine ev_bp f_X12_stateOf (nx := 7) (v := 7) rfl (by decide) rfl ?_
    refine ev_aluvI f_X12_stateOf (nx := 8) (w := 7) rfl rfl rfl (by decide) rfl ?_
    refine ev_loc f_X12_stateOf (nx := 9) rfl rfl rfl rfl ?_
    refine ev_aluvI f_X12_stateOf (nx := 10) (w := 7) rfl rfl rfl (by decide) rfl ?_
    refine ev_bp f_X12_stateOf (nx := 12) (v := 7) rfl (by decide) rfl ?_
    refine ev_aluvI f_X12_stateOf (nx := 13) (w := 49) rfl rfl rfl (by decide) rfl ?_
    refine ev_loc f_X12_stateOf (nx := 14) rfl rfl rfl rfl ?_
    refine ev_aluvI f_X12_stateOf (nx := 15) (w := 49) rfl rfl rfl (by decide) rfl ?_
    refine ev_retK1 f_X12_stateOf rfl rfl rfl ?_
    refine ev_loc f_X12_reckons (nx := 137) rfl rfl rfl rfl ?_
    refine ev_ldW f_X12_reckons (nx := 140) (v := 1000000000) rfl (by decide) rfl ?_
    refine ev_f f_X12_reckons (t1 := 148) (t2 := 143) rfl rfl rfl (by decide) ?_
    refine ev_loc f_X12_reckons (nx := 145) rfl rfl rfl rfl ?_
    refine ev_jmp f_X12_reckons (nx := 151) rfl rfl rfl ?_
    refine ev_iast0 f_X12_reckons (nx := 152) (j := 49) rfl (hW.s rfl) (by decide) (by decide) (by decide) hL rfl ?_
    refine ev_incv f_X12_reckons (nx := 155) (c := -1) (w := -1) (lo' := [(4, .int (-1)), (5, .int 0), (3, .int 0), (2, .int 1), (1, .int 0), (0, .ref 69)]) rfl rfl (by decide) (by decide) rfl rfl rfl ?_
    refine ev_jmp f_X12_reckons (nx := 30) rfl rfl rfl ?_
    refine ev_loc f_X12_reckons (nx := 32) rfl rfl rfl rfl ?_
    refine ev_t f_X12_reckons (t1 := 158) (t2 := 35) rfl rfl rfl (by decide) ?_
    refine ev_incv f_X12_reckons (nx := 161) (c := -1) (w := -1) (lo' := [(3, .int (-1)), (4, .int (-1)), (5, .int 0), (2, .int 1), (1, .int 0), (0, .ref 69)]) rfl rfl (by decide) (by decide) rfl rfl rfl ?_
    refine ev_jmp f_X12_reckons (nx := 20) rfl rfl rfl ?_
    refine ev_loc f_X12_reckons (nx := 21) rfl rfl rfl rfl ?_
    refine ev_t f_X12_reckons (t1 := 164) (t2 := 24) rfl rfl rfl (by decide) ?_
    refine ev_incv f_X12_reckons (nx := 167) (c := 1) (w := 2) (lo' := [(2, .int 2), (3, .int (-1)), (4, .int (-1)), (5, .int 0), (1, .int 0), (0, .ref 69)]) rfl rfl (by decide) (by decide) rfl rfl rfl ?_
    refine ev_jmp f_X12_reckons (nx := 10) rfl rfl rfl ?_
    refine ev_loc f_X12_reckons (nx := 11) rfl rfl rfl rfl ?_
    refine ev_ic f_X12_reckons (nx := 12) (v := 2) rfl (by decide) rfl ?_
    refine ev_t f_X12_reckons (t1 := 170) (t2 := 15) rfl rfl rfl (by decide) ?_
    refine ev_incv f_X12_reckons (nx := 173) (c := -1) (w := -1) (lo' := [(1, .int (-1)), (2, .int 2), (3, .int (-1)), (4, .int (-1)), (5, .int 0), (0, .ref 69)]) rfl rfl (by decide) (by decide) rfl rfl rfl ?_
    refine ev_jmp f_X12_reckons (nx := 4) rfl rfl rfl ?_
    exact l_rk_e hW h44 h45
  | succ i ih =>
    intro hi
    have qi : (nI (i + 1)).toInt = ((i + 1 : Nat) : Int) := nI_toInt (by omega)
    refine ev_loc f_X12_reckons (nx := 5) rfl rfl rfl rfl ?_
    refine ev_f f_X12_reckons (t1 := 176) (t2 := 8) rfl rfl rfl (by rw [Int32.lt_iff_toInt_lt, qi, (by decide : (0 : Int32).toInt = 0)]; omega) ?_
    refine ev_ic f_X12_reckons (nx := 9) (v := 0) rfl (by decide) rfl ?_
    refine ev_loc f_X12_reckons (nx := 10) (lo' := [(2, .int 0), (1, .int (nI (i + 1))), (3, .int (-1)), (4, .int (-1)), (5, .int 0), (0, .ref 69)]) rfl rfl rfl rfl ?_
    refine ev_loc f_X12_reckons (nx := 11) rfl rfl rfl rfl ?_
    refine ev_ic f_X12_reckons (nx := 12) (v := 2) rfl (by decide) rfl ?_
    refine ev_f f_X12_reckons (t1 := 170) (t2 := 15) rfl rfl rfl (by decide) ?_
    refine ev_loc f_X12_reckons (nx := 16) rfl rfl rfl rfl ?_
    refine ev_gvI f_X12_reckons (nx := 19) (w := 0) rfl (hW.s rfl) rfl rfl h44 rfl ?_
    refine ev_loc f_X12_reckons (nx := 20) (lo' := [(3, .int 0), (2, .int 0), (1, .int (nI (i + 1))), (4, .int (-1)), (5, .int 0), (0, .ref 69)]) rfl rfl rfl rfl ?_
    refine ev_loc f_X12_reckons (nx := 21) rfl rfl rfl rfl ?_
    refine ev_f f_X12_reckons (t1 := 164) (t2 := 24) rfl rfl rfl (by decide) ?_
    refine ev_loc f_X12_reckons (nx := 25) rfl rfl rfl rfl ?_
    refine ev_gvI f_X12_reckons (nx := 28) (w := 0) rfl (hW.s rfl) rfl rfl h45 rfl ?_
    refine ev_loc f_X12_reckons (nx := 30) (lo' := [(4, .int 0), (3, .int 0), (2, .int 0), (1, .int (nI (i + 1))), (5, .int 0), (0, .ref 69)]) rfl rfl rfl rfl ?_
    refine ev_loc f_X12_reckons (nx := 32) rfl rfl rfl rfl ?_
    refine ev_f f_X12_reckons (t1 := 158) (t2 := 35) rfl rfl rfl (by decide) ?_
    refine ev_loc f_X12_reckons (nx := 36) rfl rfl rfl rfl ?_
    refine ev_loc f_X12_reckons (nx := 37) rfl rfl rfl rfl ?_
    refine ev_ic f_X12_reckons (nx := 38) (v := 1) rfl (by decide) rfl ?_
    refine ev_alu f_X12_reckons (nx := 39) rfl rfl rfl rfl ?_
    refine ev_loc f_X12_reckons (nx := 40) rfl rfl rfl rfl ?_
    refine ev_loc f_X12_reckons (nx := 41) rfl rfl rfl rfl ?_
    refine ev_loc f_X12_reckons (nx := 43) rfl rfl rfl rfl ?_
    refine ev_inV5 f_X12_reckons (nx := 46) (lo2 := [(0, .ref 69), (1, .int ((nI (i + 1) + 1))), (2, .int 0), (3, .int 0), (4, .int 0)]) rfl rfl rfl rfl f_X12_leftAt (hW.s rfl) rfl rfl rfl rfl rfl ?_
    refine ev_loc f_X12_leftAt (nx := 1) rfl rfl rfl rfl ?_
    refine ev_loc f_X12_leftAt (nx := 2) rfl rfl rfl rfl ?_
    refine ev_gvI f_X12_leftAt (nx := 5) (w := 0) rfl (hW.s rfl) rfl rfl h44 rfl ?_
    refine ev_t f_X12_leftAt (t1 := 8) (t2 := 19) rfl rfl rfl (by decide) ?_
    refine ev_loc f_X12_leftAt (nx := 10) rfl rfl rfl rfl ?_
    refine ev_loc f_X12_leftAt (nx := 11) rfl rfl rfl rfl ?_
    refine ev_gvI f_X12_leftAt (nx := 14) (w := 0) rfl (hW.s rfl) rfl rfl h45 rfl ?_
    refine ev_t f_X12_leftAt (t1 := 17) (t2 := 19) rfl rfl rfl (by decide) ?_
    refine ev_ic f_X12_leftAt (nx := 18) (v := 0) rfl (by decide) rfl ?_
    refine ev_retK1 f_X12_leftAt rfl rfl rfl ?_
    refine ev_loc f_X12_reckons (nx := 47) rfl rfl rfl rfl ?_
    refine ev_loc f_X12_reckons (nx := 48) rfl rfl rfl rfl ?_
    refine ev_loc f_X12_reckons (nx := 49) rfl rfl rfl rfl ?_
    refine ev_loc f_X12_reckons (nx := 50) rfl rfl rfl rfl ?_
    refine ev_loc f_X12_reckons (nx := 51) rfl rfl rfl rfl ?_
    refine ev_getI f_X12_reckons (nx := 54) rfl (hW.s rfl) rfl rfl rfl ?_
    refine ev_inV3 f_X12_reckons (nx := 57) (lo2 := [(0, .ref 69), (1, .int (nI (i + 1))), (2, .int (gi 69 48))]) rfl rfl rfl rfl f_X12_turnTime (hW.s rfl) rfl rfl rfl rfl rfl ?_
    refine ev_loc f_X12_turnTime (nx := 1) rfl rfl rfl rfl ?_
    refine ev_loc f_X12_turnTime (nx := 2) rfl rfl rfl rfl ?_
    refine ev_getR f_X12_turnTime (nx := 5) rfl (hW.s rfl) rfl rfl (hW.r rfl) rfl rfl ?_
    refine ev_ic f_X12_turnTime (nx := 6) (v := 5) rfl (by decide) rfl ?_
    refine ev_ialdv f_X12_turnTime (nx := 7) (j := 5) (w := 0) rfl (hW.s rfl) (by decide) (by decide) (by decide) h5 rfl ?_
    refine ev_t f_X12_turnTime (t1 := 30) (t2 := 10) rfl rfl rfl (by decide) ?_
    refine ev_ic f_X12_turnTime (nx := 31) (v := 0) rfl (by decide) rfl ?_
    refine ev_alu f_X12_turnTime (nx := 32) rfl rfl rfl rfl ?_
    refine ev_retK1 f_X12_turnTime rfl rfl rfl ?_
    refine ev_alu f_X12_reckons (nx := 58) rfl rfl rfl rfl ?_
    refine ev_ic f_X12_reckons (nx := 59) (v := 1) rfl (by decide) rfl ?_
    refine ev_loc f_X12_reckons (nx := 60) rfl rfl rfl rfl ?_
    refine ev_aluvI f_X12_reckons (nx := 61) (w := 1) rfl rfl rfl (by decide) rfl ?_
    refine ev_loc f_X12_reckons (nx := 62) rfl rfl rfl rfl ?_
    refine ev_loc f_X12_reckons (nx := 64) rfl rfl rfl rfl ?_
    refine ev_inV5 f_X12_reckons (nx := 67) (lo2 := [(0, .ref 69), (1, .int ((nI (i + 1) + (gi 69 48 + 0)))), (2, .int 1), (3, .int 0), (4, .int 0)]) rfl rfl rfl rfl f_X12_leftAt (hW.s rfl) rfl rfl rfl rfl rfl ?_
    refine ev_loc f_X12_leftAt (nx := 1) rfl rfl rfl rfl ?_
    refine ev_loc f_X12_leftAt (nx := 2) rfl rfl rfl rfl ?_
    refine ev_gvI f_X12_leftAt (nx := 5) (w := 0) rfl (hW.s rfl) rfl rfl h44 rfl ?_
    refine ev_t f_X12_leftAt (t1 := 8) (t2 := 19) rfl rfl rfl (by decide) ?_
    refine ev_loc f_X12_leftAt (nx := 10) rfl rfl rfl rfl ?_
    refine ev_loc f_X12_leftAt (nx := 11) rfl rfl rfl rfl ?_
    refine ev_gvI f_X12_leftAt (nx := 14) (w := 0) rfl (hW.s rfl) rfl rfl h45 rfl ?_
    refine ev_t f_X12_leftAt (t1 := 17) (t2 := 19) rfl rfl rfl (by decide) ?_
    refine ev_ic f_X12_leftAt (nx := 18) (v := 0) rfl (by decide) rfl ?_
    refine ev_retK1 f_X12_leftAt rfl rfl rfl ?_
    refine ev_mmv f_X12_reckons (nx := 70) (w := 0) rfl rfl rfl (by omega) rfl (by decide) rfl ?_
    refine ev_loc f_X12_reckons (nx := 72) (lo' := [(5, .int 0), (4, .int 0), (3, .int 0), (2, .int 0), (1, .int (nI (i + 1))), (0, .ref 69)]) rfl rfl rfl rfl ?_
    refine ev_loc f_X12_reckons (nx := 73) rfl rfl rfl rfl ?_
    refine ev_loc f_X12_reckons (nx := 74) rfl rfl rfl rfl ?_
    refine ev_loc f_X12_reckons (nx := 75) rfl rfl rfl rfl ?_
    refine ev_loc f_X12_reckons (nx := 76) rfl rfl rfl rfl ?_
    refine ev_inV4 f_X12_reckons (nx := 79) (lo2 := [(0, .ref 69), (1, .int (nI (i + 1))), (2, .int 0), (3, .int 0)]) rfl rfl rfl rfl f_X12_mayShip (hW.s rfl) rfl rfl rfl rfl rfl ?_
    refine ev_loc f_X12_mayShip (nx := 1) rfl rfl rfl rfl ?_
    refine ev_t f_X12_mayShip (t1 := 27) (t2 := 4) rfl rfl rfl (by decide) ?_
    refine ev_ic f_X12_mayShip (nx := 28) (v := 0) rfl (by decide) rfl ?_
    refine ev_retK1 f_X12_mayShip rfl rfl rfl ?_
    refine ev_t f_X12_reckons (t1 := 97) (t2 := 82) rfl rfl rfl (by decide) ?_
    refine ev_loc f_X12_reckons (nx := 98) rfl rfl rfl rfl ?_
    refine ev_loc f_X12_reckons (nx := 99) rfl rfl rfl rfl ?_
    refine ev_loc f_X12_reckons (nx := 100) rfl rfl rfl rfl ?_
    refine ev_loc f_X12_reckons (nx := 102) rfl rfl rfl rfl ?_
    refine ev_inV4 f_X12_reckons (nx := 105) (lo2 := [(0, .ref 69), (1, .int (nI (i + 1))), (2, .int 0), (3, .int 0)]) rfl rfl rfl rfl f_X12_mayCart (hW.s rfl) rfl rfl rfl rfl rfl ?_
    refine ev_loc f_X12_mayCart (nx := 1) rfl rfl rfl rfl ?_
    refine ev_t f_X12_mayCart (t1 := 4) (t2 := 34) rfl rfl rfl (by decide) ?_
    refine ev_loc f_X12_mayCart (nx := 5) rfl rfl rfl rfl ?_
    refine ev_loc f_X12_mayCart (nx := 6) rfl rfl rfl rfl ?_
    refine ev_gvI f_X12_mayCart (nx := 9) (w := 0) rfl (hW.s rfl) rfl rfl h45 rfl ?_
    refine ev_t f_X12_mayCart (t1 := 34) (t2 := 12) rfl rfl rfl (by decide) ?_
    refine ev_ic f_X12_mayCart (nx := 35) (v := 0) rfl (by decide) rfl ?_
    refine ev_retK1 f_X12_mayCart rfl rfl rfl ?_
    refine ev_t f_X12_reckons (t1 := 123) (t2 := 108) rfl rfl rfl (by decide) ?_
    refine ev_loc f_X12_reckons (nx := 124) rfl rfl rfl rfl ?_
    refine ev_getR f_X12_reckons (nx := 127) rfl (hW.s rfl) rfl rfl (hW.r rfl) rfl rfl ?_
    refine ev_loc f_X12_reckons (nx := 128) rfl rfl rfl rfl ?_
    refine ev_loc f_X12_reckons (nx := 129) rfl rfl rfl rfl ?_
    refine ev_loc f_X12_reckons (nx := 130) rfl rfl rfl rfl ?_
    refine ev_loc f_X12_reckons (nx := 132) rfl rfl rfl rfl ?_
    refine ev_inS4 f_X12_reckons (nx := 135) (lo2 := [(0, .int (nI (i + 1))), (1, .int 0), (2, .int 0), (3, .int 0)]) rfl rfl rfl rfl f_X12_stateOf rfl rfl rfl rfl ?_
    refine ev_ic f_X12_stateOf (nx := 1) (v := 2) rfl (by decide) rfl ?_
    refine ev_loc f_X12_stateOf (nx := 2) rfl rfl rfl rfl ?_
    refine ev_alu f_X12_stateOf (nx := 3) rfl rfl rfl rfl ?_
    refine ev_loc f_X12_stateOf (nx := 4) rfl rfl rfl rfl ?_
    refine ev_alu f_X12_stateOf (nx := 5) rfl rfl rfl rfl ?_
    refine ev_bp f_X12_stateOf (nx := 7) (v := 7) rfl (by decide) rfl ?_
    refine ev_alu f_X12_stateOf (nx := 8) rfl rfl rfl rfl ?_
    refine ev_loc f_X12_stateOf (nx := 9) rfl rfl rfl rfl ?_
    refine ev_alu f_X12_stateOf (nx := 10) rfl rfl rfl rfl ?_
    refine ev_bp f_X12_stateOf (nx := 12) (v := 7) rfl (by decide) rfl ?_
    refine ev_alu f_X12_stateOf (nx := 13) rfl rfl rfl rfl ?_
    refine ev_loc f_X12_stateOf (nx := 14) rfl rfl rfl rfl ?_
    refine ev_alu f_X12_stateOf (nx := 15) rfl rfl rfl rfl ?_
    refine ev_retK1 f_X12_stateOf rfl rfl rfl ?_
    refine ev_loc f_X12_reckons (nx := 137) rfl rfl rfl rfl ?_
    refine ev_ldW f_X12_reckons (nx := 140) (v := 1000000000) rfl (by decide) rfl ?_
    refine ev_f f_X12_reckons (t1 := 148) (t2 := 143) rfl rfl rfl (by decide) ?_
    refine ev_loc f_X12_reckons (nx := 145) rfl rfl rfl rfl ?_
    refine ev_jmp f_X12_reckons (nx := 151) rfl rfl rfl ?_
    refine ev_iast0 f_X12_reckons (nx := 152) (j := (2 * (i + 1) + 0) * 49) rfl (hW.s rfl) (so_ix0 (i + 1)) (by omega) (by decide) hL rfl ?_
    refine ev_incv f_X12_reckons (nx := 155) (c := -1) (w := -1) (lo' := [(4, .int (-1)), (5, .int 0), (3, .int 0), (2, .int 0), (1, .int (nI (i + 1))), (0, .ref 69)]) rfl rfl (by decide) (by decide) rfl rfl rfl ?_
    refine ev_jmp f_X12_reckons (nx := 30) rfl rfl rfl ?_
    refine ev_loc f_X12_reckons (nx := 32) rfl rfl rfl rfl ?_
    refine ev_t f_X12_reckons (t1 := 158) (t2 := 35) rfl rfl rfl (by decide) ?_
    refine ev_incv f_X12_reckons (nx := 161) (c := -1) (w := -1) (lo' := [(3, .int (-1)), (4, .int (-1)), (5, .int 0), (2, .int 0), (1, .int (nI (i + 1))), (0, .ref 69)]) rfl rfl (by decide) (by decide) rfl rfl rfl ?_
    refine ev_jmp f_X12_reckons (nx := 20) rfl rfl rfl ?_
    refine ev_loc f_X12_reckons (nx := 21) rfl rfl rfl rfl ?_
    refine ev_t f_X12_reckons (t1 := 164) (t2 := 24) rfl rfl rfl (by decide) ?_
    refine ev_incv f_X12_reckons (nx := 167) (c := 1) (w := 1) (lo' := [(2, .int 1), (3, .int (-1)), (4, .int (-1)), (5, .int 0), (1, .int (nI (i + 1))), (0, .ref 69)]) rfl rfl (by decide) (by decide) rfl rfl rfl ?_
    refine ev_jmp f_X12_reckons (nx := 10) rfl rfl rfl ?_
    refine ev_loc f_X12_reckons (nx := 11) rfl rfl rfl rfl ?_
    refine ev_ic f_X12_reckons (nx := 12) (v := 2) rfl (by decide) rfl ?_
    refine ev_f f_X12_reckons (t1 := 170) (t2 := 15) rfl rfl rfl (by decide) ?_
    refine ev_loc f_X12_reckons (nx := 16) rfl rfl rfl rfl ?_
    refine ev_gvI f_X12_reckons (nx := 19) (w := 0) rfl (hW.s rfl) rfl rfl h44 rfl ?_
    refine ev_loc f_X12_reckons (nx := 20) (lo' := [(3, .int 0), (2, .int 1), (4, .int (-1)), (5, .int 0), (1, .int (nI (i + 1))), (0, .ref 69)]) rfl rfl rfl rfl ?_
    refine ev_loc f_X12_reckons (nx := 21) rfl rfl rfl rfl ?_
    refine ev_f f_X12_reckons (t1 := 164) (t2 := 24) rfl rfl rfl (by decide) ?_
    refine ev_loc f_X12_reckons (nx := 25) rfl rfl rfl rfl ?_
    refine ev_gvI f_X12_reckons (nx := 28) (w := 0) rfl (hW.s rfl) rfl rfl h45 rfl ?_
    refine ev_loc f_X12_reckons (nx := 30) (lo' := [(4, .int 0), (3, .int 0), (2, .int 1), (5, .int 0), (1, .int (nI (i + 1))), (0, .ref 69)]) rfl rfl rfl rfl ?_
    refine ev_loc f_X12_reckons (nx := 32) rfl rfl rfl rfl ?_
    refine ev_f f_X12_reckons (t1 := 158) (t2 := 35) rfl rfl rfl (by decide) ?_
    refine ev_loc f_X12_reckons (nx := 36) rfl rfl rfl rfl ?_
    refine ev_loc f_X12_reckons (nx := 37) rfl rfl rfl rfl ?_
    refine ev_ic f_X12_reckons (nx := 38) (v := 1) rfl (by decide) rfl ?_
    refine ev_alu f_X12_reckons (nx := 39) rfl rfl rfl rfl ?_
    refine ev_loc f_X12_reckons (nx := 40) rfl rfl rfl rfl ?_
    refine ev_loc f_X12_reckons (nx := 41) rfl rfl rfl rfl ?_
    refine ev_loc f_X12_reckons (nx := 43) rfl rfl rfl rfl ?_
    refine ev_inV5 f_X12_reckons (nx := 46) (lo2 := [(0, .ref 69), (1, .int ((nI (i + 1) + 1))), (2, .int 1), (3, .int 0), (4, .int 0)]) rfl rfl rfl rfl f_X12_leftAt (hW.s rfl) rfl rfl rfl rfl rfl ?_
    refine ev_loc f_X12_leftAt (nx := 1) rfl rfl rfl rfl ?_
    refine ev_loc f_X12_leftAt (nx := 2) rfl rfl rfl rfl ?_
    refine ev_gvI f_X12_leftAt (nx := 5) (w := 0) rfl (hW.s rfl) rfl rfl h44 rfl ?_
    refine ev_t f_X12_leftAt (t1 := 8) (t2 := 19) rfl rfl rfl (by decide) ?_
    refine ev_loc f_X12_leftAt (nx := 10) rfl rfl rfl rfl ?_
    refine ev_loc f_X12_leftAt (nx := 11) rfl rfl rfl rfl ?_
    refine ev_gvI f_X12_leftAt (nx := 14) (w := 0) rfl (hW.s rfl) rfl rfl h45 rfl ?_
    refine ev_t f_X12_leftAt (t1 := 17) (t2 := 19) rfl rfl rfl (by decide) ?_
    refine ev_ic f_X12_leftAt (nx := 18) (v := 0) rfl (by decide) rfl ?_
    refine ev_retK1 f_X12_leftAt rfl rfl rfl ?_
    refine ev_loc f_X12_reckons (nx := 47) rfl rfl rfl rfl ?_
    refine ev_loc f_X12_reckons (nx := 48) rfl rfl rfl rfl ?_
    refine ev_loc f_X12_reckons (nx := 49) rfl rfl rfl rfl ?_
    refine ev_loc f_X12_reckons (nx := 50) rfl rfl rfl rfl ?_
    refine ev_loc f_X12_reckons (nx := 51) rfl rfl rfl rfl ?_
    refine ev_getI f_X12_reckons (nx := 54) rfl (hW.s rfl) rfl rfl rfl ?_
    refine ev_inV3 f_X12_reckons (nx := 57) (lo2 := [(0, .ref 69), (1, .int (nI (i + 1))), (2, .int (gi 69 48))]) rfl rfl rfl rfl f_X12_turnTime (hW.s rfl) rfl rfl rfl rfl rfl ?_
    refine ev_loc f_X12_turnTime (nx := 1) rfl rfl rfl rfl ?_
    refine ev_loc f_X12_turnTime (nx := 2) rfl rfl rfl rfl ?_
    refine ev_getR f_X12_turnTime (nx := 5) rfl (hW.s rfl) rfl rfl (hW.r rfl) rfl rfl ?_
    refine ev_ic f_X12_turnTime (nx := 6) (v := 5) rfl (by decide) rfl ?_
    refine ev_ialdv f_X12_turnTime (nx := 7) (j := 5) (w := 0) rfl (hW.s rfl) (by decide) (by decide) (by decide) h5 rfl ?_
    refine ev_t f_X12_turnTime (t1 := 30) (t2 := 10) rfl rfl rfl (by decide) ?_
    refine ev_ic f_X12_turnTime (nx := 31) (v := 0) rfl (by decide) rfl ?_
    refine ev_alu f_X12_turnTime (nx := 32) rfl rfl rfl rfl ?_
    refine ev_retK1 f_X12_turnTime rfl rfl rfl ?_
    refine ev_alu f_X12_reckons (nx := 58) rfl rfl rfl rfl ?_
    refine ev_ic f_X12_reckons (nx := 59) (v := 1) rfl (by decide) rfl ?_
    refine ev_loc f_X12_reckons (nx := 60) rfl rfl rfl rfl ?_
    refine ev_aluvI f_X12_reckons (nx := 61) (w := 0) rfl rfl rfl (by decide) rfl ?_
    refine ev_loc f_X12_reckons (nx := 62) rfl rfl rfl rfl ?_
    refine ev_loc f_X12_reckons (nx := 64) rfl rfl rfl rfl ?_
    refine ev_inV5 f_X12_reckons (nx := 67) (lo2 := [(0, .ref 69), (1, .int ((nI (i + 1) + (gi 69 48 + 0)))), (2, .int 0), (3, .int 0), (4, .int 0)]) rfl rfl rfl rfl f_X12_leftAt (hW.s rfl) rfl rfl rfl rfl rfl ?_
    refine ev_loc f_X12_leftAt (nx := 1) rfl rfl rfl rfl ?_
    refine ev_loc f_X12_leftAt (nx := 2) rfl rfl rfl rfl ?_
    refine ev_gvI f_X12_leftAt (nx := 5) (w := 0) rfl (hW.s rfl) rfl rfl h44 rfl ?_
    refine ev_t f_X12_leftAt (t1 := 8) (t2 := 19) rfl rfl rfl (by decide) ?_
    refine ev_loc f_X12_leftAt (nx := 10) rfl rfl rfl rfl ?_
    refine ev_loc f_X12_leftAt (nx := 11) rfl rfl rfl rfl ?_
    refine ev_gvI f_X12_leftAt (nx := 14) (w := 0) rfl (hW.s rfl) rfl rfl h45 rfl ?_
    refine ev_t f_X12_leftAt (t1 := 17) (t2 := 19) rfl rfl rfl (by decide) ?_
    refine ev_ic f_X12_leftAt (nx := 18) (v := 0) rfl (by decide) rfl ?_
    refine ev_retK1 f_X12_leftAt rfl rfl rfl ?_
    refine ev_mmv f_X12_reckons (nx := 70) (w := 0) rfl rfl rfl (by omega) rfl (by decide) rfl ?_
    refine ev_loc f_X12_reckons (nx := 72) (lo' := [(5, .int 0), (4, .int 0), (3, .int 0), (2, .int 1), (1, .int (nI (i + 1))), (0, .ref 69)]) rfl rfl rfl rfl ?_
    refine ev_loc f_X12_reckons (nx := 73) rfl rfl rfl rfl ?_
    refine ev_loc f_X12_reckons (nx := 74) rfl rfl rfl rfl ?_
    refine ev_loc f_X12_reckons (nx := 75) rfl rfl rfl rfl ?_
    refine ev_loc f_X12_reckons (nx := 76) rfl rfl rfl rfl ?_
    refine ev_inV4 f_X12_reckons (nx := 79) (lo2 := [(0, .ref 69), (1, .int (nI (i + 1))), (2, .int 1), (3, .int 0)]) rfl rfl rfl rfl f_X12_mayShip (hW.s rfl) rfl rfl rfl rfl rfl ?_
    refine ev_loc f_X12_mayShip (nx := 1) rfl rfl rfl rfl ?_
    refine ev_f f_X12_mayShip (t1 := 27) (t2 := 4) rfl rfl rfl (by decide) ?_
    refine ev_loc f_X12_mayShip (nx := 5) rfl rfl rfl rfl ?_
    refine ev_loc f_X12_mayShip (nx := 6) rfl rfl rfl rfl ?_
    refine ev_gvI f_X12_mayShip (nx := 9) (w := 0) rfl (hW.s rfl) rfl rfl h44 rfl ?_
    refine ev_t f_X12_mayShip (t1 := 27) (t2 := 12) rfl rfl rfl (by decide) ?_
    refine ev_ic f_X12_mayShip (nx := 28) (v := 0) rfl (by decide) rfl ?_
    refine ev_retK1 f_X12_mayShip rfl rfl rfl ?_
    refine ev_t f_X12_reckons (t1 := 97) (t2 := 82) rfl rfl rfl (by decide) ?_
    refine ev_loc f_X12_reckons (nx := 98) rfl rfl rfl rfl ?_
    refine ev_loc f_X12_reckons (nx := 99) rfl rfl rfl rfl ?_
    refine ev_loc f_X12_reckons (nx := 100) rfl rfl rfl rfl ?_
    refine ev_loc f_X12_reckons (nx := 102) rfl rfl rfl rfl ?_
    refine ev_inV4 f_X12_reckons (nx := 105) (lo2 := [(0, .ref 69), (1, .int (nI (i + 1))), (2, .int 1), (3, .int 0)]) rfl rfl rfl rfl f_X12_mayCart (hW.s rfl) rfl rfl rfl rfl rfl ?_
    refine ev_loc f_X12_mayCart (nx := 1) rfl rfl rfl rfl ?_
    refine ev_f f_X12_mayCart (t1 := 4) (t2 := 34) rfl rfl rfl (by decide) ?_
    refine ev_ic f_X12_mayCart (nx := 35) (v := 0) rfl (by decide) rfl ?_
    refine ev_retK1 f_X12_mayCart rfl rfl rfl ?_
    refine ev_t f_X12_reckons (t1 := 123) (t2 := 108) rfl rfl rfl (by decide) ?_
    refine ev_loc f_X12_reckons (nx := 124) rfl rfl rfl rfl ?_
    refine ev_getR f_X12_reckons (nx := 127) rfl (hW.s rfl) rfl rfl (hW.r rfl) rfl rfl ?_
    refine ev_loc f_X12_reckons (nx := 128) rfl rfl rfl rfl ?_
    refine ev_loc f_X12_reckons (nx := 129) rfl rfl rfl rfl ?_
    refine ev_loc f_X12_reckons (nx := 130) rfl rfl rfl rfl ?_
    refine ev_loc f_X12_reckons (nx := 132) rfl rfl rfl rfl ?_
    refine ev_inS4 f_X12_reckons (nx := 135) (lo2 := [(0, .int (nI (i + 1))), (1, .int 1), (2, .int 0), (3, .int 0)]) rfl rfl rfl rfl f_X12_stateOf rfl rfl rfl rfl ?_
    refine ev_ic f_X12_stateOf (nx := 1) (v := 2) rfl (by decide) rfl ?_
    refine ev_loc f_X12_stateOf (nx := 2) rfl rfl rfl rfl ?_
    refine ev_alu f_X12_stateOf (nx := 3) rfl rfl rfl rfl ?_
    refine ev_loc f_X12_stateOf (nx := 4) rfl rfl rfl rfl ?_
    refine ev_alu f_X12_stateOf (nx := 5) rfl rfl rfl rfl ?_
    refine ev_bp f_X12_stateOf (nx := 7) (v := 7) rfl (by decide) rfl ?_
    refine ev_alu f_X12_stateOf (nx := 8) rfl rfl rfl rfl ?_
    refine ev_loc f_X12_stateOf (nx := 9) rfl rfl rfl rfl ?_
    refine ev_alu f_X12_stateOf (nx := 10) rfl rfl rfl rfl ?_
    refine ev_bp f_X12_stateOf (nx := 12) (v := 7) rfl (by decide) rfl ?_
    refine ev_alu f_X12_stateOf (nx := 13) rfl rfl rfl rfl ?_
    refine ev_loc f_X12_stateOf (nx := 14) rfl rfl rfl rfl ?_
    refine ev_alu f_X12_stateOf (nx := 15) rfl rfl rfl rfl ?_
    refine ev_retK1 f_X12_stateOf rfl rfl rfl ?_
    refine ev_loc f_X12_reckons (nx := 137) rfl rfl rfl rfl ?_
    refine ev_ldW f_X12_reckons (nx := 140) (v := 1000000000) rfl (by decide) rfl ?_
    refine ev_f f_X12_reckons (t1 := 148) (t2 := 143) rfl rfl rfl (by decide) ?_
    refine ev_loc f_X12_reckons (nx := 145) rfl rfl rfl rfl ?_
    refine ev_jmp f_X12_reckons (nx := 151) rfl rfl rfl ?_
    refine ev_iast0 f_X12_reckons (nx := 152) (j := (2 * (i + 1) + 1) * 49) rfl (hW.s rfl) (so_ix1 (i + 1)) (by omega) (by decide) hL rfl ?_
    refine ev_incv f_X12_reckons (nx := 155) (c := -1) (w := -1) (lo' := [(4, .int (-1)), (5, .int 0), (3, .int 0), (2, .int 1), (1, .int (nI (i + 1))), (0, .ref 69)]) rfl rfl (by decide) (by decide) rfl rfl rfl ?_
    refine ev_jmp f_X12_reckons (nx := 30) rfl rfl rfl ?_
    refine ev_loc f_X12_reckons (nx := 32) rfl rfl rfl rfl ?_
    refine ev_t f_X12_reckons (t1 := 158) (t2 := 35) rfl rfl rfl (by decide) ?_
    refine ev_incv f_X12_reckons (nx := 161) (c := -1) (w := -1) (lo' := [(3, .int (-1)), (4, .int (-1)), (5, .int 0), (2, .int 1), (1, .int (nI (i + 1))), (0, .ref 69)]) rfl rfl (by decide) (by decide) rfl rfl rfl ?_
    refine ev_jmp f_X12_reckons (nx := 20) rfl rfl rfl ?_
    refine ev_loc f_X12_reckons (nx := 21) rfl rfl rfl rfl ?_
    refine ev_t f_X12_reckons (t1 := 164) (t2 := 24) rfl rfl rfl (by decide) ?_
    refine ev_incv f_X12_reckons (nx := 167) (c := 1) (w := 2) (lo' := [(2, .int 2), (3, .int (-1)), (4, .int (-1)), (5, .int 0), (1, .int (nI (i + 1))), (0, .ref 69)]) rfl rfl (by decide) (by decide) rfl rfl rfl ?_
    refine ev_jmp f_X12_reckons (nx := 10) rfl rfl rfl ?_
    refine ev_loc f_X12_reckons (nx := 11) rfl rfl rfl rfl ?_
    refine ev_ic f_X12_reckons (nx := 12) (v := 2) rfl (by decide) rfl ?_
    refine ev_t f_X12_reckons (t1 := 170) (t2 := 15) rfl rfl rfl (by decide) ?_
    refine ev_incv f_X12_reckons (nx := 173) (c := -1) (w := nI i) (lo' := [(1, .int (nI i)), (2, .int 2), (3, .int (-1)), (4, .int (-1)), (5, .int 0), (0, .ref 69)]) rfl rfl (by decide) (so_dec (i)) (by decide) rfl rfl ?_
    refine ev_jmp f_X12_reckons (nx := 4) rfl rfl rfl ?_
    exact ih (by omega)
theorem l_rk (hW : x_WF sh gr) (h44 : gi 69 44 = 0) (h45 : gi 69 45 = 0) (h5 : gi 70 5 = 0) (hL : ∀ j, j < 23716 → gi 92 j = 0) : x_Me X (d + 3) n_X12_reckons [.ref 69] (sh, gi, gl, gr) (fun v G' => v = some (.int 0) ∧ G' = (sh, gi, gl, gr)) := by
  refine me_i f_X12_reckons (hW.s rfl) rfl rfl rfl ?_
  refine ev_sp f_X12_reckons (nx := 3) (v := 240) rfl (by decide) rfl ?_
  refine ev_loc f_X12_reckons (nx := 4) rfl rfl rfl rfl ?_
  refine ev_loc f_X12_reckons (nx := 5) rfl rfl rfl rfl ?_
  refine ev_f f_X12_reckons (t1 := 176) (t2 := 8) rfl rfl rfl (by decide) ?_
  refine ev_ic f_X12_reckons (nx := 9) (v := 0) rfl (by decide) rfl ?_
  refine ev_loc f_X12_reckons (nx := 10) (lo' := [(2, .int 0), (1, .int 240), (0, .ref 69)]) rfl rfl rfl rfl ?_
  refine ev_loc f_X12_reckons (nx := 11) rfl rfl rfl rfl ?_
  refine ev_ic f_X12_reckons (nx := 12) (v := 2) rfl (by decide) rfl ?_
  refine ev_f f_X12_reckons (t1 := 170) (t2 := 15) rfl rfl rfl (by decide) ?_
  refine ev_loc f_X12_reckons (nx := 16) rfl rfl rfl rfl ?_
  refine ev_gvI f_X12_reckons (nx := 19) (w := 0) rfl (hW.s rfl) rfl rfl h44 rfl ?_
  refine ev_loc f_X12_reckons (nx := 20) (lo' := [(3, .int 0), (2, .int 0), (1, .int 240), (0, .ref 69)]) rfl rfl rfl rfl ?_
  refine ev_loc f_X12_reckons (nx := 21) rfl rfl rfl rfl ?_
  refine ev_f f_X12_reckons (t1 := 164) (t2 := 24) rfl rfl rfl (by decide) ?_
  refine ev_loc f_X12_reckons (nx := 25) rfl rfl rfl rfl ?_
  refine ev_gvI f_X12_reckons (nx := 28) (w := 0) rfl (hW.s rfl) rfl rfl h45 rfl ?_
  refine ev_loc f_X12_reckons (nx := 30) (lo' := [(4, .int 0), (3, .int 0), (2, .int 0), (1, .int 240), (0, .ref 69)]) rfl rfl rfl rfl ?_
  refine ev_loc f_X12_reckons (nx := 32) rfl rfl rfl rfl ?_
  refine ev_f f_X12_reckons (t1 := 158) (t2 := 35) rfl rfl rfl (by decide) ?_
  refine ev_loc f_X12_reckons (nx := 36) rfl rfl rfl rfl ?_
  refine ev_loc f_X12_reckons (nx := 37) rfl rfl rfl rfl ?_
  refine ev_ic f_X12_reckons (nx := 38) (v := 1) rfl (by decide) rfl ?_
  refine ev_aluvI f_X12_reckons (nx := 39) (w := 241) rfl rfl rfl (by decide) rfl ?_
  refine ev_loc f_X12_reckons (nx := 40) rfl rfl rfl rfl ?_
  refine ev_loc f_X12_reckons (nx := 41) rfl rfl rfl rfl ?_
  refine ev_loc f_X12_reckons (nx := 43) rfl rfl rfl rfl ?_
  refine ev_inV5 f_X12_reckons (nx := 46) (lo2 := [(0, .ref 69), (1, .int 241), (2, .int 0), (3, .int 0), (4, .int 0)]) rfl rfl rfl rfl f_X12_leftAt (hW.s rfl) rfl rfl rfl rfl rfl ?_
  refine ev_loc f_X12_leftAt (nx := 1) rfl rfl rfl rfl ?_
  refine ev_loc f_X12_leftAt (nx := 2) rfl rfl rfl rfl ?_
  refine ev_gvI f_X12_leftAt (nx := 5) (w := 0) rfl (hW.s rfl) rfl rfl h44 rfl ?_
  refine ev_t f_X12_leftAt (t1 := 8) (t2 := 19) rfl rfl rfl (by decide) ?_
  refine ev_loc f_X12_leftAt (nx := 10) rfl rfl rfl rfl ?_
  refine ev_loc f_X12_leftAt (nx := 11) rfl rfl rfl rfl ?_
  refine ev_gvI f_X12_leftAt (nx := 14) (w := 0) rfl (hW.s rfl) rfl rfl h45 rfl ?_
  refine ev_t f_X12_leftAt (t1 := 17) (t2 := 19) rfl rfl rfl (by decide) ?_
  refine ev_ic f_X12_leftAt (nx := 18) (v := 0) rfl (by decide) rfl ?_
  refine ev_retK1 f_X12_leftAt rfl rfl rfl ?_
  refine ev_loc f_X12_reckons (nx := 47) rfl rfl rfl rfl ?_
  refine ev_loc f_X12_reckons (nx := 48) rfl rfl rfl rfl ?_
  refine ev_loc f_X12_reckons (nx := 49) rfl rfl rfl rfl ?_
  refine ev_loc f_X12_reckons (nx := 50) rfl rfl rfl rfl ?_
  refine ev_loc f_X12_reckons (nx := 51) rfl rfl rfl rfl ?_
  refine ev_getI f_X12_reckons (nx := 54) rfl (hW.s rfl) rfl rfl rfl ?_
  refine ev_inV3 f_X12_reckons (nx := 57) (lo2 := [(0, .ref 69), (1, .int 240), (2, .int (gi 69 48))]) rfl rfl rfl rfl f_X12_turnTime (hW.s rfl) rfl rfl rfl rfl rfl ?_
  refine ev_loc f_X12_turnTime (nx := 1) rfl rfl rfl rfl ?_
  refine ev_loc f_X12_turnTime (nx := 2) rfl rfl rfl rfl ?_
  refine ev_getR f_X12_turnTime (nx := 5) rfl (hW.s rfl) rfl rfl (hW.r rfl) rfl rfl ?_
  refine ev_ic f_X12_turnTime (nx := 6) (v := 5) rfl (by decide) rfl ?_
  refine ev_ialdv f_X12_turnTime (nx := 7) (j := 5) (w := 0) rfl (hW.s rfl) (by decide) (by decide) (by decide) h5 rfl ?_
  refine ev_t f_X12_turnTime (t1 := 30) (t2 := 10) rfl rfl rfl (by decide) ?_
  refine ev_ic f_X12_turnTime (nx := 31) (v := 0) rfl (by decide) rfl ?_
  refine ev_alu f_X12_turnTime (nx := 32) rfl rfl rfl rfl ?_
  refine ev_retK1 f_X12_turnTime rfl rfl rfl ?_
  refine ev_alu f_X12_reckons (nx := 58) rfl rfl rfl rfl ?_
  refine ev_ic f_X12_reckons (nx := 59) (v := 1) rfl (by decide) rfl ?_
  refine ev_loc f_X12_reckons (nx := 60) rfl rfl rfl rfl ?_
  refine ev_aluvI f_X12_reckons (nx := 61) (w := 1) rfl rfl rfl (by decide) rfl ?_
  refine ev_loc f_X12_reckons (nx := 62) rfl rfl rfl rfl ?_
  refine ev_loc f_X12_reckons (nx := 64) rfl rfl rfl rfl ?_
  refine ev_inV5 f_X12_reckons (nx := 67) (lo2 := [(0, .ref 69), (1, .int ((240 + (gi 69 48 + 0)))), (2, .int 1), (3, .int 0), (4, .int 0)]) rfl rfl rfl rfl f_X12_leftAt (hW.s rfl) rfl rfl rfl rfl rfl ?_
  refine ev_loc f_X12_leftAt (nx := 1) rfl rfl rfl rfl ?_
  refine ev_loc f_X12_leftAt (nx := 2) rfl rfl rfl rfl ?_
  refine ev_gvI f_X12_leftAt (nx := 5) (w := 0) rfl (hW.s rfl) rfl rfl h44 rfl ?_
  refine ev_t f_X12_leftAt (t1 := 8) (t2 := 19) rfl rfl rfl (by decide) ?_
  refine ev_loc f_X12_leftAt (nx := 10) rfl rfl rfl rfl ?_
  refine ev_loc f_X12_leftAt (nx := 11) rfl rfl rfl rfl ?_
  refine ev_gvI f_X12_leftAt (nx := 14) (w := 0) rfl (hW.s rfl) rfl rfl h45 rfl ?_
  refine ev_t f_X12_leftAt (t1 := 17) (t2 := 19) rfl rfl rfl (by decide) ?_
  refine ev_ic f_X12_leftAt (nx := 18) (v := 0) rfl (by decide) rfl ?_
  refine ev_retK1 f_X12_leftAt rfl rfl rfl ?_
  refine ev_mmv f_X12_reckons (nx := 70) (w := 0) rfl rfl rfl (by omega) rfl (by decide) rfl ?_
  refine ev_loc f_X12_reckons (nx := 72) (lo' := [(5, .int 0), (4, .int 0), (3, .int 0), (2, .int 0), (1, .int 240), (0, .ref 69)]) rfl rfl rfl rfl ?_
  refine ev_loc f_X12_reckons (nx := 73) rfl rfl rfl rfl ?_
  refine ev_loc f_X12_reckons (nx := 74) rfl rfl rfl rfl ?_
  refine ev_loc f_X12_reckons (nx := 75) rfl rfl rfl rfl ?_
  refine ev_loc f_X12_reckons (nx := 76) rfl rfl rfl rfl ?_
  refine ev_inV4 f_X12_reckons (nx := 79) (lo2 := [(0, .ref 69), (1, .int 240), (2, .int 0), (3, .int 0)]) rfl rfl rfl rfl f_X12_mayShip (hW.s rfl) rfl rfl rfl rfl rfl ?_
  refine ev_loc f_X12_mayShip (nx := 1) rfl rfl rfl rfl ?_
  refine ev_t f_X12_mayShip (t1 := 27) (t2 := 4) rfl rfl rfl (by decide) ?_
  refine ev_ic f_X12_mayShip (nx := 28) (v := 0) rfl (by decide) rfl ?_
  refine ev_retK1 f_X12_mayShip rfl rfl rfl ?_
  refine ev_t f_X12_reckons (t1 := 97) (t2 := 82) rfl rfl rfl (by decide) ?_
  refine ev_loc f_X12_reckons (nx := 98) rfl rfl rfl rfl ?_
  refine ev_loc f_X12_reckons (nx := 99) rfl rfl rfl rfl ?_
  refine ev_loc f_X12_reckons (nx := 100) rfl rfl rfl rfl ?_
  refine ev_loc f_X12_reckons (nx := 102) rfl rfl rfl rfl ?_
  refine ev_inV4 f_X12_reckons (nx := 105) (lo2 := [(0, .ref 69), (1, .int 240), (2, .int 0), (3, .int 0)]) rfl rfl rfl rfl f_X12_mayCart (hW.s rfl) rfl rfl rfl rfl rfl ?_
  refine ev_loc f_X12_mayCart (nx := 1) rfl rfl rfl rfl ?_
  refine ev_t f_X12_mayCart (t1 := 4) (t2 := 34) rfl rfl rfl (by decide) ?_
  refine ev_loc f_X12_mayCart (nx := 5) rfl rfl rfl rfl ?_
  refine ev_loc f_X12_mayCart (nx := 6) rfl rfl rfl rfl ?_
  refine ev_gvI f_X12_mayCart (nx := 9) (w := 0) rfl (hW.s rfl) rfl rfl h45 rfl ?_
  refine ev_t f_X12_mayCart (t1 := 34) (t2 := 12) rfl rfl rfl (by decide) ?_
  refine ev_ic f_X12_mayCart (nx := 35) (v := 0) rfl (by decide) rfl ?_
  refine ev_retK1 f_X12_mayCart rfl rfl rfl ?_
  refine ev_t f_X12_reckons (t1 := 123) (t2 := 108) rfl rfl rfl (by decide) ?_
  refine ev_loc f_X12_reckons (nx := 124) rfl rfl rfl rfl ?_
  refine ev_getR f_X12_reckons (nx := 127) rfl (hW.s rfl) rfl rfl (hW.r rfl) rfl rfl ?_
  refine ev_loc f_X12_reckons (nx := 128) rfl rfl rfl rfl ?_
  refine ev_loc f_X12_reckons (nx := 129) rfl rfl rfl rfl ?_
  refine ev_loc f_X12_reckons (nx := 130) rfl rfl rfl rfl ?_
  refine ev_loc f_X12_reckons (nx := 132) rfl rfl rfl rfl ?_
  refine ev_inS4 f_X12_reckons (nx := 135) (lo2 := [(0, .int 240), (1, .int 0), (2, .int 0), (3, .int 0)]) rfl rfl rfl rfl f_X12_stateOf rfl rfl rfl rfl ?_
  refine ev_ic f_X12_stateOf (nx := 1) (v := 2) rfl (by decide) rfl ?_
  refine ev_loc f_X12_stateOf (nx := 2) rfl rfl rfl rfl ?_
  refine ev_aluvI f_X12_stateOf (nx := 3) (w := 480) rfl rfl rfl (by decide) rfl ?_
  refine ev_loc f_X12_stateOf (nx := 4) rfl rfl rfl rfl ?_
  refine ev_aluvI f_X12_stateOf (nx := 5) (w := 480) rfl rfl rfl (by decide) rfl ?_
  refine ev_bp f_X12_stateOf (nx := 7) (v := 7) rfl (by decide) rfl ?_
  refine ev_aluvI f_X12_stateOf (nx := 8) (w := 3360) rfl rfl rfl (by decide) rfl ?_
  refine ev_loc f_X12_stateOf (nx := 9) rfl rfl rfl rfl ?_
  refine ev_aluvI f_X12_stateOf (nx := 10) (w := 3360) rfl rfl rfl (by decide) rfl ?_
  refine ev_bp f_X12_stateOf (nx := 12) (v := 7) rfl (by decide) rfl ?_
  refine ev_aluvI f_X12_stateOf (nx := 13) (w := 23520) rfl rfl rfl (by decide) rfl ?_
  refine ev_loc f_X12_stateOf (nx := 14) rfl rfl rfl rfl ?_
  refine ev_aluvI f_X12_stateOf (nx := 15) (w := 23520) rfl rfl rfl (by decide) rfl ?_
  refine ev_retK1 f_X12_stateOf rfl rfl rfl ?_
  refine ev_loc f_X12_reckons (nx := 137) rfl rfl rfl rfl ?_
  refine ev_ldW f_X12_reckons (nx := 140) (v := 1000000000) rfl (by decide) rfl ?_
  refine ev_f f_X12_reckons (t1 := 148) (t2 := 143) rfl rfl rfl (by decide) ?_
  refine ev_loc f_X12_reckons (nx := 145) rfl rfl rfl rfl ?_
  refine ev_jmp f_X12_reckons (nx := 151) rfl rfl rfl ?_
  refine ev_iast0 f_X12_reckons (nx := 152) (j := 23520) rfl (hW.s rfl) (by decide) (by decide) (by decide) hL rfl ?_
  refine ev_incv f_X12_reckons (nx := 155) (c := -1) (w := -1) (lo' := [(4, .int (-1)), (5, .int 0), (3, .int 0), (2, .int 0), (1, .int 240), (0, .ref 69)]) rfl rfl (by decide) (by decide) rfl rfl rfl ?_
  refine ev_jmp f_X12_reckons (nx := 30) rfl rfl rfl ?_
  refine ev_loc f_X12_reckons (nx := 32) rfl rfl rfl rfl ?_
  refine ev_t f_X12_reckons (t1 := 158) (t2 := 35) rfl rfl rfl (by decide) ?_
  refine ev_incv f_X12_reckons (nx := 161) (c := -1) (w := -1) (lo' := [(3, .int (-1)), (4, .int (-1)), (5, .int 0), (2, .int 0), (1, .int 240), (0, .ref 69)]) rfl rfl (by decide) (by decide) rfl rfl rfl ?_
  refine ev_jmp f_X12_reckons (nx := 20) rfl rfl rfl ?_
  refine ev_loc f_X12_reckons (nx := 21) rfl rfl rfl rfl ?_
  refine ev_t f_X12_reckons (t1 := 164) (t2 := 24) rfl rfl rfl (by decide) ?_
  refine ev_incv f_X12_reckons (nx := 167) (c := 1) (w := 1) (lo' := [(2, .int 1), (3, .int (-1)), (4, .int (-1)), (5, .int 0), (1, .int 240), (0, .ref 69)]) rfl rfl (by decide) (by decide) rfl rfl rfl ?_
  refine ev_jmp f_X12_reckons (nx := 10) rfl rfl rfl ?_
  refine ev_loc f_X12_reckons (nx := 11) rfl rfl rfl rfl ?_
  refine ev_ic f_X12_reckons (nx := 12) (v := 2) rfl (by decide) rfl ?_
  refine ev_f f_X12_reckons (t1 := 170) (t2 := 15) rfl rfl rfl (by decide) ?_
  refine ev_loc f_X12_reckons (nx := 16) rfl rfl rfl rfl ?_
  refine ev_gvI f_X12_reckons (nx := 19) (w := 0) rfl (hW.s rfl) rfl rfl h44 rfl ?_
  refine ev_loc f_X12_reckons (nx := 20) (lo' := [(3, .int 0), (2, .int 1), (4, .int (-1)), (5, .int 0), (1, .int 240), (0, .ref 69)]) rfl rfl rfl rfl ?_
  refine ev_loc f_X12_reckons (nx := 21) rfl rfl rfl rfl ?_
  refine ev_f f_X12_reckons (t1 := 164) (t2 := 24) rfl rfl rfl (by decide) ?_
  refine ev_loc f_X12_reckons (nx := 25) rfl rfl rfl rfl ?_
  refine ev_gvI f_X12_reckons (nx := 28) (w := 0) rfl (hW.s rfl) rfl rfl h45 rfl ?_
  refine ev_loc f_X12_reckons (nx := 30) (lo' := [(4, .int 0), (3, .int 0), (2, .int 1), (5, .int 0), (1, .int 240), (0, .ref 69)]) rfl rfl rfl rfl ?_
  refine ev_loc f_X12_reckons (nx := 32) rfl rfl rfl rfl ?_
  refine ev_f f_X12_reckons (t1 := 158) (t2 := 35) rfl rfl rfl (by decide) ?_
  refine ev_loc f_X12_reckons (nx := 36) rfl rfl rfl rfl ?_
  refine ev_loc f_X12_reckons (nx := 37) rfl rfl rfl rfl ?_
  refine ev_ic f_X12_reckons (nx := 38) (v := 1) rfl (by decide) rfl ?_
  refine ev_aluvI f_X12_reckons (nx := 39) (w := 241) rfl rfl rfl (by decide) rfl ?_
  refine ev_loc f_X12_reckons (nx := 40) rfl rfl rfl rfl ?_
  refine ev_loc f_X12_reckons (nx := 41) rfl rfl rfl rfl ?_
  refine ev_loc f_X12_reckons (nx := 43) rfl rfl rfl rfl ?_
  refine ev_inV5 f_X12_reckons (nx := 46) (lo2 := [(0, .ref 69), (1, .int 241), (2, .int 1), (3, .int 0), (4, .int 0)]) rfl rfl rfl rfl f_X12_leftAt (hW.s rfl) rfl rfl rfl rfl rfl ?_
  refine ev_loc f_X12_leftAt (nx := 1) rfl rfl rfl rfl ?_
  refine ev_loc f_X12_leftAt (nx := 2) rfl rfl rfl rfl ?_
  refine ev_gvI f_X12_leftAt (nx := 5) (w := 0) rfl (hW.s rfl) rfl rfl h44 rfl ?_
  refine ev_t f_X12_leftAt (t1 := 8) (t2 := 19) rfl rfl rfl (by decide) ?_
  refine ev_loc f_X12_leftAt (nx := 10) rfl rfl rfl rfl ?_
  refine ev_loc f_X12_leftAt (nx := 11) rfl rfl rfl rfl ?_
  refine ev_gvI f_X12_leftAt (nx := 14) (w := 0) rfl (hW.s rfl) rfl rfl h45 rfl ?_
  refine ev_t f_X12_leftAt (t1 := 17) (t2 := 19) rfl rfl rfl (by decide) ?_
  refine ev_ic f_X12_leftAt (nx := 18) (v := 0) rfl (by decide) rfl ?_
  refine ev_retK1 f_X12_leftAt rfl rfl rfl ?_
  refine ev_loc f_X12_reckons (nx := 47) rfl rfl rfl rfl ?_
  refine ev_loc f_X12_reckons (nx := 48) rfl rfl rfl rfl ?_
  refine ev_loc f_X12_reckons (nx := 49) rfl rfl rfl rfl ?_
  refine ev_loc f_X12_reckons (nx := 50) rfl rfl rfl rfl ?_
  refine ev_loc f_X12_reckons (nx := 51) rfl rfl rfl rfl ?_
  refine ev_getI f_X12_reckons (nx := 54) rfl (hW.s rfl) rfl rfl rfl ?_
  refine ev_inV3 f_X12_reckons (nx := 57) (lo2 := [(0, .ref 69), (1, .int 240), (2, .int (gi 69 48))]) rfl rfl rfl rfl f_X12_turnTime (hW.s rfl) rfl rfl rfl rfl rfl ?_
  refine ev_loc f_X12_turnTime (nx := 1) rfl rfl rfl rfl ?_
  refine ev_loc f_X12_turnTime (nx := 2) rfl rfl rfl rfl ?_
  refine ev_getR f_X12_turnTime (nx := 5) rfl (hW.s rfl) rfl rfl (hW.r rfl) rfl rfl ?_
  refine ev_ic f_X12_turnTime (nx := 6) (v := 5) rfl (by decide) rfl ?_
  refine ev_ialdv f_X12_turnTime (nx := 7) (j := 5) (w := 0) rfl (hW.s rfl) (by decide) (by decide) (by decide) h5 rfl ?_
  refine ev_t f_X12_turnTime (t1 := 30) (t2 := 10) rfl rfl rfl (by decide) ?_
  refine ev_ic f_X12_turnTime (nx := 31) (v := 0) rfl (by decide) rfl ?_
  refine ev_alu f_X12_turnTime (nx := 32) rfl rfl rfl rfl ?_
  refine ev_retK1 f_X12_turnTime rfl rfl rfl ?_
  refine ev_alu f_X12_reckons (nx := 58) rfl rfl rfl rfl ?_
  refine ev_ic f_X12_reckons (nx := 59) (v := 1) rfl (by decide) rfl ?_
  refine ev_loc f_X12_reckons (nx := 60) rfl rfl rfl rfl ?_
  refine ev_aluvI f_X12_reckons (nx := 61) (w := 0) rfl rfl rfl (by decide) rfl ?_
  refine ev_loc f_X12_reckons (nx := 62) rfl rfl rfl rfl ?_
  refine ev_loc f_X12_reckons (nx := 64) rfl rfl rfl rfl ?_
  refine ev_inV5 f_X12_reckons (nx := 67) (lo2 := [(0, .ref 69), (1, .int ((240 + (gi 69 48 + 0)))), (2, .int 0), (3, .int 0), (4, .int 0)]) rfl rfl rfl rfl f_X12_leftAt (hW.s rfl) rfl rfl rfl rfl rfl ?_
  refine ev_loc f_X12_leftAt (nx := 1) rfl rfl rfl rfl ?_
  refine ev_loc f_X12_leftAt (nx := 2) rfl rfl rfl rfl ?_
  refine ev_gvI f_X12_leftAt (nx := 5) (w := 0) rfl (hW.s rfl) rfl rfl h44 rfl ?_
  refine ev_t f_X12_leftAt (t1 := 8) (t2 := 19) rfl rfl rfl (by decide) ?_
  refine ev_loc f_X12_leftAt (nx := 10) rfl rfl rfl rfl ?_
  refine ev_loc f_X12_leftAt (nx := 11) rfl rfl rfl rfl ?_
  refine ev_gvI f_X12_leftAt (nx := 14) (w := 0) rfl (hW.s rfl) rfl rfl h45 rfl ?_
  refine ev_t f_X12_leftAt (t1 := 17) (t2 := 19) rfl rfl rfl (by decide) ?_
  refine ev_ic f_X12_leftAt (nx := 18) (v := 0) rfl (by decide) rfl ?_
  refine ev_retK1 f_X12_leftAt rfl rfl rfl ?_
  refine ev_mmv f_X12_reckons (nx := 70) (w := 0) rfl rfl rfl (by omega) rfl (by decide) rfl ?_
  refine ev_loc f_X12_reckons (nx := 72) (lo' := [(5, .int 0), (4, .int 0), (3, .int 0), (2, .int 1), (1, .int 240), (0, .ref 69)]) rfl rfl rfl rfl ?_
  refine ev_loc f_X12_reckons (nx := 73) rfl rfl rfl rfl ?_
  refine ev_loc f_X12_reckons (nx := 74) rfl rfl rfl rfl ?_
  refine ev_loc f_X12_reckons (nx := 75) rfl rfl rfl rfl ?_
  refine ev_loc f_X12_reckons (nx := 76) rfl rfl rfl rfl ?_
  refine ev_inV4 f_X12_reckons (nx := 79) (lo2 := [(0, .ref 69), (1, .int 240), (2, .int 1), (3, .int 0)]) rfl rfl rfl rfl f_X12_mayShip (hW.s rfl) rfl rfl rfl rfl rfl ?_
  refine ev_loc f_X12_mayShip (nx := 1) rfl rfl rfl rfl ?_
  refine ev_f f_X12_mayShip (t1 := 27) (t2 := 4) rfl rfl rfl (by decide) ?_
  refine ev_loc f_X12_mayShip (nx := 5) rfl rfl rfl rfl ?_
  refine ev_loc f_X12_mayShip (nx := 6) rfl rfl rfl rfl ?_
  refine ev_gvI f_X12_mayShip (nx := 9) (w := 0) rfl (hW.s rfl) rfl rfl h44 rfl ?_
  refine ev_t f_X12_mayShip (t1 := 27) (t2 := 12) rfl rfl rfl (by decide) ?_
  refine ev_ic f_X12_mayShip (nx := 28) (v := 0) rfl (by decide) rfl ?_
  refine ev_retK1 f_X12_mayShip rfl rfl rfl ?_
  refine ev_t f_X12_reckons (t1 := 97) (t2 := 82) rfl rfl rfl (by decide) ?_
  refine ev_loc f_X12_reckons (nx := 98) rfl rfl rfl rfl ?_
  refine ev_loc f_X12_reckons (nx := 99) rfl rfl rfl rfl ?_
  refine ev_loc f_X12_reckons (nx := 100) rfl rfl rfl rfl ?_
  refine ev_loc f_X12_reckons (nx := 102) rfl rfl rfl rfl ?_
  refine ev_inV4 f_X12_reckons (nx := 105) (lo2 := [(0, .ref 69), (1, .int 240), (2, .int 1), (3, .int 0)]) rfl rfl rfl rfl f_X12_mayCart (hW.s rfl) rfl rfl rfl rfl rfl ?_
  refine ev_loc f_X12_mayCart (nx := 1) rfl rfl rfl rfl ?_
  refine ev_f f_X12_mayCart (t1 := 4) (t2 := 34) rfl rfl rfl (by decide) ?_
  refine ev_ic f_X12_mayCart (nx := 35) (v := 0) rfl (by decide) rfl ?_
  refine ev_retK1 f_X12_mayCart rfl rfl rfl ?_
  refine ev_t f_X12_reckons (t1 := 123) (t2 := 108) rfl rfl rfl (by decide) ?_
  refine ev_loc f_X12_reckons (nx := 124) rfl rfl rfl rfl ?_
  refine ev_getR f_X12_reckons (nx := 127) rfl (hW.s rfl) rfl rfl (hW.r rfl) rfl rfl ?_
  refine ev_loc f_X12_reckons (nx := 128) rfl rfl rfl rfl ?_
  refine ev_loc f_X12_reckons (nx := 129) rfl rfl rfl rfl ?_
  refine ev_loc f_X12_reckons (nx := 130) rfl rfl rfl rfl ?_
  refine ev_loc f_X12_reckons (nx := 132) rfl rfl rfl rfl ?_
  refine ev_inS4 f_X12_reckons (nx := 135) (lo2 := [(0, .int 240), (1, .int 1), (2, .int 0), (3, .int 0)]) rfl rfl rfl rfl f_X12_stateOf rfl rfl rfl rfl ?_
  refine ev_ic f_X12_stateOf (nx := 1) (v := 2) rfl (by decide) rfl ?_
  refine ev_loc f_X12_stateOf (nx := 2) rfl rfl rfl rfl ?_
  refine ev_aluvI f_X12_stateOf (nx := 3) (w := 480) rfl rfl rfl (by decide) rfl ?_
  refine ev_loc f_X12_stateOf (nx := 4) rfl rfl rfl rfl ?_
  refine ev_aluvI f_X12_stateOf (nx := 5) (w := 481) rfl rfl rfl (by decide) rfl ?_
  refine ev_bp f_X12_stateOf (nx := 7) (v := 7) rfl (by decide) rfl ?_
  refine ev_aluvI f_X12_stateOf (nx := 8) (w := 3367) rfl rfl rfl (by decide) rfl ?_
  refine ev_loc f_X12_stateOf (nx := 9) rfl rfl rfl rfl ?_
  refine ev_aluvI f_X12_stateOf (nx := 10) (w := 3367) rfl rfl rfl (by decide) rfl ?_
  refine ev_bp f_X12_stateOf (nx := 12) (v := 7) rfl (by decide) rfl ?_
  refine ev_aluvI f_X12_stateOf (nx := 13) (w := 23569) rfl rfl rfl (by decide) rfl ?_
  refine ev_loc f_X12_stateOf (nx := 14) rfl rfl rfl rfl ?_
  refine ev_aluvI f_X12_stateOf (nx := 15) (w := 23569) rfl rfl rfl (by decide) rfl ?_
  refine ev_retK1 f_X12_stateOf rfl rfl rfl ?_
  refine ev_loc f_X12_reckons (nx := 137) rfl rfl rfl rfl ?_
  refine ev_ldW f_X12_reckons (nx := 140) (v := 1000000000) rfl (by decide) rfl ?_
  refine ev_f f_X12_reckons (t1 := 148) (t2 := 143) rfl rfl rfl (by decide) ?_
  refine ev_loc f_X12_reckons (nx := 145) rfl rfl rfl rfl ?_
  refine ev_jmp f_X12_reckons (nx := 151) rfl rfl rfl ?_
  refine ev_iast0 f_X12_reckons (nx := 152) (j := 23569) rfl (hW.s rfl) (by decide) (by decide) (by decide) hL rfl ?_
  refine ev_incv f_X12_reckons (nx := 155) (c := -1) (w := -1) (lo' := [(4, .int (-1)), (5, .int 0), (3, .int 0), (2, .int 1), (1, .int 240), (0, .ref 69)]) rfl rfl (by decide) (by decide) rfl rfl rfl ?_
  refine ev_jmp f_X12_reckons (nx := 30) rfl rfl rfl ?_
  refine ev_loc f_X12_reckons (nx := 32) rfl rfl rfl rfl ?_
  refine ev_t f_X12_reckons (t1 := 158) (t2 := 35) rfl rfl rfl (by decide) ?_
  refine ev_incv f_X12_reckons (nx := 161) (c := -1) (w := -1) (lo' := [(3, .int (-1)), (4, .int (-1)), (5, .int 0), (2, .int 1), (1, .int 240), (0, .ref 69)]) rfl rfl (by decide) (by decide) rfl rfl rfl ?_
  refine ev_jmp f_X12_reckons (nx := 20) rfl rfl rfl ?_
  refine ev_loc f_X12_reckons (nx := 21) rfl rfl rfl rfl ?_
  refine ev_t f_X12_reckons (t1 := 164) (t2 := 24) rfl rfl rfl (by decide) ?_
  refine ev_incv f_X12_reckons (nx := 167) (c := 1) (w := 2) (lo' := [(2, .int 2), (3, .int (-1)), (4, .int (-1)), (5, .int 0), (1, .int 240), (0, .ref 69)]) rfl rfl (by decide) (by decide) rfl rfl rfl ?_
  refine ev_jmp f_X12_reckons (nx := 10) rfl rfl rfl ?_
  refine ev_loc f_X12_reckons (nx := 11) rfl rfl rfl rfl ?_
  refine ev_ic f_X12_reckons (nx := 12) (v := 2) rfl (by decide) rfl ?_
  refine ev_t f_X12_reckons (t1 := 170) (t2 := 15) rfl rfl rfl (by decide) ?_
  refine ev_incv f_X12_reckons (nx := 173) (c := -1) (w := 239) (lo' := [(1, .int 239), (2, .int 2), (3, .int (-1)), (4, .int (-1)), (5, .int 0), (0, .ref 69)]) rfl rfl (by decide) (by decide) rfl rfl rfl ?_
  refine ev_jmp f_X12_reckons (nx := 4) rfl rfl rfl ?_
  exact l_rk_s hW h44 h45 h5 hL 239 (by omega)
end XR
