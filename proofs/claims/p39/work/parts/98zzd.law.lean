/-! ===== printed by law.py: the law ===== -/
set_option maxRecDepth 20000 in
theorem law_loop {X : x_Ext} (hL : X.1 ≤ 3072) : ∀ (m c : Nat) (i : Int32) (sh : List (Nat ⊕ (Nat × Nat))) (gi : Nat → Nat → Int32) (gl : Nat → Nat → Int64) (gr : Nat → Nat → Value), 600 - c = m → i.toInt = 6 * (c : Int) → c ≤ 512 → t_LE c sh gi gl gr → x_Ev X 1000 n_L_law 18 [(3, .int i), (2, .ref 69), (1, .ref 0), (0, .retAddr 30)] [] (sh, gi, gl, gr) x_PL := by
  intro m
  induction m using Nat.strongRecOn with
  | _ m ih =>
  intro c i sh gi gl gr hm hi hc hW
  have h6 := t_len6 hL
  refine ev_loc f_L_law (nx := 19) rfl rfl rfl rfl ?_
  refine ev_loc f_L_law (nx := 20) rfl rfl rfl rfl ?_
  refine ev_heap f_L_law (nx := 21) (st' := [.int (Int32.ofNat X.1), .int i]) (G' := (sh, gi, gl, gr)) rfl rfl rfl rfl ?_
  refine ev_bp f_L_law (nx := 23) (v := 6) rfl (by decide) rfl ?_
  refine ev_alu f_L_law (nx := 24) rfl rfl rfl rfl ?_
  refine ev_if f_L_law (t1 := 1627) (t2 := 27) rfl rfl rfl (fun h => ?_) (fun h => ?_)
  · refine ev_ic f_L_law (nx := 1628) (v := 1) rfl (by decide) rfl ?_
    exact ev_ret f_L_law rfl rfl rfl ⟨rfl, by have := hW.1.1.1.1.2.2.2.1; show sh.length ≤ 600000; omega, by have := hW.1.1.1.1.2.2.2.2; show (sh.map x_sz).sum ≤ 7302250; omega⟩
  have h := Int32.le_iff_toInt_le.mp (t_nlt h)
  have hn : ∀ sh2 gi2 gl2 gr2, t_LE (c + 1) sh2 gi2 gl2 gr2 → x_Ev X 1000 n_L_law 1621 [(3, .int i), (2, .ref 69), (1, .ref 0), (0, .retAddr 30)] [] (sh2, gi2, gl2, gr2) x_PL := by
    intro sh2 gi2 gl2 gr2 hW2
    refine ev_incR f_L_law (nx := 1624) (c := 6) (l := 6) (u := 3078) rfl rfl (by decide) (by decide) (by omega : (0:Int) ≤ i.toInt) (by omega : i.toInt ≤ (3072:Int)) rfl rfl (by decide) (by decide) rfl (fun i2 e2 l2 u2 => ?_)
    refine ev_jmp f_L_law (nx := 18) rfl rfl rfl ?_
    exact ih (600 - (c + 1)) (by omega) (c + 1) i2 _ _ _ _ rfl (by omega) (by omega) hW2
  refine ev_loc f_L_law (nx := 28) rfl rfl rfl rfl ?_
  refine ev_loc f_L_law (nx := 29) rfl rfl rfl rfl ?_
  refine ev_scx f_L_law (nx := 30) rfl (by omega) (by omega) rfl rfl ?_
  refine ev_bp f_L_law (nx := 32) (v := 63) rfl (by decide) rfl ?_
  refine ev_andR f_L_law (nx := 33) (c := 63) rfl (by decide) (by decide) rfl (fun z lz uz => ?_)
  have h0 : 0 ≤ i.toInt := by omega
  have h1 : i.toInt + 6 ≤ (X.1 : Int) := by omega
  have hz : z.toInt = 0 ∨ z.toInt = 1 ∨ z.toInt = 2 ∨ z.toInt = 3 ∨ z.toInt = 4 ∨ z.toInt = 5 ∨ z.toInt = 6 ∨ z.toInt = 7 ∨ z.toInt = 8 ∨ z.toInt = 9 ∨ z.toInt = 10 ∨ z.toInt = 11 ∨ z.toInt = 12 ∨ z.toInt = 13 ∨ z.toInt = 14 ∨ z.toInt = 15 ∨ z.toInt = 16 ∨ z.toInt = 17 ∨ z.toInt = 18 ∨ z.toInt = 19 ∨ z.toInt = 20 ∨ z.toInt = 21 ∨ z.toInt = 22 ∨ z.toInt = 23 ∨ z.toInt = 24 ∨ z.toInt = 25 ∨ z.toInt = 26 ∨ z.toInt = 27 ∨ z.toInt = 28 ∨ z.toInt = 29 ∨ z.toInt = 30 ∨ z.toInt = 31 ∨ z.toInt = 32 ∨ z.toInt = 33 ∨ z.toInt = 34 ∨ z.toInt = 35 ∨ z.toInt = 36 ∨ z.toInt = 37 ∨ z.toInt = 38 ∨ z.toInt = 39 ∨ z.toInt = 40 ∨ z.toInt = 41 ∨ z.toInt = 42 ∨ z.toInt = 43 ∨ z.toInt = 44 ∨ z.toInt = 45 ∨ z.toInt = 46 ∨ z.toInt = 47 ∨ z.toInt = 48 ∨ (z.toInt < 0 ∨ 48 < z.toInt) := by omega
  rcases hz with hz | hz | hz | hz | hz | hz | hz | hz | hz | hz | hz | hz | hz | hz | hz | hz | hz | hz | hz | hz | hz | hz | hz | hz | hz | hz | hz | hz | hz | hz | hz | hz | hz | hz | hz | hz | hz | hz | hz | hz | hz | hz | hz | hz | hz | hz | hz | hz | hz | hz
  · exact ev_swt f_L_law (nx := 244) (c := 0) rfl hz rfl (lc_0 hL h0 h1 hW hn)
  · exact ev_swt f_L_law (nx := 257) (c := 1) rfl hz rfl (lc_1 hL h0 h1 hW hn)
  · exact ev_swt f_L_law (nx := 270) (c := 2) rfl hz rfl (lc_2 hL h0 h1 hW hn)
  · exact ev_swt f_L_law (nx := 283) (c := 3) rfl hz rfl (lc_3 hL h0 h1 hW hn)
  · exact ev_swt f_L_law (nx := 326) (c := 4) rfl hz rfl (lc_4 hL h0 h1 hW hn)
  · exact ev_swt f_L_law (nx := 399) (c := 5) rfl hz rfl (lc_5 hL h0 h1 hW hn)
  · exact ev_swt f_L_law (nx := 432) (c := 6) rfl hz rfl (lc_6 hL h0 h1 hW hn)
  · exact ev_swt f_L_law (nx := 495) (c := 7) rfl hz rfl (lc_7 hL h0 h1 hW hn)
  · exact ev_swt f_L_law (nx := 558) (c := 8) rfl hz rfl (lc_8 hL h0 h1 hW hn)
  · exact ev_swt f_L_law (nx := 581) (c := 9) rfl hz rfl (lc_9 hL h0 h1 hW hn)
  · exact ev_swt f_L_law (nx := 604) (c := 10) rfl hz rfl (lc_10 hL h0 h1 hW hn)
  · exact ev_swt f_L_law (nx := 627) (c := 11) rfl hz rfl (lc_11 hL h0 h1 hW hn)
  · exact ev_swt f_L_law (nx := 650) (c := 12) rfl hz rfl (lc_12 hL h0 h1 hW hn)
  · exact ev_swt f_L_law (nx := 683) (c := 13) rfl hz rfl (lc_13 hL h0 h1 hW hn)
  · exact ev_swt f_L_law (nx := 716) (c := 14) rfl hz rfl (lc_14 hL h0 h1 hW hn)
  · exact ev_swt f_L_law (nx := 739) (c := 15) rfl hz rfl (lc_15 hL h0 h1 hW hn)
  · exact ev_swt f_L_law (nx := 762) (c := 16) rfl hz rfl (lc_16 hL h0 h1 hW hn)
  · exact ev_swt f_L_law (nx := 785) (c := 17) rfl hz rfl (lc_17 hL h0 h1 hW hn)
  · exact ev_swt f_L_law (nx := 808) (c := 18) rfl hz rfl (lc_18 hL h0 h1 hW hn)
  · exact ev_swt f_L_law (nx := 851) (c := 19) rfl hz rfl (lc_19 hL h0 h1 hW hn)
  · exact ev_swt f_L_law (nx := 874) (c := 20) rfl hz rfl (lc_20 hL h0 h1 hW hn)
  · exact ev_swt f_L_law (nx := 907) (c := 21) rfl hz rfl (lc_21 hL h0 h1 hW hn)
  · exact ev_swt f_L_law (nx := 960) (c := 22) rfl hz rfl (lc_22 hL h0 h1 hW hn)
  · exact ev_swt f_L_law (nx := 993) (c := 23) rfl hz rfl (lc_23 hL h0 h1 hW hn)
  · exact ev_swt f_L_law (nx := 1056) (c := 24) rfl hz rfl (lc_24 hL h0 h1 hW hn)
  · exact ev_swt f_L_law (nx := 1069) (c := 25) rfl hz rfl (lc_25 hL h0 h1 hW hn)
  · exact ev_swt f_L_law (nx := 1112) (c := 26) rfl hz rfl (lc_26 hL h0 h1 hW hn)
  · exact ev_swt f_L_law (nx := 1135) (c := 27) rfl hz rfl (lc_27 hL h0 h1 hW hn)
  · exact ev_swt f_L_law (nx := 1188) (c := 28) rfl hz rfl (lc_28 hL h0 h1 hW hn)
  · exact ev_swt f_L_law (nx := 1221) (c := 29) rfl hz rfl (lc_29 hL h0 h1 hW hn)
  · exact ev_swt f_L_law (nx := 1234) (c := 30) rfl hz rfl (lc_30 hL h0 h1 hW hn)
  · exact ev_swt f_L_law (nx := 1247) (c := 31) rfl hz rfl (lc_31 hL h0 h1 hW hn)
  · exact ev_swt f_L_law (nx := 1260) (c := 32) rfl hz rfl (lc_32 hL h0 h1 hW hn)
  · exact ev_swt f_L_law (nx := 1273) (c := 33) rfl hz rfl (lc_33 hL h0 h1 hW hn)
  · exact ev_swt f_L_law (nx := 1306) (c := 34) rfl hz rfl (lc_34 hL h0 h1 hW hn)
  · exact ev_swt f_L_law (nx := 1329) (c := 35) rfl hz rfl (lc_35 hL h0 h1 hW hn)
  · exact ev_swt f_L_law (nx := 1352) (c := 36) rfl hz rfl (lc_36 hL h0 h1 hW hn)
  · exact ev_swt f_L_law (nx := 1365) (c := 37) rfl hz rfl (lc_37 hL h0 h1 hW hn)
  · exact ev_swt f_L_law (nx := 1398) (c := 38) rfl hz rfl (lc_38 hL h0 h1 hW hn)
  · exact ev_swt f_L_law (nx := 1421) (c := 39) rfl hz rfl (lc_39 hL h0 h1 hW hn)
  · exact ev_swt f_L_law (nx := 1444) (c := 40) rfl hz rfl (lc_40 hL h0 h1 hW hn)
  · exact ev_swt f_L_law (nx := 1457) (c := 41) rfl hz rfl (lc_41 hL h0 h1 hW hn)
  · exact ev_swt f_L_law (nx := 1470) (c := 42) rfl hz rfl (lc_42 hL h0 h1 hW hn)
  · exact ev_swt f_L_law (nx := 1483) (c := 43) rfl hz rfl (lc_43 hL h0 h1 hW hn)
  · exact ev_swt f_L_law (nx := 1506) (c := 44) rfl hz rfl (lc_44 hL h0 h1 hW hn)
  · exact ev_swt f_L_law (nx := 1529) (c := 45) rfl hz rfl (lc_45 hL h0 h1 hW hn)
  · exact ev_swt f_L_law (nx := 1562) (c := 46) rfl hz rfl (lc_46 hL h0 h1 hW hn)
  · exact ev_swt f_L_law (nx := 1595) (c := 47) rfl hz rfl (lc_47 hL h0 h1 hW hn)
  · exact ev_swt f_L_law (nx := 1608) (c := 48) rfl hz rfl (lc_48 hL h0 h1 hW hn)
  · exact ev_swtd f_L_law (nx := 1621) rfl hz (by decide) rfl (hn _ _ _ _ ⟨⟨⟨⟨⟨hW.1.1.1.1.1, hW.1.1.1.1.2.1, hW.1.1.1.1.2.2.1, by have := hW.1.1.1.1.2.2.2.1; omega, by have := hW.1.1.1.1.2.2.2.2; omega⟩, hW.1.1.1.2⟩, hW.1.1.2⟩, hW.1.2⟩, hW.2⟩)
set_option maxRecDepth 20000 in
theorem law_ev (L : Nat) (xs : Nat → Int32) (hL : L ≤ 3072) : x_Ev (L, xs) 1000 n_L_law 0 [(0, .retAddr 30)] [] x_G0 x_PL := by
  refine ev_heap f_L_law (nx := 3) (st' := [.ref 0]) (G' := x_new x_G0 (.inl 10)) rfl rfl rfl rfl ?_
  refine ev_alu f_L_law (nx := 4) rfl rfl rfl rfl ?_
  refine ev_call f_L_law (nx := 7) rfl rfl rfl (by decide) (by decide) (x_ini_ok w1_ini_t (L, xs)) rfl ?_
  rintro _ G1 ⟨rfl, hlen, hM⟩
  refine ev_loc f_L_law (nx := 8) (lo' := [(1, .ref 0), (0, .retAddr 30)]) (st' := []) rfl rfl rfl rfl ?_
  refine ev_heap f_L_law (nx := 11) (st' := [.ref 69]) (G' := x_new G1 (.inl 11)) rfl rfl (by rw [← hlen]; rfl) rfl ?_
  refine ev_alu f_L_law (nx := 12) rfl rfl rfl rfl ?_
  refine ev_call f_L_law (nx := 15) rfl rfl rfl (by simp) (by decide) hM rfl ?_
  rintro _ ⟨sh, gi, gl, gr⟩ ⟨rfl, hR⟩
  refine ev_loc f_L_law (nx := 16) (lo' := [(2, .ref 69), (1, .ref 0), (0, .retAddr 30)]) (st' := []) rfl rfl rfl rfl ?_
  refine ev_ic f_L_law (nx := 17) (v := 0) rfl (by decide) rfl ?_
  refine ev_loc f_L_law (nx := 18) (lo' := [(3, .int 0), (2, .ref 69), (1, .ref 0), (0, .retAddr 30)]) (st' := []) rfl rfl rfl rfl ?_
  exact law_loop (X := (L, xs)) hL _ 0 0 _ _ _ _ rfl rfl (by decide) ⟨⟨⟨⟨W1_LW hR, W1_R hR, W1_R7 hR⟩, W1_TP hR⟩, W1_DR hR⟩, W1_N hR⟩
theorem goal : x_GOAL := by
  intro L xs hL
  obtain ⟨n, v, Gf, h1, h2, h3, h4⟩ := law_ev L xs hL
  subst h2
  exact ⟨n, Gf, h1, h3, h4⟩
