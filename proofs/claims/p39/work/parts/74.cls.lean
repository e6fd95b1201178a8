/-! ===== printed by cls.py: typed contracts of the class ===== -/
noncomputable def wl_heardInRow : List (Nat × Nat) := []
theorem c_heardInRow {X : x_Ext} {d : Nat} {sh : List (Nat ⊕ (Nat × Nat))} {gi : Nat → Nat → Int32} {gl : Nat → Nat → Int64} {gr : Nat → Nat → Value} (hI : t_I sh gi gr) (ar1 : Int32) : x_Me X (d + 1) n_X0_heardInRow [.ref 22, .int ar1] (sh, gi, gl, gr) (t_P wl_heardInRow sh gi gl gr t_Rl) := by
  have hX : t_X wl_heardInRow sh gi gl gr gi gl gr := t_X.rf
  refine me_i f_X0_heardInRow (hI.wf.s rfl) rfl rfl rfl ?_
  refine ev_loc f_X0_heardInRow (nx := 1) rfl rfl rfl rfl ?_
  refine ev_if f_X0_heardInRow (t1 := 35) (t2 := 4) rfl rfl rfl (fun h1 => ?_) (fun h1 => ?_)
  · have u2 : ar1.toInt ≤ (-1) := t_ltu h1 (by decide : (0:Int32).toInt ≤ (0:Int)) rfl
    refine ev_lc f_X0_heardInRow (nx := 36) (v := 0) rfl (by decide) rfl ?_
    exact ev_ret f_X0_heardInRow rfl rfl rfl ⟨_, _, _, rfl, hI, hX, ⟨_, rfl⟩⟩
  · have l3 : 0 ≤ ar1.toInt := t_lel (t_nlt h1) (by decide : (0:Int) ≤ (0:Int32).toInt)
    refine ev_loc f_X0_heardInRow (nx := 5) rfl rfl rfl rfl ?_
    refine ev_loc f_X0_heardInRow (nx := 6) rfl rfl rfl rfl ?_
    refine ev_getR f_X0_heardInRow (nx := 9) rfl (hI.wf.s rfl) rfl rfl (hI.wf.r rfl) rfl rfl ?_
    refine ev_alenv f_X0_heardInRow (nx := 10) (w := 4) rfl (hI.wf.s rfl) rfl (by decide) rfl ?_
    refine ev_if f_X0_heardInRow (t1 := 35) (t2 := 13) rfl rfl rfl (fun h4 => ?_) (fun h4 => ?_)
    · have l5 : 4 ≤ ar1.toInt := t_lel h4 (by decide : (4:Int) ≤ (4:Int32).toInt)
      refine ev_lc f_X0_heardInRow (nx := 36) (v := 0) rfl (by decide) rfl ?_
      exact ev_ret f_X0_heardInRow rfl rfl rfl ⟨_, _, _, rfl, hI, hX, ⟨_, rfl⟩⟩
    · have u6 : ar1.toInt ≤ 3 := t_ltu (t_nle h4) (by decide : (4:Int32).toInt ≤ (4:Int)) rfl
      refine ev_loc f_X0_heardInRow (nx := 14) rfl rfl rfl rfl ?_
      refine ev_getR f_X0_heardInRow (nx := 17) rfl (hI.wf.s rfl) rfl rfl (hI.wf.r rfl) rfl rfl ?_
      refine ev_loc f_X0_heardInRow (nx := 18) rfl rfl rfl rfl ?_
      refine ev_ialdT f_X0_heardInRow (nx := 19) rfl (hI.wf.s rfl) l3 (by decide) u6 (by decide) rfl (fun w7 e7 => ?_)
      obtain ⟨l7, u7⟩ := hI.abi e7 (by decide +kernel : t_abr 26 0 3 0 29 = true) l3 (by decide) u6 (by decide)
      refine ev_f f_X0_heardInRow (t1 := 35) (t2 := 22) rfl rfl rfl (t_ltF (by decide : (0:Int32).toInt ≤ (0:Int)) l7 (by decide)) ?_
      refine ev_loc f_X0_heardInRow (nx := 23) rfl rfl rfl rfl ?_
      refine ev_getR f_X0_heardInRow (nx := 26) rfl (hI.wf.s rfl) rfl rfl (hI.wf.r rfl) rfl rfl ?_
      refine ev_loc f_X0_heardInRow (nx := 27) rfl rfl rfl rfl ?_
      refine ev_ialdT f_X0_heardInRow (nx := 28) rfl (hI.wf.s rfl) l3 (by decide) u6 (by decide) rfl (fun w8 e8 => ?_)
      obtain ⟨l8, u8⟩ := hI.abi e8 (by decide +kernel : t_abr 26 0 3 0 29 = true) l3 (by decide) u6 (by decide)
      refine ev_loc f_X0_heardInRow (nx := 29) rfl rfl rfl rfl ?_
      refine ev_getI f_X0_heardInRow (nx := 32) rfl (hI.wf.s rfl) rfl rfl rfl ?_
      obtain ⟨l9, u9⟩ := hI.b (hI.wf.s (k := 22) rfl) (t_bdK rfl : t_bd 0 3 = some (0, 30))
      refine ev_if f_X0_heardInRow (t1 := 37) (t2 := 35) rfl rfl rfl (fun h10 => ?_) (fun h10 => ?_)
      · have l11 : 1 ≤ (gi 22 3).toInt := t_ltl h10 l8 rfl
        refine ev_loc f_X0_heardInRow (nx := 38) rfl rfl rfl rfl ?_
        refine ev_getR f_X0_heardInRow (nx := 41) rfl (hI.wf.s rfl) rfl rfl (hI.wf.r rfl) rfl rfl ?_
        refine ev_loc f_X0_heardInRow (nx := 42) rfl rfl rfl rfl ?_
        refine ev_getR f_X0_heardInRow (nx := 45) rfl (hI.wf.s rfl) rfl rfl (hI.wf.r rfl) rfl rfl ?_
        refine ev_loc f_X0_heardInRow (nx := 46) rfl rfl rfl rfl ?_
        refine ev_ialdT f_X0_heardInRow (nx := 47) rfl (hI.wf.s rfl) l3 (by decide) u6 (by decide) rfl (fun w12 e12 => ?_)
        obtain ⟨l12, u12⟩ := hI.abi e12 (by decide +kernel : t_abr 26 0 3 0 29 = true) l3 (by decide) u6 (by decide)
        refine ev_laldT f_X0_heardInRow (nx := 48) rfl (hI.wf.s rfl) l12 (by decide) u12 (by decide) rfl (fun w13 e13 => ?_)
        exact ev_ret f_X0_heardInRow rfl rfl rfl ⟨_, _, _, rfl, hI, hX, ⟨_, rfl⟩⟩
      · have u14 : (gi 22 3).toInt ≤ 29 := t_leu (t_nlt h10) u8
        refine ev_lc f_X0_heardInRow (nx := 36) (v := 0) rfl (by decide) rfl ?_
        exact ev_ret f_X0_heardInRow rfl rfl rfl ⟨_, _, _, rfl, hI, hX, ⟨_, rfl⟩⟩
noncomputable def wl_fitsLast : List (Nat × Nat) := []
theorem c_fitsLast {X : x_Ext} {d : Nat} {sh : List (Nat ⊕ (Nat × Nat))} {gi : Nat → Nat → Int32} {gl : Nat → Nat → Int64} {gr : Nat → Nat → Value} (hI : t_I sh gi gr) (ar1 : Int32) (l_a1 : 0 ≤ ar1.toInt) (u_a1 : ar1.toInt ≤ 3) : x_Me X (d + 2) n_X0_fitsLast [.ref 22, .int ar1] (sh, gi, gl, gr) (t_P wl_fitsLast sh gi gl gr (t_Ri 0 1)) := by
  have hX : t_X wl_fitsLast sh gi gl gr gi gl gr := t_X.rf
  refine me_i f_X0_fitsLast (hI.wf.s rfl) rfl rfl rfl ?_
  refine ev_ic f_X0_fitsLast (nx := 1) (v := 0) rfl (by decide) rfl ?_
  refine ev_loc f_X0_fitsLast (nx := 2) (lo' := [(2, .int 0), (0, .ref 22), (1, .int ar1)]) rfl rfl rfl rfl ?_
  have L1 : ∀ (m1 : Nat) (gi1 : Nat → Nat → Int32) (gl1 : Nat → Nat → Int64) (gr1 : Nat → Nat → Value) (y1_2 : Int32), t_I sh gi1 gr1 → t_X wl_fitsLast sh gi gl gr gi1 gl1 gr1 → 0 ≤ y1_2.toInt → y1_2.toInt ≤ 3 → (3 - y1_2.toInt).toNat = m1 → x_Ev X (d + 2) n_X0_fitsLast 2 [(2, .int y1_2), (0, .ref 22), (1, .int ar1)] [] (sh, gi1, gl1, gr1) (t_P wl_fitsLast sh gi gl gr (t_Ri 0 1)) := by
    intro m1
    induction m1 using Nat.strongRecOn with
    | _ m1 ih1 =>
    intro gi1 gl1 gr1 y1_2 hI hX l1_2 u1_2 hm1
    refine ev_loc f_X0_fitsLast (nx := 3) rfl rfl rfl rfl ?_
    refine ev_loc f_X0_fitsLast (nx := 4) rfl rfl rfl rfl ?_
    refine ev_if f_X0_fitsLast (t1 := 113) (t2 := 7) rfl rfl rfl (fun h2 => ?_) (fun h2 => ?_)
    · refine ev_ic f_X0_fitsLast (nx := 114) (v := 1) rfl (by decide) rfl ?_
      exact ev_ret f_X0_fitsLast rfl rfl rfl ⟨_, _, _, rfl, hI, hX, ⟨_, rfl, (Int.le_trans (by decide : (0:Int) ≤ 1) (by decide : (1:Int) ≤ (1:Int32).toInt)), (by decide : (1:Int32).toInt ≤ (1:Int))⟩⟩
    · have u3 : y1_2.toInt ≤ 2 := t_ltu (t_nle h2) u_a1 rfl
      have l4 : 1 ≤ ar1.toInt := t_ltl (t_nle h2) l1_2 rfl
      refine ev_loc f_X0_fitsLast (nx := 8) rfl rfl rfl rfl ?_
      refine ev_loc f_X0_fitsLast (nx := 9) rfl rfl rfl rfl ?_
      refine ev_cL f_X0_fitsLast (nx := 12) (r := []) rfl rfl rfl rfl rfl rfl rfl (c_heardInRow hI (y1_2)) rfl hX rfl (fun w5 gi5 gl5 gr5 hI hX hC5 => ?_)
      refine ev_loc f_X0_fitsLast (nx := 13) rfl rfl rfl rfl ?_
      refine ev_loc f_X0_fitsLast (nx := 14) rfl rfl rfl rfl ?_
      refine ev_cL f_X0_fitsLast (nx := 17) (r := [.long w5]) rfl rfl rfl rfl rfl rfl rfl (c_heardInRow hI (ar1)) rfl hX rfl (fun w6 gi6 gl6 gr6 hI hX hC6 => ?_)
      refine ev_anyI f_X0_fitsLast (nx := 18) rfl rfl rfl rfl (fun z7 => ?_)
      refine ev_if f_X0_fitsLast (t1 := 21) (t2 := 23) rfl rfl rfl (fun h8 => ?_) (fun h8 => ?_)
      · have u9 : z7.toInt ≤ 0 := t_equ h8 (by decide : (0:Int32).toInt ≤ (0:Int))
        have l10 : 0 ≤ z7.toInt := t_eql h8 (by decide : (0:Int) ≤ (0:Int32).toInt)
        refine ev_ic f_X0_fitsLast (nx := 22) (v := 0) rfl (by decide) rfl ?_
        exact ev_ret f_X0_fitsLast rfl rfl rfl ⟨_, _, _, rfl, hI, hX, ⟨_, rfl, (by decide : (0:Int) ≤ (0:Int32).toInt), (Int.le_trans (by decide : (0:Int32).toInt ≤ (0:Int)) (by decide : (0:Int) ≤ 1))⟩⟩
      · refine ev_ic f_X0_fitsLast (nx := 24) (v := 0) rfl (by decide) rfl ?_
        refine ev_loc f_X0_fitsLast (nx := 25) (lo' := [(3, .int 0), (2, .int y1_2), (0, .ref 22), (1, .int ar1)]) rfl rfl rfl rfl ?_
        have L11 : ∀ (m11 : Nat) (gi11 : Nat → Nat → Int32) (gl11 : Nat → Nat → Int64) (gr11 : Nat → Nat → Value) (y11_3 : Int32), t_I sh gi11 gr11 → t_X wl_fitsLast sh gi gl gr gi11 gl11 gr11 → 0 ≤ y11_3.toInt → y11_3.toInt ≤ 3 → (3 - y11_3.toInt).toNat = m11 → x_Ev X (d + 2) n_X0_fitsLast 25 [(3, .int y11_3), (2, .int y1_2), (0, .ref 22), (1, .int ar1)] [] (sh, gi11, gl11, gr11) (t_P wl_fitsLast sh gi gl gr (t_Ri 0 1)) := by
          intro m11
          induction m11 using Nat.strongRecOn with
          | _ m11 ih11 =>
          intro gi11 gl11 gr11 y11_3 hI hX l11_3 u11_3 hm11
          refine ev_loc f_X0_fitsLast (nx := 26) rfl rfl rfl rfl ?_
          refine ev_loc f_X0_fitsLast (nx := 27) rfl rfl rfl rfl ?_
          refine ev_if f_X0_fitsLast (t1 := 107) (t2 := 30) rfl rfl rfl (fun h12 => ?_) (fun h12 => ?_)
          · have l13 : 1 ≤ y11_3.toInt := t_lel h12 l4
            refine ev_incR f_X0_fitsLast (nx := 110) (c := 1) (l := 1) (u := 3) rfl rfl (by decide) (by decide) l1_2 u3 rfl rfl (by decide) (by decide) rfl (fun z14 e14 l14 u14 => ?_)
            refine ev_jmp f_X0_fitsLast (nx := 2) rfl rfl rfl ?_
            refine ev_sub (lo := [(2, .int z14), (0, .ref 22), (1, .int ar1)]) rfl (t_sc rfl (t_sc rfl (t_sc rfl t_sn))) ?_
            exact ih1 _ (by omega) gi11 gl11 gr11 (z14) hI hX  (Int.le_trans (by decide : (0:Int) ≤ 1) l14) u14 rfl
          · have u15 : y11_3.toInt ≤ 2 := t_ltu (t_nle h12) u_a1 rfl
            refine ev_loc f_X0_fitsLast (nx := 31) rfl rfl rfl rfl ?_
            refine ev_loc f_X0_fitsLast (nx := 32) rfl rfl rfl rfl ?_
            refine ev_cL f_X0_fitsLast (nx := 35) (r := []) rfl rfl rfl rfl rfl rfl rfl (c_heardInRow hI (y1_2)) rfl hX rfl (fun w16 gi16 gl16 gr16 hI hX hC16 => ?_)
            refine ev_loc f_X0_fitsLast (nx := 36) rfl rfl rfl rfl ?_
            refine ev_loc f_X0_fitsLast (nx := 37) rfl rfl rfl rfl ?_
            refine ev_cL f_X0_fitsLast (nx := 40) (r := [.long w16]) rfl rfl rfl rfl rfl rfl rfl (c_heardInRow hI (y11_3)) rfl hX rfl (fun w17 gi17 gl17 gr17 hI hX hC17 => ?_)
            refine ev_anyL f_X0_fitsLast (nx := 41) rfl rfl rfl rfl (fun z18 => ?_)
            refine ev_loc f_X0_fitsLast (nx := 42) rfl rfl rfl rfl ?_
            refine ev_loc f_X0_fitsLast (nx := 43) rfl rfl rfl rfl ?_
            refine ev_cL f_X0_fitsLast (nx := 46) (r := [.long z18]) rfl rfl rfl rfl rfl rfl rfl (c_heardInRow hI (ar1)) rfl hX rfl (fun w19 gi19 gl19 gr19 hI hX hC19 => ?_)
            refine ev_anyI f_X0_fitsLast (nx := 47) rfl rfl rfl rfl (fun z20 => ?_)
            refine ev_if f_X0_fitsLast (t1 := 50) (t2 := 54) rfl rfl rfl (fun h21 => ?_) (fun h21 => ?_)
            · have u22 : z20.toInt ≤ 0 := t_equ h21 (by decide : (0:Int32).toInt ≤ (0:Int))
              have l23 : 0 ≤ z20.toInt := t_eql h21 (by decide : (0:Int) ≤ (0:Int32).toInt)
              refine ev_ic f_X0_fitsLast (nx := 51) (v := 1) rfl (by decide) rfl ?_
              refine ev_jmp f_X0_fitsLast (nx := 55) rfl rfl rfl ?_
              refine ev_loc f_X0_fitsLast (nx := 57) (lo' := [(4, .int 1), (3, .int y11_3), (2, .int y1_2), (0, .ref 22), (1, .int ar1)]) rfl rfl rfl rfl ?_
              refine ev_loc f_X0_fitsLast (nx := 58) rfl rfl rfl rfl ?_
              refine ev_loc f_X0_fitsLast (nx := 59) rfl rfl rfl rfl ?_
              refine ev_cL f_X0_fitsLast (nx := 62) (r := []) rfl rfl rfl rfl rfl rfl rfl (c_heardInRow hI (y1_2)) rfl hX rfl (fun w24 gi24 gl24 gr24 hI hX hC24 => ?_)
              refine ev_loc f_X0_fitsLast (nx := 63) rfl rfl rfl rfl ?_
              refine ev_loc f_X0_fitsLast (nx := 64) rfl rfl rfl rfl ?_
              refine ev_cL f_X0_fitsLast (nx := 67) (r := [.long w24]) rfl rfl rfl rfl rfl rfl rfl (c_heardInRow hI (ar1)) rfl hX rfl (fun w25 gi25 gl25 gr25 hI hX hC25 => ?_)
              refine ev_anyL f_X0_fitsLast (nx := 68) rfl rfl rfl rfl (fun z26 => ?_)
              refine ev_loc f_X0_fitsLast (nx := 69) rfl rfl rfl rfl ?_
              refine ev_loc f_X0_fitsLast (nx := 70) rfl rfl rfl rfl ?_
              refine ev_cL f_X0_fitsLast (nx := 73) (r := [.long z26]) rfl rfl rfl rfl rfl rfl rfl (c_heardInRow hI (y11_3)) rfl hX rfl (fun w27 gi27 gl27 gr27 hI hX hC27 => ?_)
              refine ev_anyI f_X0_fitsLast (nx := 74) rfl rfl rfl rfl (fun z28 => ?_)
              refine ev_if f_X0_fitsLast (t1 := 77) (t2 := 81) rfl rfl rfl (fun h29 => ?_) (fun h29 => ?_)
              · have u30 : z28.toInt ≤ 0 := t_equ h29 (by decide : (0:Int32).toInt ≤ (0:Int))
                have l31 : 0 ≤ z28.toInt := t_eql h29 (by decide : (0:Int) ≤ (0:Int32).toInt)
                refine ev_ic f_X0_fitsLast (nx := 78) (v := 1) rfl (by decide) rfl ?_
                refine ev_jmp f_X0_fitsLast (nx := 82) rfl rfl rfl ?_
                refine ev_loc f_X0_fitsLast (nx := 84) (lo' := [(5, .int 1), (4, .int 1), (3, .int y11_3), (2, .int y1_2), (0, .ref 22), (1, .int ar1)]) rfl rfl rfl rfl ?_
                refine ev_loc f_X0_fitsLast (nx := 85) rfl rfl rfl rfl ?_
                refine ev_loc f_X0_fitsLast (nx := 86) rfl rfl rfl rfl ?_
                refine ev_if f_X0_fitsLast (t1 := 101) (t2 := 89) rfl rfl rfl (fun h32 => ?_) (fun h32 => ?_)
                · refine ev_incR f_X0_fitsLast (nx := 104) (c := 1) (l := 1) (u := 3) rfl rfl (by decide) (by decide) l11_3 u15 rfl rfl (by decide) (by decide) rfl (fun z33 e33 l33 u33 => ?_)
                  refine ev_jmp f_X0_fitsLast (nx := 25) rfl rfl rfl ?_
                  refine ev_sub (lo := [(3, .int z33), (2, .int y1_2), (0, .ref 22), (1, .int ar1)]) rfl (t_sc rfl (t_sc rfl (t_sc rfl (t_sc rfl t_sn)))) ?_
                  exact ih11 _ (by omega) gi27 gl27 gr27 (z33) hI hX  (Int.le_trans (by decide : (0:Int) ≤ 1) l33) u33 rfl
                · refine ev_loc f_X0_fitsLast (nx := 91) rfl rfl rfl rfl ?_
                  refine ev_f f_X0_fitsLast (t1 := 94) (t2 := 99) rfl rfl rfl (by decide) ?_
                  refine ev_ic f_X0_fitsLast (nx := 100) (v := 0) rfl (by decide) rfl ?_
                  exact ev_ret f_X0_fitsLast rfl rfl rfl ⟨_, _, _, rfl, hI, hX, ⟨_, rfl, (by decide : (0:Int) ≤ (0:Int32).toInt), (Int.le_trans (by decide : (0:Int32).toInt ≤ (0:Int)) (by decide : (0:Int) ≤ 1))⟩⟩
              · refine ev_ic f_X0_fitsLast (nx := 82) (v := 0) rfl (by decide) rfl ?_
                refine ev_loc f_X0_fitsLast (nx := 84) (lo' := [(5, .int 0), (4, .int 1), (3, .int y11_3), (2, .int y1_2), (0, .ref 22), (1, .int ar1)]) rfl rfl rfl rfl ?_
                refine ev_loc f_X0_fitsLast (nx := 85) rfl rfl rfl rfl ?_
                refine ev_loc f_X0_fitsLast (nx := 86) rfl rfl rfl rfl ?_
                refine ev_if f_X0_fitsLast (t1 := 101) (t2 := 89) rfl rfl rfl (fun h34 => ?_) (fun h34 => ?_)
                · refine ev_incR f_X0_fitsLast (nx := 104) (c := 1) (l := 1) (u := 3) rfl rfl (by decide) (by decide) l11_3 u15 rfl rfl (by decide) (by decide) rfl (fun z35 e35 l35 u35 => ?_)
                  refine ev_jmp f_X0_fitsLast (nx := 25) rfl rfl rfl ?_
                  refine ev_sub (lo := [(3, .int z35), (2, .int y1_2), (0, .ref 22), (1, .int ar1)]) rfl (t_sc rfl (t_sc rfl (t_sc rfl (t_sc rfl t_sn)))) ?_
                  exact ih11 _ (by omega) gi27 gl27 gr27 (z35) hI hX  (Int.le_trans (by decide : (0:Int) ≤ 1) l35) u35 rfl
                · refine ev_loc f_X0_fitsLast (nx := 91) rfl rfl rfl rfl ?_
                  refine ev_f f_X0_fitsLast (t1 := 94) (t2 := 99) rfl rfl rfl (by decide) ?_
                  refine ev_ic f_X0_fitsLast (nx := 100) (v := 0) rfl (by decide) rfl ?_
                  exact ev_ret f_X0_fitsLast rfl rfl rfl ⟨_, _, _, rfl, hI, hX, ⟨_, rfl, (by decide : (0:Int) ≤ (0:Int32).toInt), (Int.le_trans (by decide : (0:Int32).toInt ≤ (0:Int)) (by decide : (0:Int) ≤ 1))⟩⟩
            · refine ev_ic f_X0_fitsLast (nx := 55) (v := 0) rfl (by decide) rfl ?_
              refine ev_loc f_X0_fitsLast (nx := 57) (lo' := [(4, .int 0), (3, .int y11_3), (2, .int y1_2), (0, .ref 22), (1, .int ar1)]) rfl rfl rfl rfl ?_
              refine ev_loc f_X0_fitsLast (nx := 58) rfl rfl rfl rfl ?_
              refine ev_loc f_X0_fitsLast (nx := 59) rfl rfl rfl rfl ?_
              refine ev_cL f_X0_fitsLast (nx := 62) (r := []) rfl rfl rfl rfl rfl rfl rfl (c_heardInRow hI (y1_2)) rfl hX rfl (fun w36 gi36 gl36 gr36 hI hX hC36 => ?_)
              refine ev_loc f_X0_fitsLast (nx := 63) rfl rfl rfl rfl ?_
              refine ev_loc f_X0_fitsLast (nx := 64) rfl rfl rfl rfl ?_
              refine ev_cL f_X0_fitsLast (nx := 67) (r := [.long w36]) rfl rfl rfl rfl rfl rfl rfl (c_heardInRow hI (ar1)) rfl hX rfl (fun w37 gi37 gl37 gr37 hI hX hC37 => ?_)
              refine ev_anyL f_X0_fitsLast (nx := 68) rfl rfl rfl rfl (fun z38 => ?_)
              refine ev_loc f_X0_fitsLast (nx := 69) rfl rfl rfl rfl ?_
              refine ev_loc f_X0_fitsLast (nx := 70) rfl rfl rfl rfl ?_
              refine ev_cL f_X0_fitsLast (nx := 73) (r := [.long z38]) rfl rfl rfl rfl rfl rfl rfl (c_heardInRow hI (y11_3)) rfl hX rfl (fun w39 gi39 gl39 gr39 hI hX hC39 => ?_)
              refine ev_anyI f_X0_fitsLast (nx := 74) rfl rfl rfl rfl (fun z40 => ?_)
              refine ev_if f_X0_fitsLast (t1 := 77) (t2 := 81) rfl rfl rfl (fun h41 => ?_) (fun h41 => ?_)
              · have u42 : z40.toInt ≤ 0 := t_equ h41 (by decide : (0:Int32).toInt ≤ (0:Int))
                have l43 : 0 ≤ z40.toInt := t_eql h41 (by decide : (0:Int) ≤ (0:Int32).toInt)
                refine ev_ic f_X0_fitsLast (nx := 78) (v := 1) rfl (by decide) rfl ?_
                refine ev_jmp f_X0_fitsLast (nx := 82) rfl rfl rfl ?_
                refine ev_loc f_X0_fitsLast (nx := 84) (lo' := [(5, .int 1), (4, .int 0), (3, .int y11_3), (2, .int y1_2), (0, .ref 22), (1, .int ar1)]) rfl rfl rfl rfl ?_
                refine ev_loc f_X0_fitsLast (nx := 85) rfl rfl rfl rfl ?_
                refine ev_loc f_X0_fitsLast (nx := 86) rfl rfl rfl rfl ?_
                refine ev_if f_X0_fitsLast (t1 := 101) (t2 := 89) rfl rfl rfl (fun h44 => ?_) (fun h44 => ?_)
                · refine ev_incR f_X0_fitsLast (nx := 104) (c := 1) (l := 1) (u := 3) rfl rfl (by decide) (by decide) l11_3 u15 rfl rfl (by decide) (by decide) rfl (fun z45 e45 l45 u45 => ?_)
                  refine ev_jmp f_X0_fitsLast (nx := 25) rfl rfl rfl ?_
                  refine ev_sub (lo := [(3, .int z45), (2, .int y1_2), (0, .ref 22), (1, .int ar1)]) rfl (t_sc rfl (t_sc rfl (t_sc rfl (t_sc rfl t_sn)))) ?_
                  exact ih11 _ (by omega) gi39 gl39 gr39 (z45) hI hX  (Int.le_trans (by decide : (0:Int) ≤ 1) l45) u45 rfl
                · refine ev_loc f_X0_fitsLast (nx := 91) rfl rfl rfl rfl ?_
                  refine ev_t f_X0_fitsLast (t1 := 94) (t2 := 99) rfl rfl rfl (by decide) ?_
                  refine ev_loc f_X0_fitsLast (nx := 96) rfl rfl rfl rfl ?_
                  refine ev_f f_X0_fitsLast (t1 := 101) (t2 := 99) rfl rfl rfl (by decide) ?_
                  refine ev_ic f_X0_fitsLast (nx := 100) (v := 0) rfl (by decide) rfl ?_
                  exact ev_ret f_X0_fitsLast rfl rfl rfl ⟨_, _, _, rfl, hI, hX, ⟨_, rfl, (by decide : (0:Int) ≤ (0:Int32).toInt), (Int.le_trans (by decide : (0:Int32).toInt ≤ (0:Int)) (by decide : (0:Int) ≤ 1))⟩⟩
              · refine ev_ic f_X0_fitsLast (nx := 82) (v := 0) rfl (by decide) rfl ?_
                refine ev_loc f_X0_fitsLast (nx := 84) (lo' := [(5, .int 0), (4, .int 0), (3, .int y11_3), (2, .int y1_2), (0, .ref 22), (1, .int ar1)]) rfl rfl rfl rfl ?_
                refine ev_loc f_X0_fitsLast (nx := 85) rfl rfl rfl rfl ?_
                refine ev_loc f_X0_fitsLast (nx := 86) rfl rfl rfl rfl ?_
                refine ev_if f_X0_fitsLast (t1 := 101) (t2 := 89) rfl rfl rfl (fun h46 => ?_) (fun h46 => ?_)
                · refine ev_incR f_X0_fitsLast (nx := 104) (c := 1) (l := 1) (u := 3) rfl rfl (by decide) (by decide) l11_3 u15 rfl rfl (by decide) (by decide) rfl (fun z47 e47 l47 u47 => ?_)
                  refine ev_jmp f_X0_fitsLast (nx := 25) rfl rfl rfl ?_
                  refine ev_sub (lo := [(3, .int z47), (2, .int y1_2), (0, .ref 22), (1, .int ar1)]) rfl (t_sc rfl (t_sc rfl (t_sc rfl (t_sc rfl t_sn)))) ?_
                  exact ih11 _ (by omega) gi39 gl39 gr39 (z47) hI hX  (Int.le_trans (by decide : (0:Int) ≤ 1) l47) u47 rfl
                · refine ev_loc f_X0_fitsLast (nx := 91) rfl rfl rfl rfl ?_
                  refine ev_t f_X0_fitsLast (t1 := 94) (t2 := 99) rfl rfl rfl (by decide) ?_
                  refine ev_loc f_X0_fitsLast (nx := 96) rfl rfl rfl rfl ?_
                  refine ev_t f_X0_fitsLast (t1 := 101) (t2 := 99) rfl rfl rfl (by decide) ?_
                  refine ev_incR f_X0_fitsLast (nx := 104) (c := 1) (l := 1) (u := 3) rfl rfl (by decide) (by decide) l11_3 u15 rfl rfl (by decide) (by decide) rfl (fun z48 e48 l48 u48 => ?_)
                  refine ev_jmp f_X0_fitsLast (nx := 25) rfl rfl rfl ?_
                  refine ev_sub (lo := [(3, .int z48), (2, .int y1_2), (0, .ref 22), (1, .int ar1)]) rfl (t_sc rfl (t_sc rfl (t_sc rfl (t_sc rfl t_sn)))) ?_
                  exact ih11 _ (by omega) gi39 gl39 gr39 (z48) hI hX  (Int.le_trans (by decide : (0:Int) ≤ 1) l48) u48 rfl
        refine ev_sub (lo := [(3, .int 0), (2, .int y1_2), (0, .ref 22), (1, .int ar1)]) rfl (t_sc rfl (t_sc rfl (t_sc rfl (t_sc rfl t_sn)))) ?_
        exact L11 _ gi6 gl6 gr6 (0) hI hX  (by decide : (0:Int) ≤ (0:Int32).toInt) (Int.le_trans (by decide : (0:Int32).toInt ≤ (0:Int)) (by decide : (0:Int) ≤ 3)) rfl
  refine ev_sub (lo := [(2, .int 0), (0, .ref 22), (1, .int ar1)]) rfl (t_sc rfl (t_sc rfl (t_sc rfl t_sn))) ?_
  exact L1 _ gi gl gr (0) hI hX  (by decide : (0:Int) ≤ (0:Int32).toInt) (Int.le_trans (by decide : (0:Int32).toInt ≤ (0:Int)) (by decide : (0:Int) ≤ 3)) rfl
noncomputable def wl_extend : List (Nat × Nat) := [(26, 9999)]
theorem r_extend {X : x_Ext} {d : Nat} {sh : List (Nat ⊕ (Nat × Nat))} : ∀ (r : Nat) {gi : Nat → Nat → Int32} {gl : Nat → Nat → Int64} {gr : Nat → Nat → Value} (hI : t_I sh gi gr) (ar1 : Int32) (l_a1 : 0 ≤ ar1.toInt) (u_a1 : ar1.toInt ≤ 4) (ar2 : Int32) (ar3 : Int32) (l_a3 : 0 ≤ ar3.toInt) (u_a3 : ar3.toInt ≤ 30) (ar4 : Int32) (l_a4 : 0 ≤ ar4.toInt) (u_a4 : ar4.toInt ≤ 30), (5 - ar1.toInt).toNat < r → x_Me X (d + r + 3) n_X0_extend [.ref 22, .int ar1, .int ar2, .int ar3, .int ar4] (sh, gi, gl, gr) (t_P wl_extend sh gi gl gr (t_Ri 0 1)) := by
  intro r
  induction r with
  | zero => intro gi gl gr hI ar1 l_a1 u_a1 ar2 ar3 l_a3 u_a3 ar4 l_a4 u_a4 hr; omega
  | succ r ih =>
  intro gi gl gr hI ar1 l_a1 u_a1 ar2 ar3 l_a3 u_a3 ar4 l_a4 u_a4 hr
  rw [show d + (r + 1) + 3 = d + r + 4 by omega]
  have hX : t_X wl_extend sh gi gl gr gi gl gr := t_X.rf
  refine me_i f_X0_extend (hI.wf.s rfl) rfl rfl rfl ?_
  refine ev_loc f_X0_extend (nx := 1) rfl rfl rfl rfl ?_
  refine ev_loc f_X0_extend (nx := 2) rfl rfl rfl rfl ?_
  refine ev_if f_X0_extend (t1 := 7) (t2 := 5) rfl rfl rfl (fun h1 => ?_) (fun h1 => ?_)
  · have l2 : 1 ≤ ar2.toInt := t_ltl h1 l_a1 rfl
    refine ev_loc f_X0_extend (nx := 8) rfl rfl rfl rfl ?_
    refine ev_loc f_X0_extend (nx := 10) (lo' := [(5, .int ar3), (0, .ref 22), (1, .int ar1), (2, .int ar2), (3, .int ar3), (4, .int ar4)]) rfl rfl rfl rfl ?_
    have L3 : ∀ (m3 : Nat) (gi3 : Nat → Nat → Int32) (gl3 : Nat → Nat → Int64) (gr3 : Nat → Nat → Value) (y3_5 : Int32), t_I sh gi3 gr3 → t_X wl_extend sh gi gl gr gi3 gl3 gr3 → 0 ≤ y3_5.toInt → y3_5.toInt ≤ 30 → (30 - y3_5.toInt).toNat = m3 → x_Ev X (d + r + 4) n_X0_extend 10 [(5, .int y3_5), (0, .ref 22), (1, .int ar1), (2, .int ar2), (3, .int ar3), (4, .int ar4)] [] (sh, gi3, gl3, gr3) (t_P wl_extend sh gi gl gr (t_Ri 0 1)) := by
      intro m3
      induction m3 using Nat.strongRecOn with
      | _ m3 ih3 =>
      intro gi3 gl3 gr3 y3_5 hI hX l3_5 u3_5 hm3
      refine ev_loc f_X0_extend (nx := 12) rfl rfl rfl rfl ?_
      refine ev_loc f_X0_extend (nx := 14) rfl rfl rfl rfl ?_
      refine ev_if f_X0_extend (t1 := 67) (t2 := 17) rfl rfl rfl (fun h4 => ?_) (fun h4 => ?_)
      · refine ev_ic f_X0_extend (nx := 68) (v := 0) rfl (by decide) rfl ?_
        exact ev_ret f_X0_extend rfl rfl rfl ⟨_, _, _, rfl, hI, hX, ⟨_, rfl, (by decide : (0:Int) ≤ (0:Int32).toInt), (Int.le_trans (by decide : (0:Int32).toInt ≤ (0:Int)) (by decide : (0:Int) ≤ 1))⟩⟩
      · have u5 : y3_5.toInt ≤ 29 := t_ltu (t_nle h4) u_a4 rfl
        have l6 : 1 ≤ ar4.toInt := t_ltl (t_nle h4) l3_5 rfl
        refine ev_loc f_X0_extend (nx := 18) rfl rfl rfl rfl ?_
        refine ev_loc f_X0_extend (nx := 19) rfl rfl rfl rfl ?_
        refine ev_getR f_X0_extend (nx := 22) rfl (hI.wf.s rfl) rfl rfl (hI.wf.r rfl) rfl rfl ?_
        refine ev_alenv f_X0_extend (nx := 23) (w := 4) rfl (hI.wf.s rfl) rfl (by decide) rfl ?_
        refine ev_if f_X0_extend (t1 := 67) (t2 := 26) rfl rfl rfl (fun h7 => ?_) (fun h7 => ?_)
        · have l8 : 4 ≤ ar1.toInt := t_lel h7 (by decide : (4:Int) ≤ (4:Int32).toInt)
          refine ev_ic f_X0_extend (nx := 68) (v := 0) rfl (by decide) rfl ?_
          exact ev_ret f_X0_extend rfl rfl rfl ⟨_, _, _, rfl, hI, hX, ⟨_, rfl, (by decide : (0:Int) ≤ (0:Int32).toInt), (Int.le_trans (by decide : (0:Int32).toInt ≤ (0:Int)) (by decide : (0:Int) ≤ 1))⟩⟩
        · have u9 : ar1.toInt ≤ 3 := t_ltu (t_nle h7) (by decide : (4:Int32).toInt ≤ (4:Int)) rfl
          refine ev_loc f_X0_extend (nx := 27) rfl rfl rfl rfl ?_
          refine ev_getR f_X0_extend (nx := 30) rfl (hI.wf.s rfl) rfl rfl (hI.wf.r rfl) rfl rfl ?_
          refine ev_loc f_X0_extend (nx := 31) rfl rfl rfl rfl ?_
          refine ev_loc f_X0_extend (nx := 33) rfl rfl rfl rfl ?_
          refine ev_iastT f_X0_extend (nx := 34) rfl (hI.wf.s rfl) l_a1 (by decide) u9 (by decide) rfl (hI.astL (hI.wf.s rfl) (by decide +kernel : t_abw 26 0 3 0 29 = true) (t_cl1 l_a1 (by decide)) (t_cl2 l_a1 u9 (by decide) (by decide)) l3_5 u5 rfl) (hX.upI (t_inA_ok rfl)) (fun g10 e10 hI hX => ?_)
          refine ev_loc f_X0_extend (nx := 35) rfl rfl rfl rfl ?_
          refine ev_loc f_X0_extend (nx := 36) rfl rfl rfl rfl ?_
          refine ev_cI f_X0_extend (nx := 39) (r := []) rfl rfl rfl rfl rfl rfl rfl (c_fitsLast hI (ar1) l_a1 u9) rfl hX rfl (fun w11 gi11 gl11 gr11 l11 u11 hI hX hC11 => ?_)
          refine ev_if f_X0_extend (t1 := 61) (t2 := 42) rfl rfl rfl (fun h12 => ?_) (fun h12 => ?_)
          · have u13 : w11.toInt ≤ 0 := t_equ h12 (by decide : (0:Int32).toInt ≤ (0:Int))
            refine ev_incR f_X0_extend (nx := 64) (c := 1) (l := 1) (u := 30) rfl rfl (by decide) (by decide) l3_5 u5 rfl rfl (by decide) (by decide) rfl (fun z14 e14 l14 u14 => ?_)
            refine ev_jmp f_X0_extend (nx := 10) rfl rfl rfl ?_
            refine ev_sub (lo := [(5, .int z14), (0, .ref 22), (1, .int ar1), (2, .int ar2), (3, .int ar3), (4, .int ar4)]) rfl (t_sc rfl (t_sc rfl (t_sc rfl (t_sc rfl (t_sc rfl (t_sc rfl t_sn)))))) ?_
            exact ih3 _ (by omega) gi11 gl11 gr11 (z14) hI hX  (Int.le_trans (by decide : (0:Int) ≤ 1) l14) u14 rfl
          · have l15 : 1 ≤ w11.toInt := t_nel h12 l11 rfl rfl
            refine ev_loc f_X0_extend (nx := 43) rfl rfl rfl rfl ?_
            refine ev_loc f_X0_extend (nx := 44) rfl rfl rfl rfl ?_
            refine ev_ic f_X0_extend (nx := 45) (v := 1) rfl (by decide) rfl ?_
            refine ev_addC f_X0_extend (nx := 46) (c := 1) (l := 1) (u := 4) rfl (by decide) l_a1 u9 rfl rfl (by decide) (by decide) rfl (fun z16 e16 l16 u16 => ?_)
            refine ev_loc f_X0_extend (nx := 47) rfl rfl rfl rfl ?_
            refine ev_loc f_X0_extend (nx := 49) rfl rfl rfl rfl ?_
            refine ev_ic f_X0_extend (nx := 50) (v := 1) rfl (by decide) rfl ?_
            refine ev_addC f_X0_extend (nx := 51) (c := 1) (l := 1) (u := 30) rfl (by decide) l3_5 u5 rfl rfl (by decide) (by decide) rfl (fun z17 e17 l17 u17 => ?_)
            refine ev_loc f_X0_extend (nx := 53) rfl rfl rfl rfl ?_
            refine ev_cI f_X0_extend (nx := 56) (r := []) rfl rfl rfl rfl rfl rfl rfl (x_Me.up (ih hI (z16) (Int.le_trans (by decide : (0:Int) ≤ 1) l16) u16 (ar2) (z17) (Int.le_trans (by decide : (0:Int) ≤ 1) l17) u17 (ar4) (Int.le_trans (by decide : (0:Int) ≤ 1) l6) u_a4 (by omega)) (by omega)) rfl hX rfl (fun w18 gi18 gl18 gr18 l18 u18 hI hX hC18 => ?_)
            refine ev_if f_X0_extend (t1 := 61) (t2 := 59) rfl rfl rfl (fun h19 => ?_) (fun h19 => ?_)
            · have u20 : w18.toInt ≤ 0 := t_equ h19 (by decide : (0:Int32).toInt ≤ (0:Int))
              refine ev_incR f_X0_extend (nx := 64) (c := 1) (l := 1) (u := 30) rfl rfl (by decide) (by decide) l3_5 u5 rfl rfl (by decide) (by decide) rfl (fun z21 e21 l21 u21 => ?_)
              refine ev_jmp f_X0_extend (nx := 10) rfl rfl rfl ?_
              refine ev_sub (lo := [(5, .int z21), (0, .ref 22), (1, .int ar1), (2, .int ar2), (3, .int ar3), (4, .int ar4)]) rfl (t_sc rfl (t_sc rfl (t_sc rfl (t_sc rfl (t_sc rfl (t_sc rfl t_sn)))))) ?_
              exact ih3 _ (by omega) gi18 gl18 gr18 (z21) hI hX  (Int.le_trans (by decide : (0:Int) ≤ 1) l21) u21 rfl
            · have l22 : 1 ≤ w18.toInt := t_nel h19 l18 rfl rfl
              refine ev_ic f_X0_extend (nx := 60) (v := 1) rfl (by decide) rfl ?_
              exact ev_ret f_X0_extend rfl rfl rfl ⟨_, _, _, rfl, hI, hX, ⟨_, rfl, (Int.le_trans (by decide : (0:Int) ≤ 1) (by decide : (1:Int) ≤ (1:Int32).toInt)), (by decide : (1:Int32).toInt ≤ (1:Int))⟩⟩
    refine ev_sub (lo := [(5, .int ar3), (0, .ref 22), (1, .int ar1), (2, .int ar2), (3, .int ar3), (4, .int ar4)]) rfl (t_sc rfl (t_sc rfl (t_sc rfl (t_sc rfl (t_sc rfl (t_sc rfl t_sn)))))) ?_
    exact L3 _ gi gl gr (ar3) hI hX  l_a3 u_a3 rfl
  · have u23 : ar2.toInt ≤ 4 := t_leu (t_nlt h1) u_a1
    refine ev_ic f_X0_extend (nx := 6) (v := 1) rfl (by decide) rfl ?_
    exact ev_ret f_X0_extend rfl rfl rfl ⟨_, _, _, rfl, hI, hX, ⟨_, rfl, (Int.le_trans (by decide : (0:Int) ≤ 1) (by decide : (1:Int) ≤ (1:Int32).toInt)), (by decide : (1:Int32).toInt ≤ (1:Int))⟩⟩
theorem c_extend {X : x_Ext} {d : Nat} {sh : List (Nat ⊕ (Nat × Nat))} {gi : Nat → Nat → Int32} {gl : Nat → Nat → Int64} {gr : Nat → Nat → Value} (hI : t_I sh gi gr) (ar1 : Int32) (l_a1 : 0 ≤ ar1.toInt) (u_a1 : ar1.toInt ≤ 4) (ar2 : Int32) (ar3 : Int32) (l_a3 : 0 ≤ ar3.toInt) (u_a3 : ar3.toInt ≤ 30) (ar4 : Int32) (l_a4 : 0 ≤ ar4.toInt) (u_a4 : ar4.toInt ≤ 30) : x_Me X (d + 9) n_X0_extend [.ref 22, .int ar1, .int ar2, .int ar3, .int ar4] (sh, gi, gl, gr) (t_P wl_extend sh gi gl gr (t_Ri 0 1)) := r_extend 6 hI ar1 l_a1 u_a1 ar2 ar3 l_a3 u_a3 ar4 l_a4 u_a4 (by omega)
noncomputable def wl_find : List (Nat × Nat) := [(22, 6), (25, 9999), (26, 9999), (27, 9999)]
theorem c_find {X : x_Ext} {d : Nat} {sh : List (Nat ⊕ (Nat × Nat))} {gi : Nat → Nat → Int32} {gl : Nat → Nat → Int64} {gr : Nat → Nat → Value} (hI : t_I sh gi gr) (ar1 : Int32) (l_a1 : 1 ≤ ar1.toInt) (u_a1 : ar1.toInt ≤ 4) (ar2 : Int32) (l_a2 : 1 ≤ ar2.toInt) (u_a2 : ar2.toInt ≤ 4) (ar3 : Int32) (l_a3 : 0 ≤ ar3.toInt) (u_a3 : ar3.toInt ≤ 9) : x_Me X (d + 10) n_X0_find [.ref 22, .int ar1, .int ar2, .int ar3] (sh, gi, gl, gr) (t_P wl_find sh gi gl gr (t_Ri 0 1)) := by
  have hX : t_X wl_find sh gi gl gr gi gl gr := t_X.rf
  refine me_i f_X0_find (hI.wf.s rfl) rfl rfl rfl ?_
  refine ev_ic f_X0_find (nx := 1) (v := 0) rfl (by decide) rfl ?_
  refine ev_loc f_X0_find (nx := 3) (lo' := [(4, .int 0), (0, .ref 22), (1, .int ar1), (2, .int ar2), (3, .int ar3)]) rfl rfl rfl rfl ?_
  refine ev_ic f_X0_find (nx := 4) (v := 0) rfl (by decide) rfl ?_
  refine ev_loc f_X0_find (nx := 6) (lo' := [(5, .int 0), (4, .int 0), (0, .ref 22), (1, .int ar1), (2, .int ar2), (3, .int ar3)]) rfl rfl rfl rfl ?_
  have L1 : ∀ (m1 : Nat) (gi1 : Nat → Nat → Int32) (gl1 : Nat → Nat → Int64) (gr1 : Nat → Nat → Value) (y1_5 : Int32) (y1_4 : Int32), t_I sh gi1 gr1 → t_X wl_find sh gi gl gr gi1 gl1 gr1 → 0 ≤ y1_5.toInt → y1_5.toInt ≤ 30 → 0 ≤ y1_4.toInt → y1_4.toInt ≤ 30 → (30 - y1_5.toInt).toNat = m1 → x_Ev X (d + 10) n_X0_find 6 [(5, .int y1_5), (4, .int y1_4), (0, .ref 22), (1, .int ar1), (2, .int ar2), (3, .int ar3)] [] (sh, gi1, gl1, gr1) (t_P wl_find sh gi gl gr (t_Ri 0 1)) := by
    intro m1
    induction m1 using Nat.strongRecOn with
    | _ m1 ih1 =>
    intro gi1 gl1 gr1 y1_5 y1_4 hI hX l1_5 u1_5 l1_4 u1_4 hm1
    refine ev_loc f_X0_find (nx := 8) rfl rfl rfl rfl ?_
    refine ev_loc f_X0_find (nx := 9) rfl rfl rfl rfl ?_
    refine ev_getI f_X0_find (nx := 12) rfl (hI.wf.s rfl) rfl rfl rfl ?_
    obtain ⟨l2, u2⟩ := hI.b (hI.wf.s (k := 22) rfl) (t_bdK rfl : t_bd 0 3 = some (0, 30))
    refine ev_if f_X0_find (t1 := 59) (t2 := 15) rfl rfl rfl (fun h3 => ?_) (fun h3 => ?_)
    · refine ev_loc f_X0_find (nx := 60) rfl rfl rfl rfl ?_
      refine ev_loc f_X0_find (nx := 61) rfl rfl rfl rfl ?_
      refine ev_getR f_X0_find (nx := 64) rfl (hI.wf.s rfl) rfl rfl (hI.wf.r rfl) rfl rfl ?_
      refine ev_alenv f_X0_find (nx := 65) (w := 4) rfl (hI.wf.s rfl) rfl (by decide) rfl ?_
      refine ev_f f_X0_find (t1 := 80) (t2 := 68) rfl rfl rfl (t_ltF u_a1 (by decide : (4:Int) ≤ (4:Int32).toInt) (by decide)) ?_
      refine ev_loc f_X0_find (nx := 69) rfl rfl rfl rfl ?_
      refine ev_ic f_X0_find (nx := 70) (v := 0) rfl (by decide) rfl ?_
      refine ev_loc f_X0_find (nx := 71) rfl rfl rfl rfl ?_
      refine ev_ic f_X0_find (nx := 72) (v := 0) rfl (by decide) rfl ?_
      refine ev_loc f_X0_find (nx := 74) rfl rfl rfl rfl ?_
      refine ev_cI f_X0_find (nx := 77) (r := []) rfl rfl rfl rfl rfl rfl rfl (c_extend hI (0) (by decide : (0:Int) ≤ (0:Int32).toInt) (Int.le_trans (by decide : (0:Int32).toInt ≤ (0:Int)) (by decide : (0:Int) ≤ 4)) (ar1) (0) (by decide : (0:Int) ≤ (0:Int32).toInt) (Int.le_trans (by decide : (0:Int32).toInt ≤ (0:Int)) (by decide : (0:Int) ≤ 30)) (y1_4) l1_4 u1_4) rfl hX rfl (fun w4 gi4 gl4 gr4 l4 u4 hI hX hC4 => ?_)
      refine ev_if f_X0_find (t1 := 80) (t2 := 82) rfl rfl rfl (fun h5 => ?_) (fun h5 => ?_)
      · have u6 : w4.toInt ≤ 0 := t_equ h5 (by decide : (0:Int32).toInt ≤ (0:Int))
        refine ev_ic f_X0_find (nx := 81) (v := 0) rfl (by decide) rfl ?_
        exact ev_ret f_X0_find rfl rfl rfl ⟨_, _, _, rfl, hI, hX, ⟨_, rfl, (by decide : (0:Int) ≤ (0:Int32).toInt), (Int.le_trans (by decide : (0:Int32).toInt ≤ (0:Int)) (by decide : (0:Int) ≤ 1))⟩⟩
      · have l7 : 1 ≤ w4.toInt := t_nel h5 l4 rfl rfl
        refine ev_loc f_X0_find (nx := 83) rfl rfl rfl rfl ?_
        refine ev_getR f_X0_find (nx := 86) rfl (hI.wf.s rfl) rfl rfl (hI.wf.r rfl) rfl rfl ?_
        refine ev_ic f_X0_find (nx := 87) (v := 0) rfl (by decide) rfl ?_
        refine ev_loc f_X0_find (nx := 88) rfl rfl rfl rfl ?_
        refine ev_getR f_X0_find (nx := 91) rfl (hI.wf.s rfl) rfl rfl (hI.wf.r rfl) rfl rfl ?_
        refine ev_ic f_X0_find (nx := 92) (v := 0) rfl (by decide) rfl ?_
        refine ev_loc f_X0_find (nx := 93) rfl rfl rfl rfl ?_
        refine ev_cpyTI f_X0_find (nx := 96) rfl rfl (hI.wf.s (k := 26) rfl) (hI.wf.s (k := 27) rfl) (by omega) (by decide : (0:Int) ≤ (0:Int32).toInt) (by decide : (0:Int32).toInt ≤ (0:Int)) (by decide : (0:Int) ≤ (0:Int32).toInt) (by decide : (0:Int32).toInt ≤ (0:Int)) (Int.le_trans (by decide : (0:Int) ≤ 1) l_a1) u_a1 (by decide) (by decide) rfl (hI.arr (hI.wf.s (k := 27) rfl) (t_cp27 hI _) (by decide)) (hX.arrI (fun j => t_inA_ok rfl)) (fun g8 hI hX => ?_)
        refine ev_loc f_X0_find (nx := 97) rfl rfl rfl rfl ?_
        refine ev_loc f_X0_find (nx := 98) rfl rfl rfl rfl ?_
        refine ev_putIT f_X0_find (nx := 101) rfl (hI.wf.s rfl) rfl rfl rfl (hI.putB (hI.wf.s rfl) rfl rfl l_a1 (by decide) u_a1 (by decide)) (hX.upI rfl) (fun g9 e9 hI hX => ?_)
        refine ev_ic f_X0_find (nx := 102) (v := 1) rfl (by decide) rfl ?_
        exact ev_ret f_X0_find rfl rfl rfl ⟨_, _, _, rfl, hI, hX, ⟨_, rfl, (Int.le_trans (by decide : (0:Int) ≤ 1) (by decide : (1:Int) ≤ (1:Int32).toInt)), (by decide : (1:Int32).toInt ≤ (1:Int))⟩⟩
    · have u10 : y1_5.toInt ≤ 29 := t_ltu (t_nle h3) u2 rfl
      have l11 : 1 ≤ (gi1 22 3).toInt := t_ltl (t_nle h3) l1_5 rfl
      refine ev_loc f_X0_find (nx := 16) rfl rfl rfl rfl ?_
      refine ev_getR f_X0_find (nx := 19) rfl (hI.wf.s rfl) rfl rfl (hI.wf.r rfl) rfl rfl ?_
      refine ev_loc f_X0_find (nx := 21) rfl rfl rfl rfl ?_
      refine ev_loc f_X0_find (nx := 22) rfl rfl rfl rfl ?_
      refine ev_getR f_X0_find (nx := 25) rfl (hI.wf.s rfl) rfl rfl (hI.wf.r rfl) rfl rfl ?_
      refine ev_loc f_X0_find (nx := 27) rfl rfl rfl rfl ?_
      refine ev_laldT f_X0_find (nx := 28) rfl (hI.wf.s rfl) l1_5 (by decide) u10 (by decide) rfl (fun w12 e12 => ?_)
      refine ev_cL f_X0_find (nx := 31) (r := [.int y1_5, .ref 25]) rfl rfl rfl rfl rfl rfl rfl (c_soundOf hI (w12)) rfl hX rfl (fun w13 gi13 gl13 gr13 hI hX hC13 => ?_)
      refine ev_loc f_X0_find (nx := 32) rfl rfl rfl rfl ?_
      refine ev_inS2 f_X0_find (nx := 35) (lo2 := [(0, .long w13), (2, .int ar3)]) rfl rfl rfl rfl f_X5_withEcho rfl rfl rfl rfl ?_
      refine ev_loc f_X5_withEcho (nx := 1) rfl rfl rfl rfl ?_
      refine ev_loc f_X5_withEcho (nx := 2) rfl rfl rfl rfl ?_
      refine ev_loc f_X5_withEcho (nx := 3) rfl rfl rfl rfl ?_
      refine ev_anyL f_X5_withEcho (nx := 4) rfl rfl rfl rfl (fun z14 => ?_)
      refine ev_anyL f_X5_withEcho (nx := 5) rfl rfl rfl rfl (fun z15 => ?_)
      refine ev_retK1 f_X5_withEcho rfl rfl rfl ?_
      refine ev_lastT f_X0_find (nx := 36) rfl (hI.wf.s rfl) l1_5 (by decide) u10 (by decide) rfl (hX.upL (t_inA_ok rfl)) (fun g16 e16 hX => ?_)
      refine ev_loc f_X0_find (nx := 37) rfl rfl rfl rfl ?_
      refine ev_getR f_X0_find (nx := 40) rfl (hI.wf.s rfl) rfl rfl (hI.wf.r rfl) rfl rfl ?_
      refine ev_loc f_X0_find (nx := 42) rfl rfl rfl rfl ?_
      refine ev_ialdT f_X0_find (nx := 43) rfl (hI.wf.s rfl) l1_5 (by decide) u10 (by decide) rfl (fun w17 e17 => ?_)
      refine ev_loc f_X0_find (nx := 44) rfl rfl rfl rfl ?_
      refine ev_if f_X0_find (t1 := 53) (t2 := 47) rfl rfl rfl (fun h18 => ?_) (fun h18 => ?_)
      · have l19 : 2 ≤ w17.toInt := t_ltl h18 l_a2 rfl
        refine ev_incR f_X0_find (nx := 56) (c := 1) (l := 1) (u := 30) rfl rfl (by decide) (by decide) l1_5 u10 rfl rfl (by decide) (by decide) rfl (fun z20 e20 l20 u20 => ?_)
        refine ev_jmp f_X0_find (nx := 6) rfl rfl rfl ?_
        refine ev_sub (lo := [(5, .int z20), (4, .int y1_4), (0, .ref 22), (1, .int ar1), (2, .int ar2), (3, .int ar3)]) rfl (t_sc rfl (t_sc rfl (t_sc rfl (t_sc rfl (t_sc rfl (t_sc rfl t_sn)))))) ?_
        exact ih1 _ (by omega) gi13 g16 gr13 (z20) (y1_4) hI hX  (Int.le_trans (by decide : (0:Int) ≤ 1) l20) u20 l1_4 u1_4 rfl
      · have u21 : w17.toInt ≤ 4 := t_leu (t_nlt h18) u_a2
        refine ev_loc f_X0_find (nx := 49) rfl rfl rfl rfl ?_
        refine ev_ic f_X0_find (nx := 50) (v := 1) rfl (by decide) rfl ?_
        refine ev_addC f_X0_find (nx := 51) (c := 1) (l := 1) (u := 30) rfl (by decide) l1_5 u10 rfl rfl (by decide) (by decide) rfl (fun z22 e22 l22 u22 => ?_)
        refine ev_loc f_X0_find (nx := 53) (lo' := [(4, .int z22), (5, .int y1_5), (0, .ref 22), (1, .int ar1), (2, .int ar2), (3, .int ar3)]) rfl rfl rfl rfl ?_
        refine ev_incR f_X0_find (nx := 56) (c := 1) (l := 1) (u := 30) rfl rfl (by decide) (by decide) l1_5 u10 rfl rfl (by decide) (by decide) rfl (fun z23 e23 l23 u23 => ?_)
        refine ev_jmp f_X0_find (nx := 6) rfl rfl rfl ?_
        refine ev_sub (lo := [(5, .int z23), (4, .int z22), (0, .ref 22), (1, .int ar1), (2, .int ar2), (3, .int ar3)]) rfl (t_sc rfl (t_sc rfl (t_sc rfl (t_sc rfl (t_sc rfl (t_sc rfl t_sn)))))) ?_
        exact ih1 _ (by omega) gi13 g16 gr13 (z23) (z22) hI hX  (Int.le_trans (by decide : (0:Int) ≤ 1) l23) u23 (Int.le_trans (by decide : (0:Int) ≤ 1) l22) u22 rfl
  refine ev_sub (lo := [(5, .int 0), (4, .int 0), (0, .ref 22), (1, .int ar1), (2, .int ar2), (3, .int ar3)]) rfl (t_sc rfl (t_sc rfl (t_sc rfl (t_sc rfl (t_sc rfl (t_sc rfl t_sn)))))) ?_
  exact L1 _ gi gl gr (0) (0) hI hX  (by decide : (0:Int) ≤ (0:Int32).toInt) (Int.le_trans (by decide : (0:Int32).toInt ≤ (0:Int)) (by decide : (0:Int) ≤ 30)) (by decide : (0:Int) ≤ (0:Int32).toInt) (Int.le_trans (by decide : (0:Int32).toInt ≤ (0:Int)) (by decide : (0:Int) ≤ 30)) rfl
noncomputable def wl_blastsTold : List (Nat × Nat) := []
theorem c_blastsTold {X : x_Ext} {d : Nat} {sh : List (Nat ⊕ (Nat × Nat))} {gi : Nat → Nat → Int32} {gl : Nat → Nat → Int64} {gr : Nat → Nat → Value} (hI : t_I sh gi gr) : x_Me X (d + 1) n_X0_blastsTold [.ref 22] (sh, gi, gl, gr) (t_P wl_blastsTold sh gi gl gr (t_Ri (-2147483648) 2147483647)) := by
  have hX : t_X wl_blastsTold sh gi gl gr gi gl gr := t_X.rf
  refine me_i f_X0_blastsTold (hI.wf.s rfl) rfl rfl rfl ?_
  refine ev_ic f_X0_blastsTold (nx := 1) (v := 0) rfl (by decide) rfl ?_
  refine ev_loc f_X0_blastsTold (nx := 2) (lo' := [(1, .int 0), (0, .ref 22)]) rfl rfl rfl rfl ?_
  refine ev_ic f_X0_blastsTold (nx := 3) (v := 0) rfl (by decide) rfl ?_
  refine ev_loc f_X0_blastsTold (nx := 4) (lo' := [(2, .int 0), (1, .int 0), (0, .ref 22)]) rfl rfl rfl rfl ?_
  have L1 : ∀ (m1 : Nat) (gi1 : Nat → Nat → Int32) (gl1 : Nat → Nat → Int64) (gr1 : Nat → Nat → Value) (y1_2 : Int32) (y1_1 : Int32), t_I sh gi1 gr1 → t_X wl_blastsTold sh gi gl gr gi1 gl1 gr1 → 0 ≤ y1_2.toInt → y1_2.toInt ≤ 4 → (4 - y1_2.toInt).toNat = m1 → x_Ev X (d + 1) n_X0_blastsTold 4 [(2, .int y1_2), (1, .int y1_1), (0, .ref 22)] [] (sh, gi1, gl1, gr1) (t_P wl_blastsTold sh gi gl gr (t_Ri (-2147483648) 2147483647)) := by
    intro m1
    induction m1 using Nat.strongRecOn with
    | _ m1 ih1 =>
    intro gi1 gl1 gr1 y1_2 y1_1 hI hX l1_2 u1_2 hm1
    refine ev_loc f_X0_blastsTold (nx := 5) rfl rfl rfl rfl ?_
    refine ev_loc f_X0_blastsTold (nx := 6) rfl rfl rfl rfl ?_
    refine ev_getI f_X0_blastsTold (nx := 9) rfl (hI.wf.s rfl) rfl rfl rfl ?_
    obtain ⟨l2, u2⟩ := hI.b (hI.wf.s (k := 22) rfl) (t_bdK rfl : t_bd 0 6 = some (0, 4))
    refine ev_if f_X0_blastsTold (t1 := 32) (t2 := 12) rfl rfl rfl (fun h3 => ?_) (fun h3 => ?_)
    · refine ev_loc f_X0_blastsTold (nx := 33) rfl rfl rfl rfl ?_
      exact ev_ret f_X0_blastsTold rfl rfl rfl ⟨_, _, _, rfl, hI, hX, ⟨_, rfl, (t_lo y1_1), (t_hi y1_1)⟩⟩
    · have u4 : y1_2.toInt ≤ 3 := t_ltu (t_nle h3) u2 rfl
      have l5 : 1 ≤ (gi1 22 6).toInt := t_ltl (t_nle h3) l1_2 rfl
      refine ev_loc f_X0_blastsTold (nx := 13) rfl rfl rfl rfl ?_
      refine ev_loc f_X0_blastsTold (nx := 14) rfl rfl rfl rfl ?_
      refine ev_getR f_X0_blastsTold (nx := 17) rfl (hI.wf.s rfl) rfl rfl (hI.wf.r rfl) rfl rfl ?_
      refine ev_loc f_X0_blastsTold (nx := 18) rfl rfl rfl rfl ?_
      refine ev_getR f_X0_blastsTold (nx := 21) rfl (hI.wf.s rfl) rfl rfl (hI.wf.r rfl) rfl rfl ?_
      refine ev_loc f_X0_blastsTold (nx := 22) rfl rfl rfl rfl ?_
      refine ev_ialdT f_X0_blastsTold (nx := 23) rfl (hI.wf.s rfl) l1_2 (by decide) u4 (by decide) rfl (fun w6 e6 => ?_)
      obtain ⟨l6, u6⟩ := hI.abi e6 (by decide +kernel : t_abr 27 0 3 0 29 = true) l1_2 (by decide) u4 (by decide)
      refine ev_ialdT f_X0_blastsTold (nx := 24) rfl (hI.wf.s rfl) l6 (by decide) u6 (by decide) rfl (fun w7 e7 => ?_)
      refine ev_anyI f_X0_blastsTold (nx := 25) rfl rfl rfl rfl (fun z8 => ?_)
      refine ev_loc f_X0_blastsTold (nx := 26) (lo' := [(1, .int z8), (2, .int y1_2), (0, .ref 22)]) rfl rfl rfl rfl ?_
      refine ev_incR f_X0_blastsTold (nx := 29) (c := 1) (l := 1) (u := 4) rfl rfl (by decide) (by decide) l1_2 u4 rfl rfl (by decide) (by decide) rfl (fun z9 e9 l9 u9 => ?_)
      refine ev_jmp f_X0_blastsTold (nx := 4) rfl rfl rfl ?_
      refine ev_sub (lo := [(2, .int z9), (1, .int z8), (0, .ref 22)]) rfl (t_sc rfl (t_sc rfl (t_sc rfl t_sn))) ?_
      exact ih1 _ (by omega) gi1 gl1 gr1 (z9) (z8) hI hX  (Int.le_trans (by decide : (0:Int) ≤ 1) l9) u9 rfl
  refine ev_sub (lo := [(2, .int 0), (1, .int 0), (0, .ref 22)]) rfl (t_sc rfl (t_sc rfl (t_sc rfl t_sn))) ?_
  exact L1 _ gi gl gr (0) (0) hI hX  (by decide : (0:Int) ≤ (0:Int32).toInt) (Int.le_trans (by decide : (0:Int32).toInt ≤ (0:Int)) (by decide : (0:Int) ≤ 4)) rfl
noncomputable def wl_takeShips : List (Nat × Nat) := [(29, 0), (30, 9999), (31, 9999), (32, 9999), (33, 9999), (34, 9999)]
theorem c_takeShips {X : x_Ext} {d : Nat} {sh : List (Nat ⊕ (Nat × Nat))} {gi : Nat → Nat → Int32} {gl : Nat → Nat → Int64} {gr : Nat → Nat → Value} (hI : t_I sh gi gr) (ar1 : Nat) (p_a1 : t_Rv sh gr ar1) (ar2 : Int32) (ar3 : Int32) (ar4 : Int32) : x_Me X (d + 3) n_X1_takeShips [.ref 28, .ref ar1, .int ar2, .int ar3, .int ar4] (sh, gi, gl, gr) (t_P wl_takeShips sh gi gl gr t_Rn) := by
  have hX : t_X wl_takeShips sh gi gl gr gi gl gr := t_X.rf
  refine me_i f_X1_takeShips (hI.wf.s rfl) rfl rfl rfl ?_
  refine ev_loc f_X1_takeShips (nx := 1) rfl rfl rfl rfl ?_
  refine ev_getR f_X1_takeShips (nx := 4) rfl (hI.wf.s rfl) rfl rfl (hI.wf.r rfl) rfl rfl ?_
  refine ev_inV1 f_X1_takeShips (nx := 7) (lo2 := [(0, .ref 29)]) rfl rfl rfl rfl f_X4_clear (hI.wf.s rfl) rfl rfl rfl rfl rfl ?_
  refine ev_loc f_X4_clear (nx := 1) rfl rfl rfl rfl ?_
  refine ev_ic f_X4_clear (nx := 2) (v := 0) rfl (by decide) rfl ?_
  refine ev_putIT f_X4_clear (nx := 5) rfl (hI.wf.s rfl) rfl rfl rfl (hI.putB (hI.wf.s rfl) rfl rfl (by decide : (0:Int) ≤ (0:Int32).toInt) (by decide) (by decide : (0:Int32).toInt ≤ (0:Int)) (by decide)) (hX.upI rfl) (fun g1 e1 hI hX => ?_)
  refine ev_retK0 f_X4_clear rfl rfl rfl ?_
  refine ev_ic f_X1_takeShips (nx := 8) (v := 0) rfl (by decide) rfl ?_
  refine ev_loc f_X1_takeShips (nx := 10) (lo' := [(5, .int 0), (0, .ref 28), (1, .ref ar1), (2, .int ar2), (3, .int ar3), (4, .int ar4)]) rfl rfl rfl rfl ?_
  have L2 : ∀ (m2 : Nat) (gi2 : Nat → Nat → Int32) (gl2 : Nat → Nat → Int64) (gr2 : Nat → Nat → Value) (y2_5 : Int32), t_I sh gi2 gr2 → t_X wl_takeShips sh gi gl gr gi2 gl2 gr2 → t_Rv sh gr2 ar1 → 0 ≤ y2_5.toInt → y2_5.toInt ≤ 6 → (6 - y2_5.toInt).toNat = m2 → x_Ev X (d + 3) n_X1_takeShips 10 [(5, .int y2_5), (0, .ref 28), (1, .ref ar1), (2, .int ar2), (3, .int ar3), (4, .int ar4)] [] (sh, gi2, gl2, gr2) (t_P wl_takeShips sh gi gl gr t_Rn) := by
    intro m2
    induction m2 using Nat.strongRecOn with
    | _ m2 ih2 =>
    intro gi2 gl2 gr2 y2_5 hI hX p_a1 l2_5 u2_5 hm2
    refine ev_loc f_X1_takeShips (nx := 12) rfl rfl rfl rfl ?_
    refine ev_loc f_X1_takeShips (nx := 13) rfl rfl rfl rfl ?_
    obtain ⟨a3, e3, p3⟩ := p_a1.2.2.2.2.1
    refine ev_getR f_X1_takeShips (nx := 16) rfl p_a1.1 rfl rfl e3 rfl rfl ?_
    refine ev_getI f_X1_takeShips (nx := 19) rfl p3.1 rfl rfl rfl ?_
    obtain ⟨l4, u4⟩ := hI.b p3.1 (t_bdK rfl : t_bd 3 0 = some (0, 6))
    refine ev_if f_X1_takeShips (t1 := 77) (t2 := 22) rfl rfl rfl (fun h5 => ?_) (fun h5 => ?_)
    · exact ev_ret f_X1_takeShips rfl rfl rfl ⟨_, _, _, rfl, hI, hX, rfl⟩
    · have u6 : y2_5.toInt ≤ 5 := t_ltu (t_nle h5) u4 rfl
      have l7 : 1 ≤ (gi2 a3 0).toInt := t_ltl (t_nle h5) l2_5 rfl
      refine ev_loc f_X1_takeShips (nx := 23) rfl rfl rfl rfl ?_
      refine ev_loc f_X1_takeShips (nx := 25) rfl rfl rfl rfl ?_
      refine ev_anyI f_X1_takeShips (nx := 26) rfl rfl rfl rfl (fun z8 => ?_)
      refine ev_ic f_X1_takeShips (nx := 27) (v := 1) rfl (by decide) rfl ?_
      refine ev_andR f_X1_takeShips (nx := 28) (c := 1) rfl (by decide) (by decide) rfl (fun z9 l9 u9 => ?_)
      refine ev_if f_X1_takeShips (t1 := 31) (t2 := 71) rfl rfl rfl (fun h10 => ?_) (fun h10 => ?_)
      · have u11 : z9.toInt ≤ 0 := t_equ h10 (by decide : (0:Int32).toInt ≤ (0:Int))
        refine ev_loc f_X1_takeShips (nx := 32) rfl rfl rfl rfl ?_
        refine ev_getR f_X1_takeShips (nx := 35) (v := .ref a3) rfl p_a1.1 rfl rfl e3 rfl rfl ?_
        obtain ⟨a12, e12, s12, o12⟩ := p3.2.2.1
        refine ev_getR f_X1_takeShips (nx := 38) rfl p3.1 rfl rfl e12 rfl rfl ?_
        refine ev_loc f_X1_takeShips (nx := 40) rfl rfl rfl rfl ?_
        refine ev_ialdT f_X1_takeShips (nx := 41) rfl s12 l2_5 (by decide) u6 (by decide) rfl (fun w13 e13 => ?_)
        refine ev_loc f_X1_takeShips (nx := 43) rfl rfl rfl rfl ?_
        refine ev_loc f_X1_takeShips (nx := 44) rfl rfl rfl rfl ?_
        refine ev_if f_X1_takeShips (t1 := 47) (t2 := 52) rfl rfl rfl (fun h14 => ?_) (fun h14 => ?_)
        · have u15 : ar3.toInt ≤ 5 := t_equ (Eq.symm h14) u6
          have l16 : 0 ≤ ar3.toInt := t_eql (Eq.symm h14) l2_5
          refine ev_loc f_X1_takeShips (nx := 49) rfl rfl rfl rfl ?_
          refine ev_jmp f_X1_takeShips (nx := 53) rfl rfl rfl ?_
          refine ev_anyI f_X1_takeShips (nx := 54) rfl rfl rfl rfl (fun z17 => ?_)
          refine ev_loc f_X1_takeShips (nx := 56) (lo' := [(6, .int z17), (5, .int y2_5), (0, .ref 28), (1, .ref ar1), (2, .int ar2), (3, .int ar3), (4, .int ar4)]) rfl rfl rfl rfl ?_
          refine ev_loc f_X1_takeShips (nx := 57) rfl rfl rfl rfl ?_
          refine ev_getR f_X1_takeShips (nx := 60) rfl (hI.wf.s rfl) rfl rfl (hI.wf.r rfl) rfl rfl ?_
          refine ev_loc f_X1_takeShips (nx := 61) rfl rfl rfl rfl ?_
          refine ev_getR f_X1_takeShips (nx := 64) (v := .ref a3) rfl p_a1.1 rfl rfl e3 rfl rfl ?_
          refine ev_loc f_X1_takeShips (nx := 66) rfl rfl rfl rfl ?_
          refine ev_loc f_X1_takeShips (nx := 68) rfl rfl rfl rfl ?_
          refine ev_c0 f_X1_takeShips (nx := 71) (r := []) rfl rfl rfl rfl rfl rfl rfl (c_join_29 hI (a3) p3 (y2_5) (z17)) rfl hX rfl (fun gi18 gl18 gr18 hI hX hC18 => ?_)
          replace p_a1 := p_a1.ext hC18.2
          replace p3 := p3.ext hC18.2
          refine ev_incR f_X1_takeShips (nx := 74) (c := 1) (l := 1) (u := 6) rfl rfl (by decide) (by decide) l2_5 u6 rfl rfl (by decide) (by decide) rfl (fun z19 e19 l19 u19 => ?_)
          refine ev_jmp f_X1_takeShips (nx := 10) rfl rfl rfl ?_
          refine ev_sub (lo := [(5, .int z19), (0, .ref 28), (1, .ref ar1), (2, .int ar2), (3, .int ar3), (4, .int ar4)]) rfl (t_sc rfl (t_sc rfl (t_sc rfl (t_sc rfl (t_sc rfl (t_sc rfl t_sn)))))) ?_
          exact ih2 _ (by omega) gi18 gl18 gr18 (z19) hI hX p_a1 (Int.le_trans (by decide : (0:Int) ≤ 1) l19) u19 rfl
        · refine ev_ic f_X1_takeShips (nx := 53) (v := 0) rfl (by decide) rfl ?_
          refine ev_addC f_X1_takeShips (nx := 54) (c := 0) (l := (-2147483648)) (u := 2147483647) rfl (by decide) (t_lo w13) (t_hi w13) rfl rfl (by decide) (by decide) rfl (fun z20 e20 l20 u20 => ?_)
          refine ev_loc f_X1_takeShips (nx := 56) (lo' := [(6, .int z20), (5, .int y2_5), (0, .ref 28), (1, .ref ar1), (2, .int ar2), (3, .int ar3), (4, .int ar4)]) rfl rfl rfl rfl ?_
          refine ev_loc f_X1_takeShips (nx := 57) rfl rfl rfl rfl ?_
          refine ev_getR f_X1_takeShips (nx := 60) rfl (hI.wf.s rfl) rfl rfl (hI.wf.r rfl) rfl rfl ?_
          refine ev_loc f_X1_takeShips (nx := 61) rfl rfl rfl rfl ?_
          refine ev_getR f_X1_takeShips (nx := 64) (v := .ref a3) rfl p_a1.1 rfl rfl e3 rfl rfl ?_
          refine ev_loc f_X1_takeShips (nx := 66) rfl rfl rfl rfl ?_
          refine ev_loc f_X1_takeShips (nx := 68) rfl rfl rfl rfl ?_
          refine ev_c0 f_X1_takeShips (nx := 71) (r := []) rfl rfl rfl rfl rfl rfl rfl (c_join_29 hI (a3) p3 (y2_5) (z20)) rfl hX rfl (fun gi21 gl21 gr21 hI hX hC21 => ?_)
          replace p_a1 := p_a1.ext hC21.2
          replace p3 := p3.ext hC21.2
          refine ev_incR f_X1_takeShips (nx := 74) (c := 1) (l := 1) (u := 6) rfl rfl (by decide) (by decide) l2_5 u6 rfl rfl (by decide) (by decide) rfl (fun z22 e22 l22 u22 => ?_)
          refine ev_jmp f_X1_takeShips (nx := 10) rfl rfl rfl ?_
          refine ev_sub (lo := [(5, .int z22), (0, .ref 28), (1, .ref ar1), (2, .int ar2), (3, .int ar3), (4, .int ar4)]) rfl (t_sc rfl (t_sc rfl (t_sc rfl (t_sc rfl (t_sc rfl (t_sc rfl t_sn)))))) ?_
          exact ih2 _ (by omega) gi21 gl21 gr21 (z22) hI hX p_a1 (Int.le_trans (by decide : (0:Int) ≤ 1) l22) u22 rfl
      · have l23 : 1 ≤ z9.toInt := t_nel h10 l9 rfl rfl
        refine ev_incR f_X1_takeShips (nx := 74) (c := 1) (l := 1) (u := 6) rfl rfl (by decide) (by decide) l2_5 u6 rfl rfl (by decide) (by decide) rfl (fun z24 e24 l24 u24 => ?_)
        refine ev_jmp f_X1_takeShips (nx := 10) rfl rfl rfl ?_
        refine ev_sub (lo := [(5, .int z24), (0, .ref 28), (1, .ref ar1), (2, .int ar2), (3, .int ar3), (4, .int ar4)]) rfl (t_sc rfl (t_sc rfl (t_sc rfl (t_sc rfl (t_sc rfl (t_sc rfl t_sn)))))) ?_
        exact ih2 _ (by omega) gi2 gl2 gr2 (z24) hI hX p_a1 (Int.le_trans (by decide : (0:Int) ≤ 1) l24) u24 rfl
  refine ev_sub (lo := [(5, .int 0), (0, .ref 28), (1, .ref ar1), (2, .int ar2), (3, .int ar3), (4, .int ar4)]) rfl (t_sc rfl (t_sc rfl (t_sc rfl (t_sc rfl (t_sc rfl (t_sc rfl t_sn)))))) ?_
  exact L2 _ g1 gl gr (0) hI hX p_a1 (by decide : (0:Int) ≤ (0:Int32).toInt) (Int.le_trans (by decide : (0:Int32).toInt ≤ (0:Int)) (by decide : (0:Int) ≤ 6)) rfl
noncomputable def wl_takeCarts : List (Nat × Nat) := [(35, 0), (36, 9999), (37, 9999), (38, 9999), (39, 9999), (40, 9999)]
theorem c_takeCarts {X : x_Ext} {d : Nat} {sh : List (Nat ⊕ (Nat × Nat))} {gi : Nat → Nat → Int32} {gl : Nat → Nat → Int64} {gr : Nat → Nat → Value} (hI : t_I sh gi gr) (ar1 : Nat) (p_a1 : t_Rv sh gr ar1) (ar2 : Int32) : x_Me X (d + 3) n_X1_takeCarts [.ref 28, .ref ar1, .int ar2] (sh, gi, gl, gr) (t_P wl_takeCarts sh gi gl gr t_Rn) := by
  have hX : t_X wl_takeCarts sh gi gl gr gi gl gr := t_X.rf
  refine me_i f_X1_takeCarts (hI.wf.s rfl) rfl rfl rfl ?_
  refine ev_loc f_X1_takeCarts (nx := 1) rfl rfl rfl rfl ?_
  refine ev_getR f_X1_takeCarts (nx := 4) rfl (hI.wf.s rfl) rfl rfl (hI.wf.r rfl) rfl rfl ?_
  refine ev_inV1 f_X1_takeCarts (nx := 7) (lo2 := [(0, .ref 35)]) rfl rfl rfl rfl f_X4_clear (hI.wf.s rfl) rfl rfl rfl rfl rfl ?_
  refine ev_loc f_X4_clear (nx := 1) rfl rfl rfl rfl ?_
  refine ev_ic f_X4_clear (nx := 2) (v := 0) rfl (by decide) rfl ?_
  refine ev_putIT f_X4_clear (nx := 5) rfl (hI.wf.s rfl) rfl rfl rfl (hI.putB (hI.wf.s rfl) rfl rfl (by decide : (0:Int) ≤ (0:Int32).toInt) (by decide) (by decide : (0:Int32).toInt ≤ (0:Int)) (by decide)) (hX.upI rfl) (fun g1 e1 hI hX => ?_)
  refine ev_retK0 f_X4_clear rfl rfl rfl ?_
  refine ev_ic f_X1_takeCarts (nx := 8) (v := 0) rfl (by decide) rfl ?_
  refine ev_loc f_X1_takeCarts (nx := 9) (lo' := [(3, .int 0), (0, .ref 28), (1, .ref ar1), (2, .int ar2)]) rfl rfl rfl rfl ?_
  have L2 : ∀ (m2 : Nat) (gi2 : Nat → Nat → Int32) (gl2 : Nat → Nat → Int64) (gr2 : Nat → Nat → Value) (y2_3 : Int32), t_I sh gi2 gr2 → t_X wl_takeCarts sh gi gl gr gi2 gl2 gr2 → t_Rv sh gr2 ar1 → 0 ≤ y2_3.toInt → y2_3.toInt ≤ 6 → (6 - y2_3.toInt).toNat = m2 → x_Ev X (d + 3) n_X1_takeCarts 9 [(3, .int y2_3), (0, .ref 28), (1, .ref ar1), (2, .int ar2)] [] (sh, gi2, gl2, gr2) (t_P wl_takeCarts sh gi gl gr t_Rn) := by
    intro m2
    induction m2 using Nat.strongRecOn with
    | _ m2 ih2 =>
    intro gi2 gl2 gr2 y2_3 hI hX p_a1 l2_3 u2_3 hm2
    refine ev_loc f_X1_takeCarts (nx := 10) rfl rfl rfl rfl ?_
    refine ev_loc f_X1_takeCarts (nx := 11) rfl rfl rfl rfl ?_
    obtain ⟨a3, e3, p3⟩ := p_a1.2.2.2.2.2
    refine ev_getR f_X1_takeCarts (nx := 14) rfl p_a1.1 rfl rfl e3 rfl rfl ?_
    refine ev_getI f_X1_takeCarts (nx := 17) rfl p3.1 rfl rfl rfl ?_
    obtain ⟨l4, u4⟩ := hI.b p3.1 (t_bdK rfl : t_bd 3 0 = some (0, 6))
    refine ev_if f_X1_takeCarts (t1 := 52) (t2 := 20) rfl rfl rfl (fun h5 => ?_) (fun h5 => ?_)
    · exact ev_ret f_X1_takeCarts rfl rfl rfl ⟨_, _, _, rfl, hI, hX, rfl⟩
    · have u6 : y2_3.toInt ≤ 5 := t_ltu (t_nle h5) u4 rfl
      have l7 : 1 ≤ (gi2 a3 0).toInt := t_ltl (t_nle h5) l2_3 rfl
      refine ev_loc f_X1_takeCarts (nx := 21) rfl rfl rfl rfl ?_
      refine ev_loc f_X1_takeCarts (nx := 22) rfl rfl rfl rfl ?_
      refine ev_if f_X1_takeCarts (t1 := 46) (t2 := 25) rfl rfl rfl (fun h8 => ?_) (fun h8 => ?_)
      · have u9 : ar2.toInt ≤ 5 := t_equ (Eq.symm h8) u6
        have l10 : 0 ≤ ar2.toInt := t_eql (Eq.symm h8) l2_3
        refine ev_incR f_X1_takeCarts (nx := 49) (c := 1) (l := 1) (u := 6) rfl rfl (by decide) (by decide) l2_3 u6 rfl rfl (by decide) (by decide) rfl (fun z11 e11 l11 u11 => ?_)
        refine ev_jmp f_X1_takeCarts (nx := 9) rfl rfl rfl ?_
        refine ev_sub (lo := [(3, .int z11), (0, .ref 28), (1, .ref ar1), (2, .int ar2)]) rfl (t_sc rfl (t_sc rfl (t_sc rfl (t_sc rfl t_sn)))) ?_
        exact ih2 _ (by omega) gi2 gl2 gr2 (z11) hI hX p_a1 (Int.le_trans (by decide : (0:Int) ≤ 1) l11) u11 rfl
      · refine ev_loc f_X1_takeCarts (nx := 26) rfl rfl rfl rfl ?_
        refine ev_getR f_X1_takeCarts (nx := 29) rfl (hI.wf.s rfl) rfl rfl (hI.wf.r rfl) rfl rfl ?_
        refine ev_loc f_X1_takeCarts (nx := 30) rfl rfl rfl rfl ?_
        refine ev_getR f_X1_takeCarts (nx := 33) (v := .ref a3) rfl p_a1.1 rfl rfl e3 rfl rfl ?_
        refine ev_loc f_X1_takeCarts (nx := 34) rfl rfl rfl rfl ?_
        refine ev_loc f_X1_takeCarts (nx := 35) rfl rfl rfl rfl ?_
        refine ev_getR f_X1_takeCarts (nx := 38) (v := .ref a3) rfl p_a1.1 rfl rfl e3 rfl rfl ?_
        obtain ⟨a12, e12, s12, o12⟩ := p3.2.2.1
        refine ev_getR f_X1_takeCarts (nx := 41) rfl p3.1 rfl rfl e12 rfl rfl ?_
        refine ev_loc f_X1_takeCarts (nx := 42) rfl rfl rfl rfl ?_
        refine ev_ialdT f_X1_takeCarts (nx := 43) rfl s12 l2_3 (by decide) u6 (by decide) rfl (fun w13 e13 => ?_)
        refine ev_c0 f_X1_takeCarts (nx := 46) (r := []) rfl rfl rfl rfl rfl rfl rfl (c_join_35 hI (a3) p3 (y2_3) (w13)) rfl hX rfl (fun gi14 gl14 gr14 hI hX hC14 => ?_)
        replace p_a1 := p_a1.ext hC14.2
        replace p3 := p3.ext hC14.2
        refine ev_incR f_X1_takeCarts (nx := 49) (c := 1) (l := 1) (u := 6) rfl rfl (by decide) (by decide) l2_3 u6 rfl rfl (by decide) (by decide) rfl (fun z15 e15 l15 u15 => ?_)
        refine ev_jmp f_X1_takeCarts (nx := 9) rfl rfl rfl ?_
        refine ev_sub (lo := [(3, .int z15), (0, .ref 28), (1, .ref ar1), (2, .int ar2)]) rfl (t_sc rfl (t_sc rfl (t_sc rfl (t_sc rfl t_sn)))) ?_
        exact ih2 _ (by omega) gi14 gl14 gr14 (z15) hI hX p_a1 (Int.le_trans (by decide : (0:Int) ≤ 1) l15) u15 rfl
  refine ev_sub (lo := [(3, .int 0), (0, .ref 28), (1, .ref ar1), (2, .int ar2)]) rfl (t_sc rfl (t_sc rfl (t_sc rfl (t_sc rfl t_sn)))) ?_
  exact L2 _ g1 gl gr (0) hI hX p_a1 (by decide : (0:Int) ≤ (0:Int32).toInt) (Int.le_trans (by decide : (0:Int32).toInt ≤ (0:Int)) (by decide : (0:Int) ≤ 6)) rfl
noncomputable def wl_turnEnd : List (Nat × Nat) := []
theorem c_turnEnd {X : x_Ext} {d : Nat} {sh : List (Nat ⊕ (Nat × Nat))} {gi : Nat → Nat → Int32} {gl : Nat → Nat → Int64} {gr : Nat → Nat → Value} (hI : t_I sh gi gr) (ar1 : Int32) : x_Me X (d + 2) n_X1_turnEnd [.ref 28, .int ar1] (sh, gi, gl, gr) (t_P wl_turnEnd sh gi gl gr (t_Ri (-2147483648) 2147483647)) := by
  have hX : t_X wl_turnEnd sh gi gl gr gi gl gr := t_X.rf
  refine me_i f_X1_turnEnd (hI.wf.s rfl) rfl rfl rfl ?_
  refine ev_loc f_X1_turnEnd (nx := 1) rfl rfl rfl rfl ?_
  rcases hI.2.2.2.1.2.2.2.2.1 with e1 | ⟨a1, e1, p1⟩
  · refine ev_getR f_X1_turnEnd (nx := 4) rfl (hI.wf.s rfl) rfl rfl e1 rfl rfl ?_
    refine ev_jmp f_X1_turnEnd (nx := 7) rfl rfl rfl ?_
    refine ev_loc f_X1_turnEnd (nx := 8) rfl rfl rfl rfl ?_
    refine ev_loc f_X1_turnEnd (nx := 9) rfl rfl rfl rfl ?_
    refine ev_getI f_X1_turnEnd (nx := 12) rfl (hI.wf.s rfl) rfl rfl rfl ?_
    refine ev_anyI f_X1_turnEnd (nx := 13) rfl rfl rfl rfl (fun z2 => ?_)
    refine ev_jmp f_X1_turnEnd (nx := 30) rfl rfl rfl ?_
    exact ev_ret f_X1_turnEnd rfl rfl rfl ⟨_, _, _, rfl, hI, hX, ⟨_, rfl, (t_lo z2), (t_hi z2)⟩⟩
  · refine ev_getR f_X1_turnEnd (nx := 4) rfl (hI.wf.s rfl) rfl rfl e1 rfl rfl ?_
    refine ev_jmp f_X1_turnEnd (nx := 16) rfl rfl rfl ?_
    refine ev_loc f_X1_turnEnd (nx := 17) rfl rfl rfl rfl ?_
    refine ev_loc f_X1_turnEnd (nx := 18) rfl rfl rfl rfl ?_
    refine ev_getR f_X1_turnEnd (nx := 21) (v := .ref a1) rfl (hI.wf.s rfl) rfl rfl e1 rfl rfl ?_
    refine ev_loc f_X1_turnEnd (nx := 22) rfl rfl rfl rfl ?_
    refine ev_getI f_X1_turnEnd (nx := 25) rfl (hI.wf.s rfl) rfl rfl rfl ?_
    refine ev_loc f_X1_turnEnd (nx := 26) rfl rfl rfl rfl ?_
    refine ev_inV3 f_X1_turnEnd (nx := 29) (lo2 := [(0, .ref a1), (1, .int (gi 28 1)), (2, .int ar1)]) rfl rfl rfl rfl f_X5_turnLength p1.1 rfl rfl rfl rfl rfl ?_
    refine ev_loc f_X5_turnLength (nx := 1) rfl rfl rfl rfl ?_
    refine ev_loc f_X5_turnLength (nx := 2) rfl rfl rfl rfl ?_
    refine ev_getI f_X5_turnLength (nx := 5) rfl p1.1 rfl rfl rfl ?_
    refine ev_if f_X5_turnLength (t1 := 17) (t2 := 8) rfl rfl rfl (fun h3 => ?_) (fun h3 => ?_)
    · have u4 : ar1.toInt ≤ 2147483646 := t_ltu h3 (t_hi (gi a1 5)) rfl
      have l5 : (-2147483647) ≤ (gi a1 5).toInt := t_ltl h3 (t_lo ar1) rfl
      refine ev_loc f_X5_turnLength (nx := 18) rfl rfl rfl rfl ?_
      refine ev_retK1 f_X5_turnLength rfl rfl rfl ?_
      refine ev_anyI f_X1_turnEnd (nx := 30) rfl rfl rfl rfl (fun z6 => ?_)
      exact ev_ret f_X1_turnEnd rfl rfl rfl ⟨_, _, _, rfl, hI, hX, ⟨_, rfl, (t_lo z6), (t_hi z6)⟩⟩
    · refine ev_loc f_X5_turnLength (nx := 9) rfl rfl rfl rfl ?_
      refine ev_loc f_X5_turnLength (nx := 10) rfl rfl rfl rfl ?_
      refine ev_getI f_X5_turnLength (nx := 13) rfl p1.1 rfl rfl rfl ?_
      refine ev_anyI f_X5_turnLength (nx := 14) rfl rfl rfl rfl (fun z7 => ?_)
      refine ev_jmp f_X5_turnLength (nx := 18) rfl rfl rfl ?_
      refine ev_retK1 f_X5_turnLength rfl rfl rfl ?_
      refine ev_anyI f_X1_turnEnd (nx := 30) rfl rfl rfl rfl (fun z8 => ?_)
      exact ev_ret f_X1_turnEnd rfl rfl rfl ⟨_, _, _, rfl, hI, hX, ⟨_, rfl, (t_lo z8), (t_hi z8)⟩⟩
noncomputable def wl_canBegin : List (Nat × Nat) := []
theorem c_canBegin {X : x_Ext} {d : Nat} {sh : List (Nat ⊕ (Nat × Nat))} {gi : Nat → Nat → Int32} {gl : Nat → Nat → Int64} {gr : Nat → Nat → Value} (hI : t_I sh gi gr) (ar0 : Nat) (p_a0 : t_Ln sh gr ar0) (ar1 : Int32) (ar2 : Int32) : x_Me X (d + 1) n_X1_canBegin [.ref ar0, .int ar1, .int ar2] (sh, gi, gl, gr) (t_P wl_canBegin sh gi gl gr (t_Ri 0 1)) := by
  have hX : t_X wl_canBegin sh gi gl gr gi gl gr := t_X.rf
  refine me_s f_X1_canBegin rfl rfl ?_
  refine ev_loc f_X1_canBegin (nx := 1) rfl rfl rfl rfl ?_
  refine ev_if f_X1_canBegin (t1 := 29) (t2 := 4) rfl rfl rfl (fun h1 => ?_) (fun h1 => ?_)
  · have u2 : ar1.toInt ≤ (-1) := t_ltu h1 (by decide : (0:Int32).toInt ≤ (0:Int)) rfl
    refine ev_ic f_X1_canBegin (nx := 30) (v := 0) rfl (by decide) rfl ?_
    exact ev_ret f_X1_canBegin rfl rfl rfl ⟨_, _, _, rfl, hI, hX, ⟨_, rfl, (by decide : (0:Int) ≤ (0:Int32).toInt), (Int.le_trans (by decide : (0:Int32).toInt ≤ (0:Int)) (by decide : (0:Int) ≤ 1))⟩⟩
  · have l3 : 0 ≤ ar1.toInt := t_lel (t_nlt h1) (by decide : (0:Int) ≤ (0:Int32).toInt)
    refine ev_loc f_X1_canBegin (nx := 5) rfl rfl rfl rfl ?_
    refine ev_loc f_X1_canBegin (nx := 6) rfl rfl rfl rfl ?_
    refine ev_getI f_X1_canBegin (nx := 9) rfl p_a0.1 rfl rfl rfl ?_
    obtain ⟨l4, u4⟩ := hI.b p_a0.1 (t_bdK rfl : t_bd 3 0 = some (0, 6))
    refine ev_if f_X1_canBegin (t1 := 29) (t2 := 12) rfl rfl rfl (fun h5 => ?_) (fun h5 => ?_)
    · refine ev_ic f_X1_canBegin (nx := 30) (v := 0) rfl (by decide) rfl ?_
      exact ev_ret f_X1_canBegin rfl rfl rfl ⟨_, _, _, rfl, hI, hX, ⟨_, rfl, (by decide : (0:Int) ≤ (0:Int32).toInt), (Int.le_trans (by decide : (0:Int32).toInt ≤ (0:Int)) (by decide : (0:Int) ≤ 1))⟩⟩
    · have u6 : ar1.toInt ≤ 5 := t_ltu (t_nle h5) u4 rfl
      have l7 : 1 ≤ (gi ar0 0).toInt := t_ltl (t_nle h5) l3 rfl
      refine ev_loc f_X1_canBegin (nx := 13) rfl rfl rfl rfl ?_
      refine ev_sp f_X1_canBegin (nx := 16) (v := 240) rfl (by decide) rfl ?_
      refine ev_if f_X1_canBegin (t1 := 29) (t2 := 19) rfl rfl rfl (fun h8 => ?_) (fun h8 => ?_)
      · have l9 : 241 ≤ ar2.toInt := t_ltl h8 (by decide : (240:Int) ≤ (240:Int32).toInt) rfl
        refine ev_ic f_X1_canBegin (nx := 30) (v := 0) rfl (by decide) rfl ?_
        exact ev_ret f_X1_canBegin rfl rfl rfl ⟨_, _, _, rfl, hI, hX, ⟨_, rfl, (by decide : (0:Int) ≤ (0:Int32).toInt), (Int.le_trans (by decide : (0:Int32).toInt ≤ (0:Int)) (by decide : (0:Int) ≤ 1))⟩⟩
      · have u10 : ar2.toInt ≤ 240 := t_leu (t_nlt h8) (by decide : (240:Int32).toInt ≤ (240:Int))
        refine ev_loc f_X1_canBegin (nx := 20) rfl rfl rfl rfl ?_
        refine ev_loc f_X1_canBegin (nx := 21) rfl rfl rfl rfl ?_
        obtain ⟨a11, e11, s11, o11⟩ := p_a0.2.2.1
        refine ev_getR f_X1_canBegin (nx := 24) rfl p_a0.1 rfl rfl e11 rfl rfl ?_
        refine ev_loc f_X1_canBegin (nx := 25) rfl rfl rfl rfl ?_
        refine ev_ialdT f_X1_canBegin (nx := 26) rfl s11 l3 (by decide) u6 (by decide) rfl (fun w12 e12 => ?_)
        refine ev_if f_X1_canBegin (t1 := 31) (t2 := 29) rfl rfl rfl (fun h13 => ?_) (fun h13 => ?_)
        · have u14 : w12.toInt ≤ 240 := t_leu h13 u10
          refine ev_loc f_X1_canBegin (nx := 32) rfl rfl rfl rfl ?_
          obtain ⟨a15, e15, s15, o15⟩ := p_a0.2.2.2.2.2
          refine ev_getR f_X1_canBegin (nx := 35) rfl p_a0.1 rfl rfl e15 rfl rfl ?_
          refine ev_loc f_X1_canBegin (nx := 36) rfl rfl rfl rfl ?_
          refine ev_baldT f_X1_canBegin (nx := 37) rfl s15 rfl l3 (by decide) u6 (by decide) rfl (fun w16 e16 => ?_)
          refine ev_if f_X1_canBegin (t1 := 50) (t2 := 40) rfl rfl rfl (fun h17 => ?_) (fun h17 => ?_)
          · have u18 : w16.toInt ≤ 0 := t_equ h17 (by decide : (0:Int32).toInt ≤ (0:Int))
            have l19 : 0 ≤ w16.toInt := t_eql h17 (by decide : (0:Int) ≤ (0:Int32).toInt)
            refine ev_ic f_X1_canBegin (nx := 51) (v := 1) rfl (by decide) rfl ?_
            refine ev_jmp f_X1_canBegin (nx := 55) rfl rfl rfl ?_
            exact ev_ret f_X1_canBegin rfl rfl rfl ⟨_, _, _, rfl, hI, hX, ⟨_, rfl, (Int.le_trans (by decide : (0:Int) ≤ 1) (by decide : (1:Int) ≤ (1:Int32).toInt)), (by decide : (1:Int32).toInt ≤ (1:Int))⟩⟩
          · refine ev_loc f_X1_canBegin (nx := 41) rfl rfl rfl rfl ?_
            refine ev_loc f_X1_canBegin (nx := 42) rfl rfl rfl rfl ?_
            refine ev_getR f_X1_canBegin (nx := 45) (v := .ref a11) rfl p_a0.1 rfl rfl e11 rfl rfl ?_
            refine ev_loc f_X1_canBegin (nx := 46) rfl rfl rfl rfl ?_
            refine ev_ialdT f_X1_canBegin (nx := 47) rfl s11 l3 (by decide) u6 (by decide) rfl (fun w20 e20 => ?_)
            refine ev_if f_X1_canBegin (t1 := 50) (t2 := 54) rfl rfl rfl (fun h21 => ?_) (fun h21 => ?_)
            · have u22 : w20.toInt ≤ 240 := t_equ (Eq.symm h21) u10
              refine ev_ic f_X1_canBegin (nx := 51) (v := 1) rfl (by decide) rfl ?_
              refine ev_jmp f_X1_canBegin (nx := 55) rfl rfl rfl ?_
              exact ev_ret f_X1_canBegin rfl rfl rfl ⟨_, _, _, rfl, hI, hX, ⟨_, rfl, (Int.le_trans (by decide : (0:Int) ≤ 1) (by decide : (1:Int) ≤ (1:Int32).toInt)), (by decide : (1:Int32).toInt ≤ (1:Int))⟩⟩
            · refine ev_ic f_X1_canBegin (nx := 55) (v := 0) rfl (by decide) rfl ?_
              exact ev_ret f_X1_canBegin rfl rfl rfl ⟨_, _, _, rfl, hI, hX, ⟨_, rfl, (by decide : (0:Int) ≤ (0:Int32).toInt), (Int.le_trans (by decide : (0:Int32).toInt ≤ (0:Int)) (by decide : (0:Int) ≤ 1))⟩⟩
        · have l23 : (-2147483647) ≤ w12.toInt := t_ltl (t_nle h13) (t_lo ar2) rfl
          refine ev_ic f_X1_canBegin (nx := 30) (v := 0) rfl (by decide) rfl ?_
          exact ev_ret f_X1_canBegin rfl rfl rfl ⟨_, _, _, rfl, hI, hX, ⟨_, rfl, (by decide : (0:Int) ≤ (0:Int32).toInt), (Int.le_trans (by decide : (0:Int32).toInt ≤ (0:Int)) (by decide : (0:Int) ≤ 1))⟩⟩
noncomputable def wl_waitsOf : List (Nat × Nat) := []
theorem c_waitsOf {X : x_Ext} {d : Nat} {sh : List (Nat ⊕ (Nat × Nat))} {gi : Nat → Nat → Int32} {gl : Nat → Nat → Int64} {gr : Nat → Nat → Value} (hI : t_I sh gi gr) (ar0 : Nat) (p_a0 : t_Ln sh gr ar0) (ar1 : Int32) (ar2 : Int32) : x_Me X (d + 1) n_X1_waitsOf [.ref ar0, .int ar1, .int ar2] (sh, gi, gl, gr) (t_P wl_waitsOf sh gi gl gr (t_Ri (-2147483648) 2147483647)) := by
  have hX : t_X wl_waitsOf sh gi gl gr gi gl gr := t_X.rf
  refine me_s f_X1_waitsOf rfl rfl ?_
  refine ev_loc f_X1_waitsOf (nx := 1) rfl rfl rfl rfl ?_
  refine ev_if f_X1_waitsOf (t1 := 30) (t2 := 4) rfl rfl rfl (fun h1 => ?_) (fun h1 => ?_)
  · have u2 : ar1.toInt ≤ (-1) := t_ltu h1 (by decide : (0:Int32).toInt ≤ (0:Int)) rfl
    refine ev_ic f_X1_waitsOf (nx := 31) (v := 0) rfl (by decide) rfl ?_
    exact ev_ret f_X1_waitsOf rfl rfl rfl ⟨_, _, _, rfl, hI, hX, ⟨_, rfl, (Int.le_trans (by decide : ((-2147483648):Int) ≤ 0) (by decide : (0:Int) ≤ (0:Int32).toInt)), (Int.le_trans (by decide : (0:Int32).toInt ≤ (0:Int)) (by decide : (0:Int) ≤ 2147483647))⟩⟩
  · have l3 : 0 ≤ ar1.toInt := t_lel (t_nlt h1) (by decide : (0:Int) ≤ (0:Int32).toInt)
    refine ev_loc f_X1_waitsOf (nx := 5) rfl rfl rfl rfl ?_
    refine ev_loc f_X1_waitsOf (nx := 6) rfl rfl rfl rfl ?_
    refine ev_getI f_X1_waitsOf (nx := 9) rfl p_a0.1 rfl rfl rfl ?_
    obtain ⟨l4, u4⟩ := hI.b p_a0.1 (t_bdK rfl : t_bd 3 0 = some (0, 6))
    refine ev_if f_X1_waitsOf (t1 := 30) (t2 := 12) rfl rfl rfl (fun h5 => ?_) (fun h5 => ?_)
    · refine ev_ic f_X1_waitsOf (nx := 31) (v := 0) rfl (by decide) rfl ?_
      exact ev_ret f_X1_waitsOf rfl rfl rfl ⟨_, _, _, rfl, hI, hX, ⟨_, rfl, (Int.le_trans (by decide : ((-2147483648):Int) ≤ 0) (by decide : (0:Int) ≤ (0:Int32).toInt)), (Int.le_trans (by decide : (0:Int32).toInt ≤ (0:Int)) (by decide : (0:Int) ≤ 2147483647))⟩⟩
    · have u6 : ar1.toInt ≤ 5 := t_ltu (t_nle h5) u4 rfl
      have l7 : 1 ≤ (gi ar0 0).toInt := t_ltl (t_nle h5) l3 rfl
      refine ev_loc f_X1_waitsOf (nx := 13) rfl rfl rfl rfl ?_
      refine ev_loc f_X1_waitsOf (nx := 14) rfl rfl rfl rfl ?_
      obtain ⟨a8, e8, s8, o8⟩ := p_a0.2.2.1
      refine ev_getR f_X1_waitsOf (nx := 17) rfl p_a0.1 rfl rfl e8 rfl rfl ?_
      refine ev_loc f_X1_waitsOf (nx := 18) rfl rfl rfl rfl ?_
      refine ev_ialdT f_X1_waitsOf (nx := 19) rfl s8 l3 (by decide) u6 (by decide) rfl (fun w9 e9 => ?_)
      refine ev_anyI f_X1_waitsOf (nx := 20) rfl rfl rfl rfl (fun z10 => ?_)
      refine ev_loc f_X1_waitsOf (nx := 21) rfl rfl rfl rfl ?_
      obtain ⟨a11, e11, s11, o11⟩ := p_a0.2.2.2.2.1
      refine ev_getR f_X1_waitsOf (nx := 24) rfl p_a0.1 rfl rfl e11 rfl rfl ?_
      refine ev_loc f_X1_waitsOf (nx := 25) rfl rfl rfl rfl ?_
      refine ev_ialdT f_X1_waitsOf (nx := 26) rfl s11 l3 (by decide) u6 (by decide) rfl (fun w12 e12 => ?_)
      refine ev_anyI f_X1_waitsOf (nx := 27) rfl rfl rfl rfl (fun z13 => ?_)
      refine ev_jmp f_X1_waitsOf (nx := 31) rfl rfl rfl ?_
      exact ev_ret f_X1_waitsOf rfl rfl rfl ⟨_, _, _, rfl, hI, hX, ⟨_, rfl, (t_lo z13), (t_hi z13)⟩⟩
noncomputable def wl_search : List (Nat × Nat) := [(28, 4)]
theorem r_search {X : x_Ext} {d : Nat} {sh : List (Nat ⊕ (Nat × Nat))} : ∀ (r : Nat) {gi : Nat → Nat → Int32} {gl : Nat → Nat → Int64} {gr : Nat → Nat → Value} (hI : t_I sh gi gr) (ar1 : Int32) (ar2 : Int32) (l_a2 : 0 ≤ ar2.toInt) (u_a2 : ar2.toInt ≤ 1) (ar3 : Int32) (l_a3 : 0 ≤ ar3.toInt) (u_a3 : ar3.toInt ≤ 6) (ar4 : Int32) (l_a4 : 0 ≤ ar4.toInt) (u_a4 : ar4.toInt ≤ 6) (ar5 : Int32), (12 - (ar3.toInt + ar4.toInt)).toNat < r → x_Me X (d + r + 3) n_X1_search [.ref 28, .int ar1, .int ar2, .int ar3, .int ar4, .int ar5] (sh, gi, gl, gr) (t_P wl_search sh gi gl gr t_Rn) := by
  intro r
  induction r with
  | zero => intro gi gl gr hI ar1 ar2 l_a2 u_a2 ar3 l_a3 u_a3 ar4 l_a4 u_a4 ar5 hr; omega
  | succ r ih =>
  intro gi gl gr hI ar1 ar2 l_a2 u_a2 ar3 l_a3 u_a3 ar4 l_a4 u_a4 ar5 hr
  rw [show d + (r + 1) + 3 = d + r + 4 by omega]
  have hX : t_X wl_search sh gi gl gr gi gl gr := t_X.rf
  refine me_i f_X1_search (hI.wf.s rfl) rfl rfl rfl ?_
  refine ev_loc f_X1_search (nx := 2) rfl rfl rfl rfl ?_
  refine ev_loc f_X1_search (nx := 3) rfl rfl rfl rfl ?_
  refine ev_getI f_X1_search (nx := 6) rfl (hI.wf.s rfl) rfl rfl rfl ?_
  refine ev_if f_X1_search (t1 := 20) (t2 := 9) rfl rfl rfl (fun h1 => ?_) (fun h1 => ?_)
  · exact ev_ret f_X1_search rfl rfl rfl ⟨_, _, _, rfl, hI, hX, rfl⟩
  · have u2 : ar5.toInt ≤ 2147483646 := t_ltu (t_nle h1) (t_hi (gi 28 4)) rfl
    have l3 : (-2147483647) ≤ (gi 28 4).toInt := t_ltl (t_nle h1) (t_lo ar5) rfl
    refine ev_loc f_X1_search (nx := 10) rfl rfl rfl rfl ?_
    refine ev_gvI f_X1_search (nx := 13) (w := (gi 28 4)) rfl (hI.wf.s rfl) rfl rfl rfl rfl ?_
    refine ev_loc f_X1_search (nx := 14) rfl rfl rfl rfl ?_
    refine ev_getI f_X1_search (nx := 17) rfl (hI.wf.s rfl) rfl rfl rfl ?_
    refine ev_if f_X1_search (t1 := 21) (t2 := 20) rfl rfl rfl (fun h4 => ?_) (fun h4 => ?_)
    · have u5 : (gi 28 5).toInt ≤ 2147483646 := t_ltu h4 (t_hi (gi 28 4)) rfl
      refine ev_loc f_X1_search (nx := 22) rfl rfl rfl rfl ?_
      refine ev_loc f_X1_search (nx := 23) rfl rfl rfl rfl ?_
      refine ev_getR f_X1_search (nx := 26) rfl (hI.wf.s rfl) rfl rfl (hI.wf.r rfl) rfl rfl ?_
      refine ev_getI f_X1_search (nx := 29) rfl (hI.wf.s rfl) rfl rfl rfl ?_
      obtain ⟨l6, u6⟩ := hI.b (hI.wf.s (k := 29) rfl) (t_bdK rfl : t_bd 3 0 = some (0, 6))
      refine ev_if f_X1_search (t1 := 51) (t2 := 32) rfl rfl rfl (fun h7 => ?_) (fun h7 => ?_)
      · have u8 : ar3.toInt ≤ 5 := t_ltu h7 u6 rfl
        have l9 : 1 ≤ (gi 29 0).toInt := t_ltl h7 l_a3 rfl
        refine ev_loc f_X1_search (nx := 52) rfl rfl rfl rfl ?_
        refine ev_loc f_X1_search (nx := 53) rfl rfl rfl rfl ?_
        refine ev_getR f_X1_search (nx := 56) rfl (hI.wf.s rfl) rfl rfl (hI.wf.r rfl) rfl rfl ?_
        refine ev_gvI f_X1_search (nx := 59) (w := (gi 29 0)) rfl (hI.wf.s rfl) rfl rfl rfl rfl ?_
        refine ev_if f_X1_search (t1 := 141) (t2 := 62) rfl rfl rfl (fun h10 => ?_) (fun h10 => ?_)
        · have u11 : (gi 29 0).toInt ≤ 5 := t_leu h10 u8
          have l12 : 1 ≤ ar3.toInt := t_lel h10 l9
          refine ev_loc f_X1_search (nx := 143) rfl rfl rfl rfl ?_
          refine ev_loc f_X1_search (nx := 144) rfl rfl rfl rfl ?_
          refine ev_getR f_X1_search (nx := 147) rfl (hI.wf.s rfl) rfl rfl (hI.wf.r rfl) rfl rfl ?_
          refine ev_getI f_X1_search (nx := 150) rfl (hI.wf.s rfl) rfl rfl rfl ?_
          obtain ⟨l13, u13⟩ := hI.b (hI.wf.s (k := 35) rfl) (t_bdK rfl : t_bd 3 0 = some (0, 6))
          refine ev_if f_X1_search (t1 := 236) (t2 := 153) rfl rfl rfl (fun h14 => ?_) (fun h14 => ?_)
          · exact ev_ret f_X1_search rfl rfl rfl ⟨_, _, _, rfl, hI, hX, rfl⟩
          · have u15 : ar4.toInt ≤ 5 := t_ltu (t_nle h14) u13 rfl
            have l16 : 1 ≤ (gi 35 0).toInt := t_ltl (t_nle h14) l_a4 rfl
            refine ev_loc f_X1_search (nx := 154) rfl rfl rfl rfl ?_
            refine ev_getR f_X1_search (nx := 157) rfl (hI.wf.s rfl) rfl rfl (hI.wf.r rfl) rfl rfl ?_
            refine ev_getR f_X1_search (nx := 160) rfl (hI.wf.s rfl) rfl rfl (hI.wf.r rfl) rfl rfl ?_
            refine ev_loc f_X1_search (nx := 162) rfl rfl rfl rfl ?_
            refine ev_ialdT f_X1_search (nx := 163) rfl (hI.wf.s rfl) l_a4 (by decide) u15 (by decide) rfl (fun w17 e17 => ?_)
            refine ev_loc f_X1_search (nx := 164) rfl rfl rfl rfl ?_
            refine ev_if f_X1_search (t1 := 175) (t2 := 167) rfl rfl rfl (fun h18 => ?_) (fun h18 => ?_)
            · have u19 : ar2.toInt ≤ 0 := t_equ h18 (by decide : (0:Int32).toInt ≤ (0:Int))
              refine ev_loc f_X1_search (nx := 176) rfl rfl rfl rfl ?_
              refine ev_mmR f_X1_search (nx := 179) (l := (-2147483648)) (u := 2147483647) rfl rfl rfl (by omega) rfl (t_lo w17) (t_hi w17) (t_lo ar1) (t_hi ar1) (by decide) (by decide) rfl (fun z20 l20 u20 => ?_)
              refine ev_loc f_X1_search (nx := 181) (lo' := [(6, .int z20), (0, .ref 28), (1, .int ar1), (2, .int ar2), (3, .int ar3), (4, .int ar4), (5, .int ar5)]) rfl rfl rfl rfl ?_
              refine ev_loc f_X1_search (nx := 182) rfl rfl rfl rfl ?_
              refine ev_getR f_X1_search (nx := 185) rfl (hI.wf.s rfl) rfl rfl (hI.wf.r rfl) rfl rfl ?_
              refine ev_loc f_X1_search (nx := 187) rfl rfl rfl rfl ?_
              refine ev_loc f_X1_search (nx := 189) rfl rfl rfl rfl ?_
              refine ev_cI f_X1_search (nx := 192) (r := []) rfl rfl rfl rfl rfl rfl rfl (c_canBegin hI 35 (t_Ln35 hI.wf) (ar4) (z20)) rfl hX rfl (fun w21 gi21 gl21 gr21 l21 u21 hI hX hC21 => ?_)
              refine ev_if f_X1_search (t1 := 236) (t2 := 195) rfl rfl rfl (fun h22 => ?_) (fun h22 => ?_)
              · have u23 : w21.toInt ≤ 0 := t_equ h22 (by decide : (0:Int32).toInt ≤ (0:Int))
                exact ev_ret f_X1_search rfl rfl rfl ⟨_, _, _, rfl, hI, hX, rfl⟩
              · have l24 : 1 ≤ w21.toInt := t_nel h22 l21 rfl rfl
                refine ev_loc f_X1_search (nx := 196) rfl rfl rfl rfl ?_
                refine ev_getR f_X1_search (nx := 199) rfl (hI.wf.s rfl) rfl rfl (hI.wf.r rfl) rfl rfl ?_
                refine ev_loc f_X1_search (nx := 201) rfl rfl rfl rfl ?_
                refine ev_loc f_X1_search (nx := 203) rfl rfl rfl rfl ?_
                refine ev_cI f_X1_search (nx := 206) (r := []) rfl rfl rfl rfl rfl rfl rfl (c_waitsOf hI 35 (t_Ln35 hI.wf) (ar4) (z20)) rfl hX rfl (fun w25 gi25 gl25 gr25 l25 u25 hI hX hC25 => ?_)
                refine ev_loc f_X1_search (nx := 208) (lo' := [(7, .int w25), (6, .int z20), (0, .ref 28), (1, .int ar1), (2, .int ar2), (3, .int ar3), (4, .int ar4), (5, .int ar5)]) rfl rfl rfl rfl ?_
                refine ev_loc f_X1_search (nx := 209) rfl rfl rfl rfl ?_
                refine ev_loc f_X1_search (nx := 211) rfl rfl rfl rfl ?_
                refine ev_loc f_X1_search (nx := 212) rfl rfl rfl rfl ?_
                refine ev_getR f_X1_search (nx := 215) rfl (hI.wf.s rfl) rfl rfl (hI.wf.r rfl) rfl rfl ?_
                refine ev_getR f_X1_search (nx := 218) rfl (hI.wf.s rfl) rfl rfl (hI.wf.r rfl) rfl rfl ?_
                refine ev_loc f_X1_search (nx := 220) rfl rfl rfl rfl ?_
                refine ev_ialdT f_X1_search (nx := 221) rfl (hI.wf.s rfl) l_a4 (by decide) u15 (by decide) rfl (fun w26 e26 => ?_)
                refine ev_anyI f_X1_search (nx := 222) rfl rfl rfl rfl (fun z27 => ?_)
                refine ev_ic f_X1_search (nx := 223) (v := 0) rfl (by decide) rfl ?_
                refine ev_loc f_X1_search (nx := 224) rfl rfl rfl rfl ?_
                refine ev_loc f_X1_search (nx := 226) rfl rfl rfl rfl ?_
                refine ev_ic f_X1_search (nx := 227) (v := 1) rfl (by decide) rfl ?_
                refine ev_addC f_X1_search (nx := 228) (c := 1) (l := 1) (u := 6) rfl (by decide) l_a4 u15 rfl rfl (by decide) (by decide) rfl (fun z28 e28 l28 u28 => ?_)
                refine ev_loc f_X1_search (nx := 230) rfl rfl rfl rfl ?_
                refine ev_loc f_X1_search (nx := 232) rfl rfl rfl rfl ?_
                refine ev_anyI f_X1_search (nx := 233) rfl rfl rfl rfl (fun z29 => ?_)
                refine ev_c0 f_X1_search (nx := 236) (r := []) rfl rfl rfl rfl rfl rfl rfl (x_Me.up (ih hI (z27) (0) (by decide : (0:Int) ≤ (0:Int32).toInt) (Int.le_trans (by decide : (0:Int32).toInt ≤ (0:Int)) (by decide : (0:Int) ≤ 1)) (ar3) (Int.le_trans (by decide : (0:Int) ≤ 1) l12) (Int.le_trans u8 (by decide : (5:Int) ≤ 6)) (z28) (Int.le_trans (by decide : (0:Int) ≤ 1) l28) u28 (z29) (by omega)) (by omega)) rfl hX rfl (fun gi30 gl30 gr30 hI hX hC30 => ?_)
                exact ev_ret f_X1_search rfl rfl rfl ⟨_, _, _, rfl, hI, hX, rfl⟩
            · have l31 : 1 ≤ ar2.toInt := t_nel h18 l_a2 rfl rfl
              refine ev_loc f_X1_search (nx := 168) rfl rfl rfl rfl ?_
              refine ev_loc f_X1_search (nx := 169) rfl rfl rfl rfl ?_
              refine ev_cI f_X1_search (nx := 172) (r := [.int w17]) rfl rfl rfl rfl rfl rfl rfl (c_turnEnd hI (ar1)) rfl hX rfl (fun w32 gi32 gl32 gr32 l32 u32 hI hX hC32 => ?_)
              refine ev_jmp f_X1_search (nx := 176) rfl rfl rfl ?_
              refine ev_mmR f_X1_search (nx := 179) (l := (-2147483648)) (u := 2147483647) rfl rfl rfl (by omega) rfl (t_lo w17) (t_hi w17) l32 u32 (by decide) (by decide) rfl (fun z33 l33 u33 => ?_)
              refine ev_loc f_X1_search (nx := 181) (lo' := [(6, .int z33), (0, .ref 28), (1, .int ar1), (2, .int ar2), (3, .int ar3), (4, .int ar4), (5, .int ar5)]) rfl rfl rfl rfl ?_
              refine ev_loc f_X1_search (nx := 182) rfl rfl rfl rfl ?_
              refine ev_getR f_X1_search (nx := 185) rfl (hI.wf.s rfl) rfl rfl (hI.wf.r rfl) rfl rfl ?_
              refine ev_loc f_X1_search (nx := 187) rfl rfl rfl rfl ?_
              refine ev_loc f_X1_search (nx := 189) rfl rfl rfl rfl ?_
              refine ev_cI f_X1_search (nx := 192) (r := []) rfl rfl rfl rfl rfl rfl rfl (c_canBegin hI 35 (t_Ln35 hI.wf) (ar4) (z33)) rfl hX rfl (fun w34 gi34 gl34 gr34 l34 u34 hI hX hC34 => ?_)
              refine ev_if f_X1_search (t1 := 236) (t2 := 195) rfl rfl rfl (fun h35 => ?_) (fun h35 => ?_)
              · have u36 : w34.toInt ≤ 0 := t_equ h35 (by decide : (0:Int32).toInt ≤ (0:Int))
                exact ev_ret f_X1_search rfl rfl rfl ⟨_, _, _, rfl, hI, hX, rfl⟩
              · have l37 : 1 ≤ w34.toInt := t_nel h35 l34 rfl rfl
                refine ev_loc f_X1_search (nx := 196) rfl rfl rfl rfl ?_
                refine ev_getR f_X1_search (nx := 199) rfl (hI.wf.s rfl) rfl rfl (hI.wf.r rfl) rfl rfl ?_
                refine ev_loc f_X1_search (nx := 201) rfl rfl rfl rfl ?_
                refine ev_loc f_X1_search (nx := 203) rfl rfl rfl rfl ?_
                refine ev_cI f_X1_search (nx := 206) (r := []) rfl rfl rfl rfl rfl rfl rfl (c_waitsOf hI 35 (t_Ln35 hI.wf) (ar4) (z33)) rfl hX rfl (fun w38 gi38 gl38 gr38 l38 u38 hI hX hC38 => ?_)
                refine ev_loc f_X1_search (nx := 208) (lo' := [(7, .int w38), (6, .int z33), (0, .ref 28), (1, .int ar1), (2, .int ar2), (3, .int ar3), (4, .int ar4), (5, .int ar5)]) rfl rfl rfl rfl ?_
                refine ev_loc f_X1_search (nx := 209) rfl rfl rfl rfl ?_
                refine ev_loc f_X1_search (nx := 211) rfl rfl rfl rfl ?_
                refine ev_loc f_X1_search (nx := 212) rfl rfl rfl rfl ?_
                refine ev_getR f_X1_search (nx := 215) rfl (hI.wf.s rfl) rfl rfl (hI.wf.r rfl) rfl rfl ?_
                refine ev_getR f_X1_search (nx := 218) rfl (hI.wf.s rfl) rfl rfl (hI.wf.r rfl) rfl rfl ?_
                refine ev_loc f_X1_search (nx := 220) rfl rfl rfl rfl ?_
                refine ev_ialdT f_X1_search (nx := 221) rfl (hI.wf.s rfl) l_a4 (by decide) u15 (by decide) rfl (fun w39 e39 => ?_)
                refine ev_anyI f_X1_search (nx := 222) rfl rfl rfl rfl (fun z40 => ?_)
                refine ev_ic f_X1_search (nx := 223) (v := 0) rfl (by decide) rfl ?_
                refine ev_loc f_X1_search (nx := 224) rfl rfl rfl rfl ?_
                refine ev_loc f_X1_search (nx := 226) rfl rfl rfl rfl ?_
                refine ev_ic f_X1_search (nx := 227) (v := 1) rfl (by decide) rfl ?_
                refine ev_addC f_X1_search (nx := 228) (c := 1) (l := 1) (u := 6) rfl (by decide) l_a4 u15 rfl rfl (by decide) (by decide) rfl (fun z41 e41 l41 u41 => ?_)
                refine ev_loc f_X1_search (nx := 230) rfl rfl rfl rfl ?_
                refine ev_loc f_X1_search (nx := 232) rfl rfl rfl rfl ?_
                refine ev_anyI f_X1_search (nx := 233) rfl rfl rfl rfl (fun z42 => ?_)
                refine ev_c0 f_X1_search (nx := 236) (r := []) rfl rfl rfl rfl rfl rfl rfl (x_Me.up (ih hI (z40) (0) (by decide : (0:Int) ≤ (0:Int32).toInt) (Int.le_trans (by decide : (0:Int32).toInt ≤ (0:Int)) (by decide : (0:Int) ≤ 1)) (ar3) (Int.le_trans (by decide : (0:Int) ≤ 1) l12) (Int.le_trans u8 (by decide : (5:Int) ≤ 6)) (z41) (Int.le_trans (by decide : (0:Int) ≤ 1) l41) u41 (z42) (by omega)) (by omega)) rfl hX rfl (fun gi43 gl43 gr43 hI hX hC43 => ?_)
                exact ev_ret f_X1_search rfl rfl rfl ⟨_, _, _, rfl, hI, hX, rfl⟩
        · refine ev_loc f_X1_search (nx := 63) rfl rfl rfl rfl ?_
          refine ev_getR f_X1_search (nx := 66) rfl (hI.wf.s rfl) rfl rfl (hI.wf.r rfl) rfl rfl ?_
          refine ev_getR f_X1_search (nx := 69) rfl (hI.wf.s rfl) rfl rfl (hI.wf.r rfl) rfl rfl ?_
          refine ev_loc f_X1_search (nx := 70) rfl rfl rfl rfl ?_
          refine ev_ialdT f_X1_search (nx := 71) rfl (hI.wf.s rfl) l_a3 (by decide) u8 (by decide) rfl (fun w44 e44 => ?_)
          refine ev_loc f_X1_search (nx := 72) rfl rfl rfl rfl ?_
          refine ev_if f_X1_search (t1 := 79) (t2 := 75) rfl rfl rfl (fun h45 => ?_) (fun h45 => ?_)
          · have u46 : ar2.toInt ≤ 0 := t_equ h45 (by decide : (0:Int32).toInt ≤ (0:Int))
            refine ev_loc f_X1_search (nx := 80) rfl rfl rfl rfl ?_
            refine ev_loc f_X1_search (nx := 81) rfl rfl rfl rfl ?_
            refine ev_cI f_X1_search (nx := 84) (r := [.int w44]) rfl rfl rfl rfl rfl rfl rfl (c_turnEnd hI (ar1)) rfl hX rfl (fun w47 gi47 gl47 gr47 l47 u47 hI hX hC47 => ?_)
            refine ev_mmR f_X1_search (nx := 87) (l := (-2147483648)) (u := 2147483647) rfl rfl rfl (by omega) rfl (t_lo w44) (t_hi w44) l47 u47 (by decide) (by decide) rfl (fun z48 l48 u48 => ?_)
            refine ev_loc f_X1_search (nx := 89) (lo' := [(6, .int z48), (0, .ref 28), (1, .int ar1), (2, .int ar2), (3, .int ar3), (4, .int ar4), (5, .int ar5)]) rfl rfl rfl rfl ?_
            refine ev_loc f_X1_search (nx := 90) rfl rfl rfl rfl ?_
            refine ev_getR f_X1_search (nx := 93) rfl (hI.wf.s rfl) rfl rfl (hI.wf.r rfl) rfl rfl ?_
            refine ev_loc f_X1_search (nx := 94) rfl rfl rfl rfl ?_
            refine ev_loc f_X1_search (nx := 96) rfl rfl rfl rfl ?_
            refine ev_cI f_X1_search (nx := 99) (r := []) rfl rfl rfl rfl rfl rfl rfl (c_canBegin hI 29 (t_Ln29 hI.wf) (ar3) (z48)) rfl hX rfl (fun w49 gi49 gl49 gr49 l49 u49 hI hX hC49 => ?_)
            refine ev_if f_X1_search (t1 := 141) (t2 := 102) rfl rfl rfl (fun h50 => ?_) (fun h50 => ?_)
            · have u51 : w49.toInt ≤ 0 := t_equ h50 (by decide : (0:Int32).toInt ≤ (0:Int))
              refine ev_loc f_X1_search (nx := 143) rfl rfl rfl rfl ?_
              refine ev_loc f_X1_search (nx := 144) rfl rfl rfl rfl ?_
              refine ev_getR f_X1_search (nx := 147) rfl (hI.wf.s rfl) rfl rfl (hI.wf.r rfl) rfl rfl ?_
              refine ev_getI f_X1_search (nx := 150) rfl (hI.wf.s rfl) rfl rfl rfl ?_
              obtain ⟨l52, u52⟩ := hI.b (hI.wf.s (k := 35) rfl) (t_bdK rfl : t_bd 3 0 = some (0, 6))
              refine ev_if f_X1_search (t1 := 236) (t2 := 153) rfl rfl rfl (fun h53 => ?_) (fun h53 => ?_)
              · exact ev_ret f_X1_search rfl rfl rfl ⟨_, _, _, rfl, hI, hX, rfl⟩
              · have u54 : ar4.toInt ≤ 5 := t_ltu (t_nle h53) u52 rfl
                have l55 : 1 ≤ (gi49 35 0).toInt := t_ltl (t_nle h53) l_a4 rfl
                refine ev_loc f_X1_search (nx := 154) rfl rfl rfl rfl ?_
                refine ev_getR f_X1_search (nx := 157) rfl (hI.wf.s rfl) rfl rfl (hI.wf.r rfl) rfl rfl ?_
                refine ev_getR f_X1_search (nx := 160) rfl (hI.wf.s rfl) rfl rfl (hI.wf.r rfl) rfl rfl ?_
                refine ev_loc f_X1_search (nx := 162) rfl rfl rfl rfl ?_
                refine ev_ialdT f_X1_search (nx := 163) rfl (hI.wf.s rfl) l_a4 (by decide) u54 (by decide) rfl (fun w56 e56 => ?_)
                refine ev_loc f_X1_search (nx := 164) rfl rfl rfl rfl ?_
                refine ev_t f_X1_search (t1 := 175) (t2 := 167) rfl rfl rfl (t_eqT u46 l_a2 (by decide : (0:Int32).toInt ≤ (0:Int)) (by decide : (0:Int) ≤ (0:Int32).toInt)) ?_
                refine ev_loc f_X1_search (nx := 176) rfl rfl rfl rfl ?_
                refine ev_mmR f_X1_search (nx := 179) (l := (-2147483648)) (u := 2147483647) rfl rfl rfl (by omega) rfl (t_lo w56) (t_hi w56) (t_lo ar1) (t_hi ar1) (by decide) (by decide) rfl (fun z57 l57 u57 => ?_)
                refine ev_loc f_X1_search (nx := 181) (lo' := [(6, .int z57), (0, .ref 28), (1, .int ar1), (2, .int ar2), (3, .int ar3), (4, .int ar4), (5, .int ar5)]) rfl rfl rfl rfl ?_
                refine ev_loc f_X1_search (nx := 182) rfl rfl rfl rfl ?_
                refine ev_getR f_X1_search (nx := 185) rfl (hI.wf.s rfl) rfl rfl (hI.wf.r rfl) rfl rfl ?_
                refine ev_loc f_X1_search (nx := 187) rfl rfl rfl rfl ?_
                refine ev_loc f_X1_search (nx := 189) rfl rfl rfl rfl ?_
                refine ev_cI f_X1_search (nx := 192) (r := []) rfl rfl rfl rfl rfl rfl rfl (c_canBegin hI 35 (t_Ln35 hI.wf) (ar4) (z57)) rfl hX rfl (fun w58 gi58 gl58 gr58 l58 u58 hI hX hC58 => ?_)
                refine ev_if f_X1_search (t1 := 236) (t2 := 195) rfl rfl rfl (fun h59 => ?_) (fun h59 => ?_)
                · have u60 : w58.toInt ≤ 0 := t_equ h59 (by decide : (0:Int32).toInt ≤ (0:Int))
                  exact ev_ret f_X1_search rfl rfl rfl ⟨_, _, _, rfl, hI, hX, rfl⟩
                · have l61 : 1 ≤ w58.toInt := t_nel h59 l58 rfl rfl
                  refine ev_loc f_X1_search (nx := 196) rfl rfl rfl rfl ?_
                  refine ev_getR f_X1_search (nx := 199) rfl (hI.wf.s rfl) rfl rfl (hI.wf.r rfl) rfl rfl ?_
                  refine ev_loc f_X1_search (nx := 201) rfl rfl rfl rfl ?_
                  refine ev_loc f_X1_search (nx := 203) rfl rfl rfl rfl ?_
                  refine ev_cI f_X1_search (nx := 206) (r := []) rfl rfl rfl rfl rfl rfl rfl (c_waitsOf hI 35 (t_Ln35 hI.wf) (ar4) (z57)) rfl hX rfl (fun w62 gi62 gl62 gr62 l62 u62 hI hX hC62 => ?_)
                  refine ev_loc f_X1_search (nx := 208) (lo' := [(7, .int w62), (6, .int z57), (0, .ref 28), (1, .int ar1), (2, .int ar2), (3, .int ar3), (4, .int ar4), (5, .int ar5)]) rfl rfl rfl rfl ?_
                  refine ev_loc f_X1_search (nx := 209) rfl rfl rfl rfl ?_
                  refine ev_loc f_X1_search (nx := 211) rfl rfl rfl rfl ?_
                  refine ev_loc f_X1_search (nx := 212) rfl rfl rfl rfl ?_
                  refine ev_getR f_X1_search (nx := 215) rfl (hI.wf.s rfl) rfl rfl (hI.wf.r rfl) rfl rfl ?_
                  refine ev_getR f_X1_search (nx := 218) rfl (hI.wf.s rfl) rfl rfl (hI.wf.r rfl) rfl rfl ?_
                  refine ev_loc f_X1_search (nx := 220) rfl rfl rfl rfl ?_
                  refine ev_ialdT f_X1_search (nx := 221) rfl (hI.wf.s rfl) l_a4 (by decide) u54 (by decide) rfl (fun w63 e63 => ?_)
                  refine ev_anyI f_X1_search (nx := 222) rfl rfl rfl rfl (fun z64 => ?_)
                  refine ev_ic f_X1_search (nx := 223) (v := 0) rfl (by decide) rfl ?_
                  refine ev_loc f_X1_search (nx := 224) rfl rfl rfl rfl ?_
                  refine ev_loc f_X1_search (nx := 226) rfl rfl rfl rfl ?_
                  refine ev_ic f_X1_search (nx := 227) (v := 1) rfl (by decide) rfl ?_
                  refine ev_addC f_X1_search (nx := 228) (c := 1) (l := 1) (u := 6) rfl (by decide) l_a4 u54 rfl rfl (by decide) (by decide) rfl (fun z65 e65 l65 u65 => ?_)
                  refine ev_loc f_X1_search (nx := 230) rfl rfl rfl rfl ?_
                  refine ev_loc f_X1_search (nx := 232) rfl rfl rfl rfl ?_
                  refine ev_anyI f_X1_search (nx := 233) rfl rfl rfl rfl (fun z66 => ?_)
                  refine ev_c0 f_X1_search (nx := 236) (r := []) rfl rfl rfl rfl rfl rfl rfl (x_Me.up (ih hI (z64) (0) (by decide : (0:Int) ≤ (0:Int32).toInt) (Int.le_trans (by decide : (0:Int32).toInt ≤ (0:Int)) (by decide : (0:Int) ≤ 1)) (ar3) l_a3 (Int.le_trans u8 (by decide : (5:Int) ≤ 6)) (z65) (Int.le_trans (by decide : (0:Int) ≤ 1) l65) u65 (z66) (by omega)) (by omega)) rfl hX rfl (fun gi67 gl67 gr67 hI hX hC67 => ?_)
                  exact ev_ret f_X1_search rfl rfl rfl ⟨_, _, _, rfl, hI, hX, rfl⟩
            · have l68 : 1 ≤ w49.toInt := t_nel h50 l49 rfl rfl
              refine ev_loc f_X1_search (nx := 103) rfl rfl rfl rfl ?_
              refine ev_getR f_X1_search (nx := 106) rfl (hI.wf.s rfl) rfl rfl (hI.wf.r rfl) rfl rfl ?_
              refine ev_loc f_X1_search (nx := 107) rfl rfl rfl rfl ?_
              refine ev_loc f_X1_search (nx := 109) rfl rfl rfl rfl ?_
              refine ev_cI f_X1_search (nx := 112) (r := []) rfl rfl rfl rfl rfl rfl rfl (c_waitsOf hI 29 (t_Ln29 hI.wf) (ar3) (z48)) rfl hX rfl (fun w69 gi69 gl69 gr69 l69 u69 hI hX hC69 => ?_)
              refine ev_loc f_X1_search (nx := 114) (lo' := [(7, .int w69), (6, .int z48), (0, .ref 28), (1, .int ar1), (2, .int ar2), (3, .int ar3), (4, .int ar4), (5, .int ar5)]) rfl rfl rfl rfl ?_
              refine ev_loc f_X1_search (nx := 115) rfl rfl rfl rfl ?_
              refine ev_loc f_X1_search (nx := 117) rfl rfl rfl rfl ?_
              refine ev_loc f_X1_search (nx := 118) rfl rfl rfl rfl ?_
              refine ev_getR f_X1_search (nx := 121) rfl (hI.wf.s rfl) rfl rfl (hI.wf.r rfl) rfl rfl ?_
              refine ev_getR f_X1_search (nx := 124) rfl (hI.wf.s rfl) rfl rfl (hI.wf.r rfl) rfl rfl ?_
              refine ev_loc f_X1_search (nx := 125) rfl rfl rfl rfl ?_
              refine ev_ialdT f_X1_search (nx := 126) rfl (hI.wf.s rfl) l_a3 (by decide) u8 (by decide) rfl (fun w70 e70 => ?_)
              refine ev_anyI f_X1_search (nx := 127) rfl rfl rfl rfl (fun z71 => ?_)
              refine ev_ic f_X1_search (nx := 128) (v := 1) rfl (by decide) rfl ?_
              refine ev_loc f_X1_search (nx := 129) rfl rfl rfl rfl ?_
              refine ev_ic f_X1_search (nx := 130) (v := 1) rfl (by decide) rfl ?_
              refine ev_addC f_X1_search (nx := 131) (c := 1) (l := 1) (u := 6) rfl (by decide) l_a3 u8 rfl rfl (by decide) (by decide) rfl (fun z72 e72 l72 u72 => ?_)
              refine ev_loc f_X1_search (nx := 133) rfl rfl rfl rfl ?_
              refine ev_loc f_X1_search (nx := 135) rfl rfl rfl rfl ?_
              refine ev_loc f_X1_search (nx := 137) rfl rfl rfl rfl ?_
              refine ev_anyI f_X1_search (nx := 138) rfl rfl rfl rfl (fun z73 => ?_)
              refine ev_c0 f_X1_search (nx := 141) (r := []) rfl rfl rfl rfl rfl rfl rfl (x_Me.up (ih hI (z71) (1) (Int.le_trans (by decide : (0:Int) ≤ 1) (by decide : (1:Int) ≤ (1:Int32).toInt)) (by decide : (1:Int32).toInt ≤ (1:Int)) (z72) (Int.le_trans (by decide : (0:Int) ≤ 1) l72) u72 (ar4) l_a4 u_a4 (z73) (by omega)) (by omega)) rfl hX rfl (fun gi74 gl74 gr74 hI hX hC74 => ?_)
              refine ev_loc f_X1_search (nx := 143) rfl rfl rfl rfl ?_
              refine ev_loc f_X1_search (nx := 144) rfl rfl rfl rfl ?_
              refine ev_getR f_X1_search (nx := 147) rfl (hI.wf.s rfl) rfl rfl (hI.wf.r rfl) rfl rfl ?_
              refine ev_getI f_X1_search (nx := 150) rfl (hI.wf.s rfl) rfl rfl rfl ?_
              obtain ⟨l75, u75⟩ := hI.b (hI.wf.s (k := 35) rfl) (t_bdK rfl : t_bd 3 0 = some (0, 6))
              refine ev_if f_X1_search (t1 := 236) (t2 := 153) rfl rfl rfl (fun h76 => ?_) (fun h76 => ?_)
              · exact ev_ret f_X1_search rfl rfl rfl ⟨_, _, _, rfl, hI, hX, rfl⟩
              · have u77 : ar4.toInt ≤ 5 := t_ltu (t_nle h76) u75 rfl
                have l78 : 1 ≤ (gi74 35 0).toInt := t_ltl (t_nle h76) l_a4 rfl
                refine ev_loc f_X1_search (nx := 154) rfl rfl rfl rfl ?_
                refine ev_getR f_X1_search (nx := 157) rfl (hI.wf.s rfl) rfl rfl (hI.wf.r rfl) rfl rfl ?_
                refine ev_getR f_X1_search (nx := 160) rfl (hI.wf.s rfl) rfl rfl (hI.wf.r rfl) rfl rfl ?_
                refine ev_loc f_X1_search (nx := 162) rfl rfl rfl rfl ?_
                refine ev_ialdT f_X1_search (nx := 163) rfl (hI.wf.s rfl) l_a4 (by decide) u77 (by decide) rfl (fun w79 e79 => ?_)
                refine ev_loc f_X1_search (nx := 164) rfl rfl rfl rfl ?_
                refine ev_t f_X1_search (t1 := 175) (t2 := 167) rfl rfl rfl (t_eqT u46 l_a2 (by decide : (0:Int32).toInt ≤ (0:Int)) (by decide : (0:Int) ≤ (0:Int32).toInt)) ?_
                refine ev_loc f_X1_search (nx := 176) rfl rfl rfl rfl ?_
                refine ev_mmR f_X1_search (nx := 179) (l := (-2147483648)) (u := 2147483647) rfl rfl rfl (by omega) rfl (t_lo w79) (t_hi w79) (t_lo ar1) (t_hi ar1) (by decide) (by decide) rfl (fun z80 l80 u80 => ?_)
                refine ev_loc f_X1_search (nx := 181) (lo' := [(6, .int z80), (7, .int w69), (0, .ref 28), (1, .int ar1), (2, .int ar2), (3, .int ar3), (4, .int ar4), (5, .int ar5)]) rfl rfl rfl rfl ?_
                refine ev_loc f_X1_search (nx := 182) rfl rfl rfl rfl ?_
                refine ev_getR f_X1_search (nx := 185) rfl (hI.wf.s rfl) rfl rfl (hI.wf.r rfl) rfl rfl ?_
                refine ev_loc f_X1_search (nx := 187) rfl rfl rfl rfl ?_
                refine ev_loc f_X1_search (nx := 189) rfl rfl rfl rfl ?_
                refine ev_cI f_X1_search (nx := 192) (r := []) rfl rfl rfl rfl rfl rfl rfl (c_canBegin hI 35 (t_Ln35 hI.wf) (ar4) (z80)) rfl hX rfl (fun w81 gi81 gl81 gr81 l81 u81 hI hX hC81 => ?_)
                refine ev_if f_X1_search (t1 := 236) (t2 := 195) rfl rfl rfl (fun h82 => ?_) (fun h82 => ?_)
                · have u83 : w81.toInt ≤ 0 := t_equ h82 (by decide : (0:Int32).toInt ≤ (0:Int))
                  exact ev_ret f_X1_search rfl rfl rfl ⟨_, _, _, rfl, hI, hX, rfl⟩
                · have l84 : 1 ≤ w81.toInt := t_nel h82 l81 rfl rfl
                  refine ev_loc f_X1_search (nx := 196) rfl rfl rfl rfl ?_
                  refine ev_getR f_X1_search (nx := 199) rfl (hI.wf.s rfl) rfl rfl (hI.wf.r rfl) rfl rfl ?_
                  refine ev_loc f_X1_search (nx := 201) rfl rfl rfl rfl ?_
                  refine ev_loc f_X1_search (nx := 203) rfl rfl rfl rfl ?_
                  refine ev_cI f_X1_search (nx := 206) (r := []) rfl rfl rfl rfl rfl rfl rfl (c_waitsOf hI 35 (t_Ln35 hI.wf) (ar4) (z80)) rfl hX rfl (fun w85 gi85 gl85 gr85 l85 u85 hI hX hC85 => ?_)
                  refine ev_loc f_X1_search (nx := 208) (lo' := [(7, .int w85), (6, .int z80), (0, .ref 28), (1, .int ar1), (2, .int ar2), (3, .int ar3), (4, .int ar4), (5, .int ar5)]) rfl rfl rfl rfl ?_
                  refine ev_loc f_X1_search (nx := 209) rfl rfl rfl rfl ?_
                  refine ev_loc f_X1_search (nx := 211) rfl rfl rfl rfl ?_
                  refine ev_loc f_X1_search (nx := 212) rfl rfl rfl rfl ?_
                  refine ev_getR f_X1_search (nx := 215) rfl (hI.wf.s rfl) rfl rfl (hI.wf.r rfl) rfl rfl ?_
                  refine ev_getR f_X1_search (nx := 218) rfl (hI.wf.s rfl) rfl rfl (hI.wf.r rfl) rfl rfl ?_
                  refine ev_loc f_X1_search (nx := 220) rfl rfl rfl rfl ?_
                  refine ev_ialdT f_X1_search (nx := 221) rfl (hI.wf.s rfl) l_a4 (by decide) u77 (by decide) rfl (fun w86 e86 => ?_)
                  refine ev_anyI f_X1_search (nx := 222) rfl rfl rfl rfl (fun z87 => ?_)
                  refine ev_ic f_X1_search (nx := 223) (v := 0) rfl (by decide) rfl ?_
                  refine ev_loc f_X1_search (nx := 224) rfl rfl rfl rfl ?_
                  refine ev_loc f_X1_search (nx := 226) rfl rfl rfl rfl ?_
                  refine ev_ic f_X1_search (nx := 227) (v := 1) rfl (by decide) rfl ?_
                  refine ev_addC f_X1_search (nx := 228) (c := 1) (l := 1) (u := 6) rfl (by decide) l_a4 u77 rfl rfl (by decide) (by decide) rfl (fun z88 e88 l88 u88 => ?_)
                  refine ev_loc f_X1_search (nx := 230) rfl rfl rfl rfl ?_
                  refine ev_loc f_X1_search (nx := 232) rfl rfl rfl rfl ?_
                  refine ev_anyI f_X1_search (nx := 233) rfl rfl rfl rfl (fun z89 => ?_)
                  refine ev_c0 f_X1_search (nx := 236) (r := []) rfl rfl rfl rfl rfl rfl rfl (x_Me.up (ih hI (z87) (0) (by decide : (0:Int) ≤ (0:Int32).toInt) (Int.le_trans (by decide : (0:Int32).toInt ≤ (0:Int)) (by decide : (0:Int) ≤ 1)) (ar3) l_a3 (Int.le_trans u8 (by decide : (5:Int) ≤ 6)) (z88) (Int.le_trans (by decide : (0:Int) ≤ 1) l88) u88 (z89) (by omega)) (by omega)) rfl hX rfl (fun gi90 gl90 gr90 hI hX hC90 => ?_)
                  exact ev_ret f_X1_search rfl rfl rfl ⟨_, _, _, rfl, hI, hX, rfl⟩
          · have l91 : 1 ≤ ar2.toInt := t_nel h45 l_a2 rfl rfl
            refine ev_loc f_X1_search (nx := 76) rfl rfl rfl rfl ?_
            refine ev_jmp f_X1_search (nx := 84) rfl rfl rfl ?_
            refine ev_mmR f_X1_search (nx := 87) (l := (-2147483648)) (u := 2147483647) rfl rfl rfl (by omega) rfl (t_lo w44) (t_hi w44) (t_lo ar1) (t_hi ar1) (by decide) (by decide) rfl (fun z92 l92 u92 => ?_)
            refine ev_loc f_X1_search (nx := 89) (lo' := [(6, .int z92), (0, .ref 28), (1, .int ar1), (2, .int ar2), (3, .int ar3), (4, .int ar4), (5, .int ar5)]) rfl rfl rfl rfl ?_
            refine ev_loc f_X1_search (nx := 90) rfl rfl rfl rfl ?_
            refine ev_getR f_X1_search (nx := 93) rfl (hI.wf.s rfl) rfl rfl (hI.wf.r rfl) rfl rfl ?_
            refine ev_loc f_X1_search (nx := 94) rfl rfl rfl rfl ?_
            refine ev_loc f_X1_search (nx := 96) rfl rfl rfl rfl ?_
            refine ev_cI f_X1_search (nx := 99) (r := []) rfl rfl rfl rfl rfl rfl rfl (c_canBegin hI 29 (t_Ln29 hI.wf) (ar3) (z92)) rfl hX rfl (fun w93 gi93 gl93 gr93 l93 u93 hI hX hC93 => ?_)
            refine ev_if f_X1_search (t1 := 141) (t2 := 102) rfl rfl rfl (fun h94 => ?_) (fun h94 => ?_)
            · have u95 : w93.toInt ≤ 0 := t_equ h94 (by decide : (0:Int32).toInt ≤ (0:Int))
              refine ev_loc f_X1_search (nx := 143) rfl rfl rfl rfl ?_
              refine ev_loc f_X1_search (nx := 144) rfl rfl rfl rfl ?_
              refine ev_getR f_X1_search (nx := 147) rfl (hI.wf.s rfl) rfl rfl (hI.wf.r rfl) rfl rfl ?_
              refine ev_getI f_X1_search (nx := 150) rfl (hI.wf.s rfl) rfl rfl rfl ?_
              obtain ⟨l96, u96⟩ := hI.b (hI.wf.s (k := 35) rfl) (t_bdK rfl : t_bd 3 0 = some (0, 6))
              refine ev_if f_X1_search (t1 := 236) (t2 := 153) rfl rfl rfl (fun h97 => ?_) (fun h97 => ?_)
              · exact ev_ret f_X1_search rfl rfl rfl ⟨_, _, _, rfl, hI, hX, rfl⟩
              · have u98 : ar4.toInt ≤ 5 := t_ltu (t_nle h97) u96 rfl
                have l99 : 1 ≤ (gi93 35 0).toInt := t_ltl (t_nle h97) l_a4 rfl
                refine ev_loc f_X1_search (nx := 154) rfl rfl rfl rfl ?_
                refine ev_getR f_X1_search (nx := 157) rfl (hI.wf.s rfl) rfl rfl (hI.wf.r rfl) rfl rfl ?_
                refine ev_getR f_X1_search (nx := 160) rfl (hI.wf.s rfl) rfl rfl (hI.wf.r rfl) rfl rfl ?_
                refine ev_loc f_X1_search (nx := 162) rfl rfl rfl rfl ?_
                refine ev_ialdT f_X1_search (nx := 163) rfl (hI.wf.s rfl) l_a4 (by decide) u98 (by decide) rfl (fun w100 e100 => ?_)
                refine ev_loc f_X1_search (nx := 164) rfl rfl rfl rfl ?_
                refine ev_f f_X1_search (t1 := 175) (t2 := 167) rfl rfl rfl (t_neT' (by decide : (0:Int32).toInt ≤ (0:Int)) l91 (by decide)) ?_
                refine ev_loc f_X1_search (nx := 168) rfl rfl rfl rfl ?_
                refine ev_loc f_X1_search (nx := 169) rfl rfl rfl rfl ?_
                refine ev_cI f_X1_search (nx := 172) (r := [.int w100]) rfl rfl rfl rfl rfl rfl rfl (c_turnEnd hI (ar1)) rfl hX rfl (fun w101 gi101 gl101 gr101 l101 u101 hI hX hC101 => ?_)
                refine ev_jmp f_X1_search (nx := 176) rfl rfl rfl ?_
                refine ev_mmR f_X1_search (nx := 179) (l := (-2147483648)) (u := 2147483647) rfl rfl rfl (by omega) rfl (t_lo w100) (t_hi w100) l101 u101 (by decide) (by decide) rfl (fun z102 l102 u102 => ?_)
                refine ev_loc f_X1_search (nx := 181) (lo' := [(6, .int z102), (0, .ref 28), (1, .int ar1), (2, .int ar2), (3, .int ar3), (4, .int ar4), (5, .int ar5)]) rfl rfl rfl rfl ?_
                refine ev_loc f_X1_search (nx := 182) rfl rfl rfl rfl ?_
                refine ev_getR f_X1_search (nx := 185) rfl (hI.wf.s rfl) rfl rfl (hI.wf.r rfl) rfl rfl ?_
                refine ev_loc f_X1_search (nx := 187) rfl rfl rfl rfl ?_
                refine ev_loc f_X1_search (nx := 189) rfl rfl rfl rfl ?_
                refine ev_cI f_X1_search (nx := 192) (r := []) rfl rfl rfl rfl rfl rfl rfl (c_canBegin hI 35 (t_Ln35 hI.wf) (ar4) (z102)) rfl hX rfl (fun w103 gi103 gl103 gr103 l103 u103 hI hX hC103 => ?_)
                refine ev_if f_X1_search (t1 := 236) (t2 := 195) rfl rfl rfl (fun h104 => ?_) (fun h104 => ?_)
                · have u105 : w103.toInt ≤ 0 := t_equ h104 (by decide : (0:Int32).toInt ≤ (0:Int))
                  exact ev_ret f_X1_search rfl rfl rfl ⟨_, _, _, rfl, hI, hX, rfl⟩
                · have l106 : 1 ≤ w103.toInt := t_nel h104 l103 rfl rfl
                  refine ev_loc f_X1_search (nx := 196) rfl rfl rfl rfl ?_
                  refine ev_getR f_X1_search (nx := 199) rfl (hI.wf.s rfl) rfl rfl (hI.wf.r rfl) rfl rfl ?_
                  refine ev_loc f_X1_search (nx := 201) rfl rfl rfl rfl ?_
                  refine ev_loc f_X1_search (nx := 203) rfl rfl rfl rfl ?_
                  refine ev_cI f_X1_search (nx := 206) (r := []) rfl rfl rfl rfl rfl rfl rfl (c_waitsOf hI 35 (t_Ln35 hI.wf) (ar4) (z102)) rfl hX rfl (fun w107 gi107 gl107 gr107 l107 u107 hI hX hC107 => ?_)
                  refine ev_loc f_X1_search (nx := 208) (lo' := [(7, .int w107), (6, .int z102), (0, .ref 28), (1, .int ar1), (2, .int ar2), (3, .int ar3), (4, .int ar4), (5, .int ar5)]) rfl rfl rfl rfl ?_
                  refine ev_loc f_X1_search (nx := 209) rfl rfl rfl rfl ?_
                  refine ev_loc f_X1_search (nx := 211) rfl rfl rfl rfl ?_
                  refine ev_loc f_X1_search (nx := 212) rfl rfl rfl rfl ?_
                  refine ev_getR f_X1_search (nx := 215) rfl (hI.wf.s rfl) rfl rfl (hI.wf.r rfl) rfl rfl ?_
                  refine ev_getR f_X1_search (nx := 218) rfl (hI.wf.s rfl) rfl rfl (hI.wf.r rfl) rfl rfl ?_
                  refine ev_loc f_X1_search (nx := 220) rfl rfl rfl rfl ?_
                  refine ev_ialdT f_X1_search (nx := 221) rfl (hI.wf.s rfl) l_a4 (by decide) u98 (by decide) rfl (fun w108 e108 => ?_)
                  refine ev_anyI f_X1_search (nx := 222) rfl rfl rfl rfl (fun z109 => ?_)
                  refine ev_ic f_X1_search (nx := 223) (v := 0) rfl (by decide) rfl ?_
                  refine ev_loc f_X1_search (nx := 224) rfl rfl rfl rfl ?_
                  refine ev_loc f_X1_search (nx := 226) rfl rfl rfl rfl ?_
                  refine ev_ic f_X1_search (nx := 227) (v := 1) rfl (by decide) rfl ?_
                  refine ev_addC f_X1_search (nx := 228) (c := 1) (l := 1) (u := 6) rfl (by decide) l_a4 u98 rfl rfl (by decide) (by decide) rfl (fun z110 e110 l110 u110 => ?_)
                  refine ev_loc f_X1_search (nx := 230) rfl rfl rfl rfl ?_
                  refine ev_loc f_X1_search (nx := 232) rfl rfl rfl rfl ?_
                  refine ev_anyI f_X1_search (nx := 233) rfl rfl rfl rfl (fun z111 => ?_)
                  refine ev_c0 f_X1_search (nx := 236) (r := []) rfl rfl rfl rfl rfl rfl rfl (x_Me.up (ih hI (z109) (0) (by decide : (0:Int) ≤ (0:Int32).toInt) (Int.le_trans (by decide : (0:Int32).toInt ≤ (0:Int)) (by decide : (0:Int) ≤ 1)) (ar3) l_a3 (Int.le_trans u8 (by decide : (5:Int) ≤ 6)) (z110) (Int.le_trans (by decide : (0:Int) ≤ 1) l110) u110 (z111) (by omega)) (by omega)) rfl hX rfl (fun gi112 gl112 gr112 hI hX hC112 => ?_)
                  exact ev_ret f_X1_search rfl rfl rfl ⟨_, _, _, rfl, hI, hX, rfl⟩
            · have l113 : 1 ≤ w93.toInt := t_nel h94 l93 rfl rfl
              refine ev_loc f_X1_search (nx := 103) rfl rfl rfl rfl ?_
              refine ev_getR f_X1_search (nx := 106) rfl (hI.wf.s rfl) rfl rfl (hI.wf.r rfl) rfl rfl ?_
              refine ev_loc f_X1_search (nx := 107) rfl rfl rfl rfl ?_
              refine ev_loc f_X1_search (nx := 109) rfl rfl rfl rfl ?_
              refine ev_cI f_X1_search (nx := 112) (r := []) rfl rfl rfl rfl rfl rfl rfl (c_waitsOf hI 29 (t_Ln29 hI.wf) (ar3) (z92)) rfl hX rfl (fun w114 gi114 gl114 gr114 l114 u114 hI hX hC114 => ?_)
              refine ev_loc f_X1_search (nx := 114) (lo' := [(7, .int w114), (6, .int z92), (0, .ref 28), (1, .int ar1), (2, .int ar2), (3, .int ar3), (4, .int ar4), (5, .int ar5)]) rfl rfl rfl rfl ?_
              refine ev_loc f_X1_search (nx := 115) rfl rfl rfl rfl ?_
              refine ev_loc f_X1_search (nx := 117) rfl rfl rfl rfl ?_
              refine ev_loc f_X1_search (nx := 118) rfl rfl rfl rfl ?_
              refine ev_getR f_X1_search (nx := 121) rfl (hI.wf.s rfl) rfl rfl (hI.wf.r rfl) rfl rfl ?_
              refine ev_getR f_X1_search (nx := 124) rfl (hI.wf.s rfl) rfl rfl (hI.wf.r rfl) rfl rfl ?_
              refine ev_loc f_X1_search (nx := 125) rfl rfl rfl rfl ?_
              refine ev_ialdT f_X1_search (nx := 126) rfl (hI.wf.s rfl) l_a3 (by decide) u8 (by decide) rfl (fun w115 e115 => ?_)
              refine ev_anyI f_X1_search (nx := 127) rfl rfl rfl rfl (fun z116 => ?_)
              refine ev_ic f_X1_search (nx := 128) (v := 1) rfl (by decide) rfl ?_
              refine ev_loc f_X1_search (nx := 129) rfl rfl rfl rfl ?_
              refine ev_ic f_X1_search (nx := 130) (v := 1) rfl (by decide) rfl ?_
              refine ev_addC f_X1_search (nx := 131) (c := 1) (l := 1) (u := 6) rfl (by decide) l_a3 u8 rfl rfl (by decide) (by decide) rfl (fun z117 e117 l117 u117 => ?_)
              refine ev_loc f_X1_search (nx := 133) rfl rfl rfl rfl ?_
              refine ev_loc f_X1_search (nx := 135) rfl rfl rfl rfl ?_
              refine ev_loc f_X1_search (nx := 137) rfl rfl rfl rfl ?_
              refine ev_anyI f_X1_search (nx := 138) rfl rfl rfl rfl (fun z118 => ?_)
              refine ev_c0 f_X1_search (nx := 141) (r := []) rfl rfl rfl rfl rfl rfl rfl (x_Me.up (ih hI (z116) (1) (Int.le_trans (by decide : (0:Int) ≤ 1) (by decide : (1:Int) ≤ (1:Int32).toInt)) (by decide : (1:Int32).toInt ≤ (1:Int)) (z117) (Int.le_trans (by decide : (0:Int) ≤ 1) l117) u117 (ar4) l_a4 u_a4 (z118) (by omega)) (by omega)) rfl hX rfl (fun gi119 gl119 gr119 hI hX hC119 => ?_)
              refine ev_loc f_X1_search (nx := 143) rfl rfl rfl rfl ?_
              refine ev_loc f_X1_search (nx := 144) rfl rfl rfl rfl ?_
              refine ev_getR f_X1_search (nx := 147) rfl (hI.wf.s rfl) rfl rfl (hI.wf.r rfl) rfl rfl ?_
              refine ev_getI f_X1_search (nx := 150) rfl (hI.wf.s rfl) rfl rfl rfl ?_
              obtain ⟨l120, u120⟩ := hI.b (hI.wf.s (k := 35) rfl) (t_bdK rfl : t_bd 3 0 = some (0, 6))
              refine ev_if f_X1_search (t1 := 236) (t2 := 153) rfl rfl rfl (fun h121 => ?_) (fun h121 => ?_)
              · exact ev_ret f_X1_search rfl rfl rfl ⟨_, _, _, rfl, hI, hX, rfl⟩
              · have u122 : ar4.toInt ≤ 5 := t_ltu (t_nle h121) u120 rfl
                have l123 : 1 ≤ (gi119 35 0).toInt := t_ltl (t_nle h121) l_a4 rfl
                refine ev_loc f_X1_search (nx := 154) rfl rfl rfl rfl ?_
                refine ev_getR f_X1_search (nx := 157) rfl (hI.wf.s rfl) rfl rfl (hI.wf.r rfl) rfl rfl ?_
                refine ev_getR f_X1_search (nx := 160) rfl (hI.wf.s rfl) rfl rfl (hI.wf.r rfl) rfl rfl ?_
                refine ev_loc f_X1_search (nx := 162) rfl rfl rfl rfl ?_
                refine ev_ialdT f_X1_search (nx := 163) rfl (hI.wf.s rfl) l_a4 (by decide) u122 (by decide) rfl (fun w124 e124 => ?_)
                refine ev_loc f_X1_search (nx := 164) rfl rfl rfl rfl ?_
                refine ev_f f_X1_search (t1 := 175) (t2 := 167) rfl rfl rfl (t_neT' (by decide : (0:Int32).toInt ≤ (0:Int)) l91 (by decide)) ?_
                refine ev_loc f_X1_search (nx := 168) rfl rfl rfl rfl ?_
                refine ev_loc f_X1_search (nx := 169) rfl rfl rfl rfl ?_
                refine ev_cI f_X1_search (nx := 172) (r := [.int w124]) rfl rfl rfl rfl rfl rfl rfl (c_turnEnd hI (ar1)) rfl hX rfl (fun w125 gi125 gl125 gr125 l125 u125 hI hX hC125 => ?_)
                refine ev_jmp f_X1_search (nx := 176) rfl rfl rfl ?_
                refine ev_mmR f_X1_search (nx := 179) (l := (-2147483648)) (u := 2147483647) rfl rfl rfl (by omega) rfl (t_lo w124) (t_hi w124) l125 u125 (by decide) (by decide) rfl (fun z126 l126 u126 => ?_)
                refine ev_loc f_X1_search (nx := 181) (lo' := [(6, .int z126), (7, .int w114), (0, .ref 28), (1, .int ar1), (2, .int ar2), (3, .int ar3), (4, .int ar4), (5, .int ar5)]) rfl rfl rfl rfl ?_
                refine ev_loc f_X1_search (nx := 182) rfl rfl rfl rfl ?_
                refine ev_getR f_X1_search (nx := 185) rfl (hI.wf.s rfl) rfl rfl (hI.wf.r rfl) rfl rfl ?_
                refine ev_loc f_X1_search (nx := 187) rfl rfl rfl rfl ?_
                refine ev_loc f_X1_search (nx := 189) rfl rfl rfl rfl ?_
                refine ev_cI f_X1_search (nx := 192) (r := []) rfl rfl rfl rfl rfl rfl rfl (c_canBegin hI 35 (t_Ln35 hI.wf) (ar4) (z126)) rfl hX rfl (fun w127 gi127 gl127 gr127 l127 u127 hI hX hC127 => ?_)
                refine ev_if f_X1_search (t1 := 236) (t2 := 195) rfl rfl rfl (fun h128 => ?_) (fun h128 => ?_)
                · have u129 : w127.toInt ≤ 0 := t_equ h128 (by decide : (0:Int32).toInt ≤ (0:Int))
                  exact ev_ret f_X1_search rfl rfl rfl ⟨_, _, _, rfl, hI, hX, rfl⟩
                · have l130 : 1 ≤ w127.toInt := t_nel h128 l127 rfl rfl
                  refine ev_loc f_X1_search (nx := 196) rfl rfl rfl rfl ?_
                  refine ev_getR f_X1_search (nx := 199) rfl (hI.wf.s rfl) rfl rfl (hI.wf.r rfl) rfl rfl ?_
                  refine ev_loc f_X1_search (nx := 201) rfl rfl rfl rfl ?_
                  refine ev_loc f_X1_search (nx := 203) rfl rfl rfl rfl ?_
                  refine ev_cI f_X1_search (nx := 206) (r := []) rfl rfl rfl rfl rfl rfl rfl (c_waitsOf hI 35 (t_Ln35 hI.wf) (ar4) (z126)) rfl hX rfl (fun w131 gi131 gl131 gr131 l131 u131 hI hX hC131 => ?_)
                  refine ev_loc f_X1_search (nx := 208) (lo' := [(7, .int w131), (6, .int z126), (0, .ref 28), (1, .int ar1), (2, .int ar2), (3, .int ar3), (4, .int ar4), (5, .int ar5)]) rfl rfl rfl rfl ?_
                  refine ev_loc f_X1_search (nx := 209) rfl rfl rfl rfl ?_
                  refine ev_loc f_X1_search (nx := 211) rfl rfl rfl rfl ?_
                  refine ev_loc f_X1_search (nx := 212) rfl rfl rfl rfl ?_
                  refine ev_getR f_X1_search (nx := 215) rfl (hI.wf.s rfl) rfl rfl (hI.wf.r rfl) rfl rfl ?_
                  refine ev_getR f_X1_search (nx := 218) rfl (hI.wf.s rfl) rfl rfl (hI.wf.r rfl) rfl rfl ?_
                  refine ev_loc f_X1_search (nx := 220) rfl rfl rfl rfl ?_
                  refine ev_ialdT f_X1_search (nx := 221) rfl (hI.wf.s rfl) l_a4 (by decide) u122 (by decide) rfl (fun w132 e132 => ?_)
                  refine ev_anyI f_X1_search (nx := 222) rfl rfl rfl rfl (fun z133 => ?_)
                  refine ev_ic f_X1_search (nx := 223) (v := 0) rfl (by decide) rfl ?_
                  refine ev_loc f_X1_search (nx := 224) rfl rfl rfl rfl ?_
                  refine ev_loc f_X1_search (nx := 226) rfl rfl rfl rfl ?_
                  refine ev_ic f_X1_search (nx := 227) (v := 1) rfl (by decide) rfl ?_
                  refine ev_addC f_X1_search (nx := 228) (c := 1) (l := 1) (u := 6) rfl (by decide) l_a4 u122 rfl rfl (by decide) (by decide) rfl (fun z134 e134 l134 u134 => ?_)
                  refine ev_loc f_X1_search (nx := 230) rfl rfl rfl rfl ?_
                  refine ev_loc f_X1_search (nx := 232) rfl rfl rfl rfl ?_
                  refine ev_anyI f_X1_search (nx := 233) rfl rfl rfl rfl (fun z135 => ?_)
                  refine ev_c0 f_X1_search (nx := 236) (r := []) rfl rfl rfl rfl rfl rfl rfl (x_Me.up (ih hI (z133) (0) (by decide : (0:Int) ≤ (0:Int32).toInt) (Int.le_trans (by decide : (0:Int32).toInt ≤ (0:Int)) (by decide : (0:Int) ≤ 1)) (ar3) l_a3 (Int.le_trans u8 (by decide : (5:Int) ≤ 6)) (z134) (Int.le_trans (by decide : (0:Int) ≤ 1) l134) u134 (z135) (by omega)) (by omega)) rfl hX rfl (fun gi136 gl136 gr136 hI hX hC136 => ?_)
                  exact ev_ret f_X1_search rfl rfl rfl ⟨_, _, _, rfl, hI, hX, rfl⟩
      · refine ev_loc f_X1_search (nx := 34) rfl rfl rfl rfl ?_
        refine ev_loc f_X1_search (nx := 35) rfl rfl rfl rfl ?_
        refine ev_getR f_X1_search (nx := 38) rfl (hI.wf.s rfl) rfl rfl (hI.wf.r rfl) rfl rfl ?_
        refine ev_getI f_X1_search (nx := 41) rfl (hI.wf.s rfl) rfl rfl rfl ?_
        obtain ⟨l137, u137⟩ := hI.b (hI.wf.s (k := 35) rfl) (t_bdK rfl : t_bd 3 0 = some (0, 6))
        refine ev_if f_X1_search (t1 := 51) (t2 := 44) rfl rfl rfl (fun h138 => ?_) (fun h138 => ?_)
        · have u139 : ar4.toInt ≤ 5 := t_ltu h138 u137 rfl
          have l140 : 1 ≤ (gi 35 0).toInt := t_ltl h138 l_a4 rfl
          refine ev_loc f_X1_search (nx := 52) rfl rfl rfl rfl ?_
          refine ev_loc f_X1_search (nx := 53) rfl rfl rfl rfl ?_
          refine ev_getR f_X1_search (nx := 56) rfl (hI.wf.s rfl) rfl rfl (hI.wf.r rfl) rfl rfl ?_
          refine ev_gvI f_X1_search (nx := 59) (w := (gi 29 0)) rfl (hI.wf.s rfl) rfl rfl rfl rfl ?_
          refine ev_if f_X1_search (t1 := 141) (t2 := 62) rfl rfl rfl (fun h141 => ?_) (fun h141 => ?_)
          · refine ev_loc f_X1_search (nx := 143) rfl rfl rfl rfl ?_
            refine ev_loc f_X1_search (nx := 144) rfl rfl rfl rfl ?_
            refine ev_getR f_X1_search (nx := 147) rfl (hI.wf.s rfl) rfl rfl (hI.wf.r rfl) rfl rfl ?_
            refine ev_gvI f_X1_search (nx := 150) (w := (gi 35 0)) rfl (hI.wf.s rfl) rfl rfl rfl rfl ?_
            refine ev_if f_X1_search (t1 := 236) (t2 := 153) rfl rfl rfl (fun h142 => ?_) (fun h142 => ?_)
            · have u143 : (gi 35 0).toInt ≤ 5 := t_leu h142 u139
              have l144 : 1 ≤ ar4.toInt := t_lel h142 l140
              exact ev_ret f_X1_search rfl rfl rfl ⟨_, _, _, rfl, hI, hX, rfl⟩
            · refine ev_loc f_X1_search (nx := 154) rfl rfl rfl rfl ?_
              refine ev_getR f_X1_search (nx := 157) rfl (hI.wf.s rfl) rfl rfl (hI.wf.r rfl) rfl rfl ?_
              refine ev_getR f_X1_search (nx := 160) rfl (hI.wf.s rfl) rfl rfl (hI.wf.r rfl) rfl rfl ?_
              refine ev_loc f_X1_search (nx := 162) rfl rfl rfl rfl ?_
              refine ev_ialdT f_X1_search (nx := 163) rfl (hI.wf.s rfl) l_a4 (by decide) u139 (by decide) rfl (fun w145 e145 => ?_)
              refine ev_loc f_X1_search (nx := 164) rfl rfl rfl rfl ?_
              refine ev_if f_X1_search (t1 := 175) (t2 := 167) rfl rfl rfl (fun h146 => ?_) (fun h146 => ?_)
              · have u147 : ar2.toInt ≤ 0 := t_equ h146 (by decide : (0:Int32).toInt ≤ (0:Int))
                refine ev_loc f_X1_search (nx := 176) rfl rfl rfl rfl ?_
                refine ev_mmR f_X1_search (nx := 179) (l := (-2147483648)) (u := 2147483647) rfl rfl rfl (by omega) rfl (t_lo w145) (t_hi w145) (t_lo ar1) (t_hi ar1) (by decide) (by decide) rfl (fun z148 l148 u148 => ?_)
                refine ev_loc f_X1_search (nx := 181) (lo' := [(6, .int z148), (0, .ref 28), (1, .int ar1), (2, .int ar2), (3, .int ar3), (4, .int ar4), (5, .int ar5)]) rfl rfl rfl rfl ?_
                refine ev_loc f_X1_search (nx := 182) rfl rfl rfl rfl ?_
                refine ev_getR f_X1_search (nx := 185) rfl (hI.wf.s rfl) rfl rfl (hI.wf.r rfl) rfl rfl ?_
                refine ev_loc f_X1_search (nx := 187) rfl rfl rfl rfl ?_
                refine ev_loc f_X1_search (nx := 189) rfl rfl rfl rfl ?_
                refine ev_cI f_X1_search (nx := 192) (r := []) rfl rfl rfl rfl rfl rfl rfl (c_canBegin hI 35 (t_Ln35 hI.wf) (ar4) (z148)) rfl hX rfl (fun w149 gi149 gl149 gr149 l149 u149 hI hX hC149 => ?_)
                refine ev_if f_X1_search (t1 := 236) (t2 := 195) rfl rfl rfl (fun h150 => ?_) (fun h150 => ?_)
                · have u151 : w149.toInt ≤ 0 := t_equ h150 (by decide : (0:Int32).toInt ≤ (0:Int))
                  exact ev_ret f_X1_search rfl rfl rfl ⟨_, _, _, rfl, hI, hX, rfl⟩
                · have l152 : 1 ≤ w149.toInt := t_nel h150 l149 rfl rfl
                  refine ev_loc f_X1_search (nx := 196) rfl rfl rfl rfl ?_
                  refine ev_getR f_X1_search (nx := 199) rfl (hI.wf.s rfl) rfl rfl (hI.wf.r rfl) rfl rfl ?_
                  refine ev_loc f_X1_search (nx := 201) rfl rfl rfl rfl ?_
                  refine ev_loc f_X1_search (nx := 203) rfl rfl rfl rfl ?_
                  refine ev_cI f_X1_search (nx := 206) (r := []) rfl rfl rfl rfl rfl rfl rfl (c_waitsOf hI 35 (t_Ln35 hI.wf) (ar4) (z148)) rfl hX rfl (fun w153 gi153 gl153 gr153 l153 u153 hI hX hC153 => ?_)
                  refine ev_loc f_X1_search (nx := 208) (lo' := [(7, .int w153), (6, .int z148), (0, .ref 28), (1, .int ar1), (2, .int ar2), (3, .int ar3), (4, .int ar4), (5, .int ar5)]) rfl rfl rfl rfl ?_
                  refine ev_loc f_X1_search (nx := 209) rfl rfl rfl rfl ?_
                  refine ev_loc f_X1_search (nx := 211) rfl rfl rfl rfl ?_
                  refine ev_loc f_X1_search (nx := 212) rfl rfl rfl rfl ?_
                  refine ev_getR f_X1_search (nx := 215) rfl (hI.wf.s rfl) rfl rfl (hI.wf.r rfl) rfl rfl ?_
                  refine ev_getR f_X1_search (nx := 218) rfl (hI.wf.s rfl) rfl rfl (hI.wf.r rfl) rfl rfl ?_
                  refine ev_loc f_X1_search (nx := 220) rfl rfl rfl rfl ?_
                  refine ev_ialdT f_X1_search (nx := 221) rfl (hI.wf.s rfl) l_a4 (by decide) u139 (by decide) rfl (fun w154 e154 => ?_)
                  refine ev_anyI f_X1_search (nx := 222) rfl rfl rfl rfl (fun z155 => ?_)
                  refine ev_ic f_X1_search (nx := 223) (v := 0) rfl (by decide) rfl ?_
                  refine ev_loc f_X1_search (nx := 224) rfl rfl rfl rfl ?_
                  refine ev_loc f_X1_search (nx := 226) rfl rfl rfl rfl ?_
                  refine ev_ic f_X1_search (nx := 227) (v := 1) rfl (by decide) rfl ?_
                  refine ev_addC f_X1_search (nx := 228) (c := 1) (l := 1) (u := 6) rfl (by decide) l_a4 u139 rfl rfl (by decide) (by decide) rfl (fun z156 e156 l156 u156 => ?_)
                  refine ev_loc f_X1_search (nx := 230) rfl rfl rfl rfl ?_
                  refine ev_loc f_X1_search (nx := 232) rfl rfl rfl rfl ?_
                  refine ev_anyI f_X1_search (nx := 233) rfl rfl rfl rfl (fun z157 => ?_)
                  refine ev_c0 f_X1_search (nx := 236) (r := []) rfl rfl rfl rfl rfl rfl rfl (x_Me.up (ih hI (z155) (0) (by decide : (0:Int) ≤ (0:Int32).toInt) (Int.le_trans (by decide : (0:Int32).toInt ≤ (0:Int)) (by decide : (0:Int) ≤ 1)) (ar3) l_a3 u_a3 (z156) (Int.le_trans (by decide : (0:Int) ≤ 1) l156) u156 (z157) (by omega)) (by omega)) rfl hX rfl (fun gi158 gl158 gr158 hI hX hC158 => ?_)
                  exact ev_ret f_X1_search rfl rfl rfl ⟨_, _, _, rfl, hI, hX, rfl⟩
              · have l159 : 1 ≤ ar2.toInt := t_nel h146 l_a2 rfl rfl
                refine ev_loc f_X1_search (nx := 168) rfl rfl rfl rfl ?_
                refine ev_loc f_X1_search (nx := 169) rfl rfl rfl rfl ?_
                refine ev_cI f_X1_search (nx := 172) (r := [.int w145]) rfl rfl rfl rfl rfl rfl rfl (c_turnEnd hI (ar1)) rfl hX rfl (fun w160 gi160 gl160 gr160 l160 u160 hI hX hC160 => ?_)
                refine ev_jmp f_X1_search (nx := 176) rfl rfl rfl ?_
                refine ev_mmR f_X1_search (nx := 179) (l := (-2147483648)) (u := 2147483647) rfl rfl rfl (by omega) rfl (t_lo w145) (t_hi w145) l160 u160 (by decide) (by decide) rfl (fun z161 l161 u161 => ?_)
                refine ev_loc f_X1_search (nx := 181) (lo' := [(6, .int z161), (0, .ref 28), (1, .int ar1), (2, .int ar2), (3, .int ar3), (4, .int ar4), (5, .int ar5)]) rfl rfl rfl rfl ?_
                refine ev_loc f_X1_search (nx := 182) rfl rfl rfl rfl ?_
                refine ev_getR f_X1_search (nx := 185) rfl (hI.wf.s rfl) rfl rfl (hI.wf.r rfl) rfl rfl ?_
                refine ev_loc f_X1_search (nx := 187) rfl rfl rfl rfl ?_
                refine ev_loc f_X1_search (nx := 189) rfl rfl rfl rfl ?_
                refine ev_cI f_X1_search (nx := 192) (r := []) rfl rfl rfl rfl rfl rfl rfl (c_canBegin hI 35 (t_Ln35 hI.wf) (ar4) (z161)) rfl hX rfl (fun w162 gi162 gl162 gr162 l162 u162 hI hX hC162 => ?_)
                refine ev_if f_X1_search (t1 := 236) (t2 := 195) rfl rfl rfl (fun h163 => ?_) (fun h163 => ?_)
                · have u164 : w162.toInt ≤ 0 := t_equ h163 (by decide : (0:Int32).toInt ≤ (0:Int))
                  exact ev_ret f_X1_search rfl rfl rfl ⟨_, _, _, rfl, hI, hX, rfl⟩
                · have l165 : 1 ≤ w162.toInt := t_nel h163 l162 rfl rfl
                  refine ev_loc f_X1_search (nx := 196) rfl rfl rfl rfl ?_
                  refine ev_getR f_X1_search (nx := 199) rfl (hI.wf.s rfl) rfl rfl (hI.wf.r rfl) rfl rfl ?_
                  refine ev_loc f_X1_search (nx := 201) rfl rfl rfl rfl ?_
                  refine ev_loc f_X1_search (nx := 203) rfl rfl rfl rfl ?_
                  refine ev_cI f_X1_search (nx := 206) (r := []) rfl rfl rfl rfl rfl rfl rfl (c_waitsOf hI 35 (t_Ln35 hI.wf) (ar4) (z161)) rfl hX rfl (fun w166 gi166 gl166 gr166 l166 u166 hI hX hC166 => ?_)
                  refine ev_loc f_X1_search (nx := 208) (lo' := [(7, .int w166), (6, .int z161), (0, .ref 28), (1, .int ar1), (2, .int ar2), (3, .int ar3), (4, .int ar4), (5, .int ar5)]) rfl rfl rfl rfl ?_
                  refine ev_loc f_X1_search (nx := 209) rfl rfl rfl rfl ?_
                  refine ev_loc f_X1_search (nx := 211) rfl rfl rfl rfl ?_
                  refine ev_loc f_X1_search (nx := 212) rfl rfl rfl rfl ?_
                  refine ev_getR f_X1_search (nx := 215) rfl (hI.wf.s rfl) rfl rfl (hI.wf.r rfl) rfl rfl ?_
                  refine ev_getR f_X1_search (nx := 218) rfl (hI.wf.s rfl) rfl rfl (hI.wf.r rfl) rfl rfl ?_
                  refine ev_loc f_X1_search (nx := 220) rfl rfl rfl rfl ?_
                  refine ev_ialdT f_X1_search (nx := 221) rfl (hI.wf.s rfl) l_a4 (by decide) u139 (by decide) rfl (fun w167 e167 => ?_)
                  refine ev_anyI f_X1_search (nx := 222) rfl rfl rfl rfl (fun z168 => ?_)
                  refine ev_ic f_X1_search (nx := 223) (v := 0) rfl (by decide) rfl ?_
                  refine ev_loc f_X1_search (nx := 224) rfl rfl rfl rfl ?_
                  refine ev_loc f_X1_search (nx := 226) rfl rfl rfl rfl ?_
                  refine ev_ic f_X1_search (nx := 227) (v := 1) rfl (by decide) rfl ?_
                  refine ev_addC f_X1_search (nx := 228) (c := 1) (l := 1) (u := 6) rfl (by decide) l_a4 u139 rfl rfl (by decide) (by decide) rfl (fun z169 e169 l169 u169 => ?_)
                  refine ev_loc f_X1_search (nx := 230) rfl rfl rfl rfl ?_
                  refine ev_loc f_X1_search (nx := 232) rfl rfl rfl rfl ?_
                  refine ev_anyI f_X1_search (nx := 233) rfl rfl rfl rfl (fun z170 => ?_)
                  refine ev_c0 f_X1_search (nx := 236) (r := []) rfl rfl rfl rfl rfl rfl rfl (x_Me.up (ih hI (z168) (0) (by decide : (0:Int) ≤ (0:Int32).toInt) (Int.le_trans (by decide : (0:Int32).toInt ≤ (0:Int)) (by decide : (0:Int) ≤ 1)) (ar3) l_a3 u_a3 (z169) (Int.le_trans (by decide : (0:Int) ≤ 1) l169) u169 (z170) (by omega)) (by omega)) rfl hX rfl (fun gi171 gl171 gr171 hI hX hC171 => ?_)
                  exact ev_ret f_X1_search rfl rfl rfl ⟨_, _, _, rfl, hI, hX, rfl⟩
          · have u172 : ar3.toInt ≤ 5 := t_ltu (t_nle h141) u6 rfl
            have l173 : 1 ≤ (gi 29 0).toInt := t_ltl (t_nle h141) l_a3 rfl
            refine ev_loc f_X1_search (nx := 63) rfl rfl rfl rfl ?_
            refine ev_getR f_X1_search (nx := 66) rfl (hI.wf.s rfl) rfl rfl (hI.wf.r rfl) rfl rfl ?_
            refine ev_getR f_X1_search (nx := 69) rfl (hI.wf.s rfl) rfl rfl (hI.wf.r rfl) rfl rfl ?_
            refine ev_loc f_X1_search (nx := 70) rfl rfl rfl rfl ?_
            refine ev_ialdT f_X1_search (nx := 71) rfl (hI.wf.s rfl) l_a3 (by decide) u172 (by decide) rfl (fun w174 e174 => ?_)
            refine ev_loc f_X1_search (nx := 72) rfl rfl rfl rfl ?_
            refine ev_if f_X1_search (t1 := 79) (t2 := 75) rfl rfl rfl (fun h175 => ?_) (fun h175 => ?_)
            · have u176 : ar2.toInt ≤ 0 := t_equ h175 (by decide : (0:Int32).toInt ≤ (0:Int))
              refine ev_loc f_X1_search (nx := 80) rfl rfl rfl rfl ?_
              refine ev_loc f_X1_search (nx := 81) rfl rfl rfl rfl ?_
              refine ev_cI f_X1_search (nx := 84) (r := [.int w174]) rfl rfl rfl rfl rfl rfl rfl (c_turnEnd hI (ar1)) rfl hX rfl (fun w177 gi177 gl177 gr177 l177 u177 hI hX hC177 => ?_)
              refine ev_mmR f_X1_search (nx := 87) (l := (-2147483648)) (u := 2147483647) rfl rfl rfl (by omega) rfl (t_lo w174) (t_hi w174) l177 u177 (by decide) (by decide) rfl (fun z178 l178 u178 => ?_)
              refine ev_loc f_X1_search (nx := 89) (lo' := [(6, .int z178), (0, .ref 28), (1, .int ar1), (2, .int ar2), (3, .int ar3), (4, .int ar4), (5, .int ar5)]) rfl rfl rfl rfl ?_
              refine ev_loc f_X1_search (nx := 90) rfl rfl rfl rfl ?_
              refine ev_getR f_X1_search (nx := 93) rfl (hI.wf.s rfl) rfl rfl (hI.wf.r rfl) rfl rfl ?_
              refine ev_loc f_X1_search (nx := 94) rfl rfl rfl rfl ?_
              refine ev_loc f_X1_search (nx := 96) rfl rfl rfl rfl ?_
              refine ev_cI f_X1_search (nx := 99) (r := []) rfl rfl rfl rfl rfl rfl rfl (c_canBegin hI 29 (t_Ln29 hI.wf) (ar3) (z178)) rfl hX rfl (fun w179 gi179 gl179 gr179 l179 u179 hI hX hC179 => ?_)
              refine ev_if f_X1_search (t1 := 141) (t2 := 102) rfl rfl rfl (fun h180 => ?_) (fun h180 => ?_)
              · have u181 : w179.toInt ≤ 0 := t_equ h180 (by decide : (0:Int32).toInt ≤ (0:Int))
                refine ev_loc f_X1_search (nx := 143) rfl rfl rfl rfl ?_
                refine ev_loc f_X1_search (nx := 144) rfl rfl rfl rfl ?_
                refine ev_getR f_X1_search (nx := 147) rfl (hI.wf.s rfl) rfl rfl (hI.wf.r rfl) rfl rfl ?_
                refine ev_gvI f_X1_search (nx := 150) (w := (gi 35 0)) rfl (hI.wf.s rfl) rfl rfl ((hC179.1 35 0 rfl).1.trans ((hC177.1 35 0 rfl).1.trans rfl)) rfl ?_
                refine ev_if f_X1_search (t1 := 236) (t2 := 153) rfl rfl rfl (fun h182 => ?_) (fun h182 => ?_)
                · have u183 : (gi 35 0).toInt ≤ 5 := t_leu h182 u139
                  have l184 : 1 ≤ ar4.toInt := t_lel h182 l140
                  exact ev_ret f_X1_search rfl rfl rfl ⟨_, _, _, rfl, hI, hX, rfl⟩
                · refine ev_loc f_X1_search (nx := 154) rfl rfl rfl rfl ?_
                  refine ev_getR f_X1_search (nx := 157) rfl (hI.wf.s rfl) rfl rfl (hI.wf.r rfl) rfl rfl ?_
                  refine ev_getR f_X1_search (nx := 160) rfl (hI.wf.s rfl) rfl rfl (hI.wf.r rfl) rfl rfl ?_
                  refine ev_loc f_X1_search (nx := 162) rfl rfl rfl rfl ?_
                  refine ev_ialdT f_X1_search (nx := 163) rfl (hI.wf.s rfl) l_a4 (by decide) u139 (by decide) rfl (fun w185 e185 => ?_)
                  refine ev_loc f_X1_search (nx := 164) rfl rfl rfl rfl ?_
                  refine ev_t f_X1_search (t1 := 175) (t2 := 167) rfl rfl rfl (t_eqT u176 l_a2 (by decide : (0:Int32).toInt ≤ (0:Int)) (by decide : (0:Int) ≤ (0:Int32).toInt)) ?_
                  refine ev_loc f_X1_search (nx := 176) rfl rfl rfl rfl ?_
                  refine ev_mmR f_X1_search (nx := 179) (l := (-2147483648)) (u := 2147483647) rfl rfl rfl (by omega) rfl (t_lo w185) (t_hi w185) (t_lo ar1) (t_hi ar1) (by decide) (by decide) rfl (fun z186 l186 u186 => ?_)
                  refine ev_loc f_X1_search (nx := 181) (lo' := [(6, .int z186), (0, .ref 28), (1, .int ar1), (2, .int ar2), (3, .int ar3), (4, .int ar4), (5, .int ar5)]) rfl rfl rfl rfl ?_
                  refine ev_loc f_X1_search (nx := 182) rfl rfl rfl rfl ?_
                  refine ev_getR f_X1_search (nx := 185) rfl (hI.wf.s rfl) rfl rfl (hI.wf.r rfl) rfl rfl ?_
                  refine ev_loc f_X1_search (nx := 187) rfl rfl rfl rfl ?_
                  refine ev_loc f_X1_search (nx := 189) rfl rfl rfl rfl ?_
                  refine ev_cI f_X1_search (nx := 192) (r := []) rfl rfl rfl rfl rfl rfl rfl (c_canBegin hI 35 (t_Ln35 hI.wf) (ar4) (z186)) rfl hX rfl (fun w187 gi187 gl187 gr187 l187 u187 hI hX hC187 => ?_)
                  refine ev_if f_X1_search (t1 := 236) (t2 := 195) rfl rfl rfl (fun h188 => ?_) (fun h188 => ?_)
                  · have u189 : w187.toInt ≤ 0 := t_equ h188 (by decide : (0:Int32).toInt ≤ (0:Int))
                    exact ev_ret f_X1_search rfl rfl rfl ⟨_, _, _, rfl, hI, hX, rfl⟩
                  · have l190 : 1 ≤ w187.toInt := t_nel h188 l187 rfl rfl
                    refine ev_loc f_X1_search (nx := 196) rfl rfl rfl rfl ?_
                    refine ev_getR f_X1_search (nx := 199) rfl (hI.wf.s rfl) rfl rfl (hI.wf.r rfl) rfl rfl ?_
                    refine ev_loc f_X1_search (nx := 201) rfl rfl rfl rfl ?_
                    refine ev_loc f_X1_search (nx := 203) rfl rfl rfl rfl ?_
                    refine ev_cI f_X1_search (nx := 206) (r := []) rfl rfl rfl rfl rfl rfl rfl (c_waitsOf hI 35 (t_Ln35 hI.wf) (ar4) (z186)) rfl hX rfl (fun w191 gi191 gl191 gr191 l191 u191 hI hX hC191 => ?_)
                    refine ev_loc f_X1_search (nx := 208) (lo' := [(7, .int w191), (6, .int z186), (0, .ref 28), (1, .int ar1), (2, .int ar2), (3, .int ar3), (4, .int ar4), (5, .int ar5)]) rfl rfl rfl rfl ?_
                    refine ev_loc f_X1_search (nx := 209) rfl rfl rfl rfl ?_
                    refine ev_loc f_X1_search (nx := 211) rfl rfl rfl rfl ?_
                    refine ev_loc f_X1_search (nx := 212) rfl rfl rfl rfl ?_
                    refine ev_getR f_X1_search (nx := 215) rfl (hI.wf.s rfl) rfl rfl (hI.wf.r rfl) rfl rfl ?_
                    refine ev_getR f_X1_search (nx := 218) rfl (hI.wf.s rfl) rfl rfl (hI.wf.r rfl) rfl rfl ?_
                    refine ev_loc f_X1_search (nx := 220) rfl rfl rfl rfl ?_
                    refine ev_ialdT f_X1_search (nx := 221) rfl (hI.wf.s rfl) l_a4 (by decide) u139 (by decide) rfl (fun w192 e192 => ?_)
                    refine ev_anyI f_X1_search (nx := 222) rfl rfl rfl rfl (fun z193 => ?_)
                    refine ev_ic f_X1_search (nx := 223) (v := 0) rfl (by decide) rfl ?_
                    refine ev_loc f_X1_search (nx := 224) rfl rfl rfl rfl ?_
                    refine ev_loc f_X1_search (nx := 226) rfl rfl rfl rfl ?_
                    refine ev_ic f_X1_search (nx := 227) (v := 1) rfl (by decide) rfl ?_
                    refine ev_addC f_X1_search (nx := 228) (c := 1) (l := 1) (u := 6) rfl (by decide) l_a4 u139 rfl rfl (by decide) (by decide) rfl (fun z194 e194 l194 u194 => ?_)
                    refine ev_loc f_X1_search (nx := 230) rfl rfl rfl rfl ?_
                    refine ev_loc f_X1_search (nx := 232) rfl rfl rfl rfl ?_
                    refine ev_anyI f_X1_search (nx := 233) rfl rfl rfl rfl (fun z195 => ?_)
                    refine ev_c0 f_X1_search (nx := 236) (r := []) rfl rfl rfl rfl rfl rfl rfl (x_Me.up (ih hI (z193) (0) (by decide : (0:Int) ≤ (0:Int32).toInt) (Int.le_trans (by decide : (0:Int32).toInt ≤ (0:Int)) (by decide : (0:Int) ≤ 1)) (ar3) l_a3 (Int.le_trans u172 (by decide : (5:Int) ≤ 6)) (z194) (Int.le_trans (by decide : (0:Int) ≤ 1) l194) u194 (z195) (by omega)) (by omega)) rfl hX rfl (fun gi196 gl196 gr196 hI hX hC196 => ?_)
                    exact ev_ret f_X1_search rfl rfl rfl ⟨_, _, _, rfl, hI, hX, rfl⟩
              · have l197 : 1 ≤ w179.toInt := t_nel h180 l179 rfl rfl
                refine ev_loc f_X1_search (nx := 103) rfl rfl rfl rfl ?_
                refine ev_getR f_X1_search (nx := 106) rfl (hI.wf.s rfl) rfl rfl (hI.wf.r rfl) rfl rfl ?_
                refine ev_loc f_X1_search (nx := 107) rfl rfl rfl rfl ?_
                refine ev_loc f_X1_search (nx := 109) rfl rfl rfl rfl ?_
                refine ev_cI f_X1_search (nx := 112) (r := []) rfl rfl rfl rfl rfl rfl rfl (c_waitsOf hI 29 (t_Ln29 hI.wf) (ar3) (z178)) rfl hX rfl (fun w198 gi198 gl198 gr198 l198 u198 hI hX hC198 => ?_)
                refine ev_loc f_X1_search (nx := 114) (lo' := [(7, .int w198), (6, .int z178), (0, .ref 28), (1, .int ar1), (2, .int ar2), (3, .int ar3), (4, .int ar4), (5, .int ar5)]) rfl rfl rfl rfl ?_
                refine ev_loc f_X1_search (nx := 115) rfl rfl rfl rfl ?_
                refine ev_loc f_X1_search (nx := 117) rfl rfl rfl rfl ?_
                refine ev_loc f_X1_search (nx := 118) rfl rfl rfl rfl ?_
                refine ev_getR f_X1_search (nx := 121) rfl (hI.wf.s rfl) rfl rfl (hI.wf.r rfl) rfl rfl ?_
                refine ev_getR f_X1_search (nx := 124) rfl (hI.wf.s rfl) rfl rfl (hI.wf.r rfl) rfl rfl ?_
                refine ev_loc f_X1_search (nx := 125) rfl rfl rfl rfl ?_
                refine ev_ialdT f_X1_search (nx := 126) rfl (hI.wf.s rfl) l_a3 (by decide) u172 (by decide) rfl (fun w199 e199 => ?_)
                refine ev_anyI f_X1_search (nx := 127) rfl rfl rfl rfl (fun z200 => ?_)
                refine ev_ic f_X1_search (nx := 128) (v := 1) rfl (by decide) rfl ?_
                refine ev_loc f_X1_search (nx := 129) rfl rfl rfl rfl ?_
                refine ev_ic f_X1_search (nx := 130) (v := 1) rfl (by decide) rfl ?_
                refine ev_addC f_X1_search (nx := 131) (c := 1) (l := 1) (u := 6) rfl (by decide) l_a3 u172 rfl rfl (by decide) (by decide) rfl (fun z201 e201 l201 u201 => ?_)
                refine ev_loc f_X1_search (nx := 133) rfl rfl rfl rfl ?_
                refine ev_loc f_X1_search (nx := 135) rfl rfl rfl rfl ?_
                refine ev_loc f_X1_search (nx := 137) rfl rfl rfl rfl ?_
                refine ev_anyI f_X1_search (nx := 138) rfl rfl rfl rfl (fun z202 => ?_)
                refine ev_c0 f_X1_search (nx := 141) (r := []) rfl rfl rfl rfl rfl rfl rfl (x_Me.up (ih hI (z200) (1) (Int.le_trans (by decide : (0:Int) ≤ 1) (by decide : (1:Int) ≤ (1:Int32).toInt)) (by decide : (1:Int32).toInt ≤ (1:Int)) (z201) (Int.le_trans (by decide : (0:Int) ≤ 1) l201) u201 (ar4) l_a4 (Int.le_trans u139 (by decide : (5:Int) ≤ 6)) (z202) (by omega)) (by omega)) rfl hX rfl (fun gi203 gl203 gr203 hI hX hC203 => ?_)
                refine ev_loc f_X1_search (nx := 143) rfl rfl rfl rfl ?_
                refine ev_loc f_X1_search (nx := 144) rfl rfl rfl rfl ?_
                refine ev_getR f_X1_search (nx := 147) rfl (hI.wf.s rfl) rfl rfl (hI.wf.r rfl) rfl rfl ?_
                refine ev_gvI f_X1_search (nx := 150) (w := (gi 35 0)) rfl (hI.wf.s rfl) rfl rfl ((hC203.1 35 0 rfl).1.trans ((hC198.1 35 0 rfl).1.trans ((hC179.1 35 0 rfl).1.trans ((hC177.1 35 0 rfl).1.trans rfl)))) rfl ?_
                refine ev_if f_X1_search (t1 := 236) (t2 := 153) rfl rfl rfl (fun h204 => ?_) (fun h204 => ?_)
                · have u205 : (gi 35 0).toInt ≤ 5 := t_leu h204 u139
                  have l206 : 1 ≤ ar4.toInt := t_lel h204 l140
                  exact ev_ret f_X1_search rfl rfl rfl ⟨_, _, _, rfl, hI, hX, rfl⟩
                · refine ev_loc f_X1_search (nx := 154) rfl rfl rfl rfl ?_
                  refine ev_getR f_X1_search (nx := 157) rfl (hI.wf.s rfl) rfl rfl (hI.wf.r rfl) rfl rfl ?_
                  refine ev_getR f_X1_search (nx := 160) rfl (hI.wf.s rfl) rfl rfl (hI.wf.r rfl) rfl rfl ?_
                  refine ev_loc f_X1_search (nx := 162) rfl rfl rfl rfl ?_
                  refine ev_ialdT f_X1_search (nx := 163) rfl (hI.wf.s rfl) l_a4 (by decide) u139 (by decide) rfl (fun w207 e207 => ?_)
                  refine ev_loc f_X1_search (nx := 164) rfl rfl rfl rfl ?_
                  refine ev_t f_X1_search (t1 := 175) (t2 := 167) rfl rfl rfl (t_eqT u176 l_a2 (by decide : (0:Int32).toInt ≤ (0:Int)) (by decide : (0:Int) ≤ (0:Int32).toInt)) ?_
                  refine ev_loc f_X1_search (nx := 176) rfl rfl rfl rfl ?_
                  refine ev_mmR f_X1_search (nx := 179) (l := (-2147483648)) (u := 2147483647) rfl rfl rfl (by omega) rfl (t_lo w207) (t_hi w207) (t_lo ar1) (t_hi ar1) (by decide) (by decide) rfl (fun z208 l208 u208 => ?_)
                  refine ev_loc f_X1_search (nx := 181) (lo' := [(6, .int z208), (7, .int w198), (0, .ref 28), (1, .int ar1), (2, .int ar2), (3, .int ar3), (4, .int ar4), (5, .int ar5)]) rfl rfl rfl rfl ?_
                  refine ev_loc f_X1_search (nx := 182) rfl rfl rfl rfl ?_
                  refine ev_getR f_X1_search (nx := 185) rfl (hI.wf.s rfl) rfl rfl (hI.wf.r rfl) rfl rfl ?_
                  refine ev_loc f_X1_search (nx := 187) rfl rfl rfl rfl ?_
                  refine ev_loc f_X1_search (nx := 189) rfl rfl rfl rfl ?_
                  refine ev_cI f_X1_search (nx := 192) (r := []) rfl rfl rfl rfl rfl rfl rfl (c_canBegin hI 35 (t_Ln35 hI.wf) (ar4) (z208)) rfl hX rfl (fun w209 gi209 gl209 gr209 l209 u209 hI hX hC209 => ?_)
                  refine ev_if f_X1_search (t1 := 236) (t2 := 195) rfl rfl rfl (fun h210 => ?_) (fun h210 => ?_)
                  · have u211 : w209.toInt ≤ 0 := t_equ h210 (by decide : (0:Int32).toInt ≤ (0:Int))
                    exact ev_ret f_X1_search rfl rfl rfl ⟨_, _, _, rfl, hI, hX, rfl⟩
                  · have l212 : 1 ≤ w209.toInt := t_nel h210 l209 rfl rfl
                    refine ev_loc f_X1_search (nx := 196) rfl rfl rfl rfl ?_
                    refine ev_getR f_X1_search (nx := 199) rfl (hI.wf.s rfl) rfl rfl (hI.wf.r rfl) rfl rfl ?_
                    refine ev_loc f_X1_search (nx := 201) rfl rfl rfl rfl ?_
                    refine ev_loc f_X1_search (nx := 203) rfl rfl rfl rfl ?_
                    refine ev_cI f_X1_search (nx := 206) (r := []) rfl rfl rfl rfl rfl rfl rfl (c_waitsOf hI 35 (t_Ln35 hI.wf) (ar4) (z208)) rfl hX rfl (fun w213 gi213 gl213 gr213 l213 u213 hI hX hC213 => ?_)
                    refine ev_loc f_X1_search (nx := 208) (lo' := [(7, .int w213), (6, .int z208), (0, .ref 28), (1, .int ar1), (2, .int ar2), (3, .int ar3), (4, .int ar4), (5, .int ar5)]) rfl rfl rfl rfl ?_
                    refine ev_loc f_X1_search (nx := 209) rfl rfl rfl rfl ?_
                    refine ev_loc f_X1_search (nx := 211) rfl rfl rfl rfl ?_
                    refine ev_loc f_X1_search (nx := 212) rfl rfl rfl rfl ?_
                    refine ev_getR f_X1_search (nx := 215) rfl (hI.wf.s rfl) rfl rfl (hI.wf.r rfl) rfl rfl ?_
                    refine ev_getR f_X1_search (nx := 218) rfl (hI.wf.s rfl) rfl rfl (hI.wf.r rfl) rfl rfl ?_
                    refine ev_loc f_X1_search (nx := 220) rfl rfl rfl rfl ?_
                    refine ev_ialdT f_X1_search (nx := 221) rfl (hI.wf.s rfl) l_a4 (by decide) u139 (by decide) rfl (fun w214 e214 => ?_)
                    refine ev_anyI f_X1_search (nx := 222) rfl rfl rfl rfl (fun z215 => ?_)
                    refine ev_ic f_X1_search (nx := 223) (v := 0) rfl (by decide) rfl ?_
                    refine ev_loc f_X1_search (nx := 224) rfl rfl rfl rfl ?_
                    refine ev_loc f_X1_search (nx := 226) rfl rfl rfl rfl ?_
                    refine ev_ic f_X1_search (nx := 227) (v := 1) rfl (by decide) rfl ?_
                    refine ev_addC f_X1_search (nx := 228) (c := 1) (l := 1) (u := 6) rfl (by decide) l_a4 u139 rfl rfl (by decide) (by decide) rfl (fun z216 e216 l216 u216 => ?_)
                    refine ev_loc f_X1_search (nx := 230) rfl rfl rfl rfl ?_
                    refine ev_loc f_X1_search (nx := 232) rfl rfl rfl rfl ?_
                    refine ev_anyI f_X1_search (nx := 233) rfl rfl rfl rfl (fun z217 => ?_)
                    refine ev_c0 f_X1_search (nx := 236) (r := []) rfl rfl rfl rfl rfl rfl rfl (x_Me.up (ih hI (z215) (0) (by decide : (0:Int) ≤ (0:Int32).toInt) (Int.le_trans (by decide : (0:Int32).toInt ≤ (0:Int)) (by decide : (0:Int) ≤ 1)) (ar3) l_a3 (Int.le_trans u172 (by decide : (5:Int) ≤ 6)) (z216) (Int.le_trans (by decide : (0:Int) ≤ 1) l216) u216 (z217) (by omega)) (by omega)) rfl hX rfl (fun gi218 gl218 gr218 hI hX hC218 => ?_)
                    exact ev_ret f_X1_search rfl rfl rfl ⟨_, _, _, rfl, hI, hX, rfl⟩
            · have l219 : 1 ≤ ar2.toInt := t_nel h175 l_a2 rfl rfl
              refine ev_loc f_X1_search (nx := 76) rfl rfl rfl rfl ?_
              refine ev_jmp f_X1_search (nx := 84) rfl rfl rfl ?_
              refine ev_mmR f_X1_search (nx := 87) (l := (-2147483648)) (u := 2147483647) rfl rfl rfl (by omega) rfl (t_lo w174) (t_hi w174) (t_lo ar1) (t_hi ar1) (by decide) (by decide) rfl (fun z220 l220 u220 => ?_)
              refine ev_loc f_X1_search (nx := 89) (lo' := [(6, .int z220), (0, .ref 28), (1, .int ar1), (2, .int ar2), (3, .int ar3), (4, .int ar4), (5, .int ar5)]) rfl rfl rfl rfl ?_
              refine ev_loc f_X1_search (nx := 90) rfl rfl rfl rfl ?_
              refine ev_getR f_X1_search (nx := 93) rfl (hI.wf.s rfl) rfl rfl (hI.wf.r rfl) rfl rfl ?_
              refine ev_loc f_X1_search (nx := 94) rfl rfl rfl rfl ?_
              refine ev_loc f_X1_search (nx := 96) rfl rfl rfl rfl ?_
              refine ev_cI f_X1_search (nx := 99) (r := []) rfl rfl rfl rfl rfl rfl rfl (c_canBegin hI 29 (t_Ln29 hI.wf) (ar3) (z220)) rfl hX rfl (fun w221 gi221 gl221 gr221 l221 u221 hI hX hC221 => ?_)
              refine ev_if f_X1_search (t1 := 141) (t2 := 102) rfl rfl rfl (fun h222 => ?_) (fun h222 => ?_)
              · have u223 : w221.toInt ≤ 0 := t_equ h222 (by decide : (0:Int32).toInt ≤ (0:Int))
                refine ev_loc f_X1_search (nx := 143) rfl rfl rfl rfl ?_
                refine ev_loc f_X1_search (nx := 144) rfl rfl rfl rfl ?_
                refine ev_getR f_X1_search (nx := 147) rfl (hI.wf.s rfl) rfl rfl (hI.wf.r rfl) rfl rfl ?_
                refine ev_gvI f_X1_search (nx := 150) (w := (gi 35 0)) rfl (hI.wf.s rfl) rfl rfl ((hC221.1 35 0 rfl).1.trans rfl) rfl ?_
                refine ev_if f_X1_search (t1 := 236) (t2 := 153) rfl rfl rfl (fun h224 => ?_) (fun h224 => ?_)
                · have u225 : (gi 35 0).toInt ≤ 5 := t_leu h224 u139
                  have l226 : 1 ≤ ar4.toInt := t_lel h224 l140
                  exact ev_ret f_X1_search rfl rfl rfl ⟨_, _, _, rfl, hI, hX, rfl⟩
                · refine ev_loc f_X1_search (nx := 154) rfl rfl rfl rfl ?_
                  refine ev_getR f_X1_search (nx := 157) rfl (hI.wf.s rfl) rfl rfl (hI.wf.r rfl) rfl rfl ?_
                  refine ev_getR f_X1_search (nx := 160) rfl (hI.wf.s rfl) rfl rfl (hI.wf.r rfl) rfl rfl ?_
                  refine ev_loc f_X1_search (nx := 162) rfl rfl rfl rfl ?_
                  refine ev_ialdT f_X1_search (nx := 163) rfl (hI.wf.s rfl) l_a4 (by decide) u139 (by decide) rfl (fun w227 e227 => ?_)
                  refine ev_loc f_X1_search (nx := 164) rfl rfl rfl rfl ?_
                  refine ev_f f_X1_search (t1 := 175) (t2 := 167) rfl rfl rfl (t_neT' (by decide : (0:Int32).toInt ≤ (0:Int)) l219 (by decide)) ?_
                  refine ev_loc f_X1_search (nx := 168) rfl rfl rfl rfl ?_
                  refine ev_loc f_X1_search (nx := 169) rfl rfl rfl rfl ?_
                  refine ev_cI f_X1_search (nx := 172) (r := [.int w227]) rfl rfl rfl rfl rfl rfl rfl (c_turnEnd hI (ar1)) rfl hX rfl (fun w228 gi228 gl228 gr228 l228 u228 hI hX hC228 => ?_)
                  refine ev_jmp f_X1_search (nx := 176) rfl rfl rfl ?_
                  refine ev_mmR f_X1_search (nx := 179) (l := (-2147483648)) (u := 2147483647) rfl rfl rfl (by omega) rfl (t_lo w227) (t_hi w227) l228 u228 (by decide) (by decide) rfl (fun z229 l229 u229 => ?_)
                  refine ev_loc f_X1_search (nx := 181) (lo' := [(6, .int z229), (0, .ref 28), (1, .int ar1), (2, .int ar2), (3, .int ar3), (4, .int ar4), (5, .int ar5)]) rfl rfl rfl rfl ?_
                  refine ev_loc f_X1_search (nx := 182) rfl rfl rfl rfl ?_
                  refine ev_getR f_X1_search (nx := 185) rfl (hI.wf.s rfl) rfl rfl (hI.wf.r rfl) rfl rfl ?_
                  refine ev_loc f_X1_search (nx := 187) rfl rfl rfl rfl ?_
                  refine ev_loc f_X1_search (nx := 189) rfl rfl rfl rfl ?_
                  refine ev_cI f_X1_search (nx := 192) (r := []) rfl rfl rfl rfl rfl rfl rfl (c_canBegin hI 35 (t_Ln35 hI.wf) (ar4) (z229)) rfl hX rfl (fun w230 gi230 gl230 gr230 l230 u230 hI hX hC230 => ?_)
                  refine ev_if f_X1_search (t1 := 236) (t2 := 195) rfl rfl rfl (fun h231 => ?_) (fun h231 => ?_)
                  · have u232 : w230.toInt ≤ 0 := t_equ h231 (by decide : (0:Int32).toInt ≤ (0:Int))
                    exact ev_ret f_X1_search rfl rfl rfl ⟨_, _, _, rfl, hI, hX, rfl⟩
                  · have l233 : 1 ≤ w230.toInt := t_nel h231 l230 rfl rfl
                    refine ev_loc f_X1_search (nx := 196) rfl rfl rfl rfl ?_
                    refine ev_getR f_X1_search (nx := 199) rfl (hI.wf.s rfl) rfl rfl (hI.wf.r rfl) rfl rfl ?_
                    refine ev_loc f_X1_search (nx := 201) rfl rfl rfl rfl ?_
                    refine ev_loc f_X1_search (nx := 203) rfl rfl rfl rfl ?_
                    refine ev_cI f_X1_search (nx := 206) (r := []) rfl rfl rfl rfl rfl rfl rfl (c_waitsOf hI 35 (t_Ln35 hI.wf) (ar4) (z229)) rfl hX rfl (fun w234 gi234 gl234 gr234 l234 u234 hI hX hC234 => ?_)
                    refine ev_loc f_X1_search (nx := 208) (lo' := [(7, .int w234), (6, .int z229), (0, .ref 28), (1, .int ar1), (2, .int ar2), (3, .int ar3), (4, .int ar4), (5, .int ar5)]) rfl rfl rfl rfl ?_
                    refine ev_loc f_X1_search (nx := 209) rfl rfl rfl rfl ?_
                    refine ev_loc f_X1_search (nx := 211) rfl rfl rfl rfl ?_
                    refine ev_loc f_X1_search (nx := 212) rfl rfl rfl rfl ?_
                    refine ev_getR f_X1_search (nx := 215) rfl (hI.wf.s rfl) rfl rfl (hI.wf.r rfl) rfl rfl ?_
                    refine ev_getR f_X1_search (nx := 218) rfl (hI.wf.s rfl) rfl rfl (hI.wf.r rfl) rfl rfl ?_
                    refine ev_loc f_X1_search (nx := 220) rfl rfl rfl rfl ?_
                    refine ev_ialdT f_X1_search (nx := 221) rfl (hI.wf.s rfl) l_a4 (by decide) u139 (by decide) rfl (fun w235 e235 => ?_)
                    refine ev_anyI f_X1_search (nx := 222) rfl rfl rfl rfl (fun z236 => ?_)
                    refine ev_ic f_X1_search (nx := 223) (v := 0) rfl (by decide) rfl ?_
                    refine ev_loc f_X1_search (nx := 224) rfl rfl rfl rfl ?_
                    refine ev_loc f_X1_search (nx := 226) rfl rfl rfl rfl ?_
                    refine ev_ic f_X1_search (nx := 227) (v := 1) rfl (by decide) rfl ?_
                    refine ev_addC f_X1_search (nx := 228) (c := 1) (l := 1) (u := 6) rfl (by decide) l_a4 u139 rfl rfl (by decide) (by decide) rfl (fun z237 e237 l237 u237 => ?_)
                    refine ev_loc f_X1_search (nx := 230) rfl rfl rfl rfl ?_
                    refine ev_loc f_X1_search (nx := 232) rfl rfl rfl rfl ?_
                    refine ev_anyI f_X1_search (nx := 233) rfl rfl rfl rfl (fun z238 => ?_)
                    refine ev_c0 f_X1_search (nx := 236) (r := []) rfl rfl rfl rfl rfl rfl rfl (x_Me.up (ih hI (z236) (0) (by decide : (0:Int) ≤ (0:Int32).toInt) (Int.le_trans (by decide : (0:Int32).toInt ≤ (0:Int)) (by decide : (0:Int) ≤ 1)) (ar3) l_a3 (Int.le_trans u172 (by decide : (5:Int) ≤ 6)) (z237) (Int.le_trans (by decide : (0:Int) ≤ 1) l237) u237 (z238) (by omega)) (by omega)) rfl hX rfl (fun gi239 gl239 gr239 hI hX hC239 => ?_)
                    exact ev_ret f_X1_search rfl rfl rfl ⟨_, _, _, rfl, hI, hX, rfl⟩
              · have l240 : 1 ≤ w221.toInt := t_nel h222 l221 rfl rfl
                refine ev_loc f_X1_search (nx := 103) rfl rfl rfl rfl ?_
                refine ev_getR f_X1_search (nx := 106) rfl (hI.wf.s rfl) rfl rfl (hI.wf.r rfl) rfl rfl ?_
                refine ev_loc f_X1_search (nx := 107) rfl rfl rfl rfl ?_
                refine ev_loc f_X1_search (nx := 109) rfl rfl rfl rfl ?_
                refine ev_cI f_X1_search (nx := 112) (r := []) rfl rfl rfl rfl rfl rfl rfl (c_waitsOf hI 29 (t_Ln29 hI.wf) (ar3) (z220)) rfl hX rfl (fun w241 gi241 gl241 gr241 l241 u241 hI hX hC241 => ?_)
                refine ev_loc f_X1_search (nx := 114) (lo' := [(7, .int w241), (6, .int z220), (0, .ref 28), (1, .int ar1), (2, .int ar2), (3, .int ar3), (4, .int ar4), (5, .int ar5)]) rfl rfl rfl rfl ?_
                refine ev_loc f_X1_search (nx := 115) rfl rfl rfl rfl ?_
                refine ev_loc f_X1_search (nx := 117) rfl rfl rfl rfl ?_
                refine ev_loc f_X1_search (nx := 118) rfl rfl rfl rfl ?_
                refine ev_getR f_X1_search (nx := 121) rfl (hI.wf.s rfl) rfl rfl (hI.wf.r rfl) rfl rfl ?_
                refine ev_getR f_X1_search (nx := 124) rfl (hI.wf.s rfl) rfl rfl (hI.wf.r rfl) rfl rfl ?_
                refine ev_loc f_X1_search (nx := 125) rfl rfl rfl rfl ?_
                refine ev_ialdT f_X1_search (nx := 126) rfl (hI.wf.s rfl) l_a3 (by decide) u172 (by decide) rfl (fun w242 e242 => ?_)
                refine ev_anyI f_X1_search (nx := 127) rfl rfl rfl rfl (fun z243 => ?_)
                refine ev_ic f_X1_search (nx := 128) (v := 1) rfl (by decide) rfl ?_
                refine ev_loc f_X1_search (nx := 129) rfl rfl rfl rfl ?_
                refine ev_ic f_X1_search (nx := 130) (v := 1) rfl (by decide) rfl ?_
                refine ev_addC f_X1_search (nx := 131) (c := 1) (l := 1) (u := 6) rfl (by decide) l_a3 u172 rfl rfl (by decide) (by decide) rfl (fun z244 e244 l244 u244 => ?_)
                refine ev_loc f_X1_search (nx := 133) rfl rfl rfl rfl ?_
                refine ev_loc f_X1_search (nx := 135) rfl rfl rfl rfl ?_
                refine ev_loc f_X1_search (nx := 137) rfl rfl rfl rfl ?_
                refine ev_anyI f_X1_search (nx := 138) rfl rfl rfl rfl (fun z245 => ?_)
                refine ev_c0 f_X1_search (nx := 141) (r := []) rfl rfl rfl rfl rfl rfl rfl (x_Me.up (ih hI (z243) (1) (Int.le_trans (by decide : (0:Int) ≤ 1) (by decide : (1:Int) ≤ (1:Int32).toInt)) (by decide : (1:Int32).toInt ≤ (1:Int)) (z244) (Int.le_trans (by decide : (0:Int) ≤ 1) l244) u244 (ar4) l_a4 (Int.le_trans u139 (by decide : (5:Int) ≤ 6)) (z245) (by omega)) (by omega)) rfl hX rfl (fun gi246 gl246 gr246 hI hX hC246 => ?_)
                refine ev_loc f_X1_search (nx := 143) rfl rfl rfl rfl ?_
                refine ev_loc f_X1_search (nx := 144) rfl rfl rfl rfl ?_
                refine ev_getR f_X1_search (nx := 147) rfl (hI.wf.s rfl) rfl rfl (hI.wf.r rfl) rfl rfl ?_
                refine ev_gvI f_X1_search (nx := 150) (w := (gi 35 0)) rfl (hI.wf.s rfl) rfl rfl ((hC246.1 35 0 rfl).1.trans ((hC241.1 35 0 rfl).1.trans ((hC221.1 35 0 rfl).1.trans rfl))) rfl ?_
                refine ev_if f_X1_search (t1 := 236) (t2 := 153) rfl rfl rfl (fun h247 => ?_) (fun h247 => ?_)
                · have u248 : (gi 35 0).toInt ≤ 5 := t_leu h247 u139
                  have l249 : 1 ≤ ar4.toInt := t_lel h247 l140
                  exact ev_ret f_X1_search rfl rfl rfl ⟨_, _, _, rfl, hI, hX, rfl⟩
                · refine ev_loc f_X1_search (nx := 154) rfl rfl rfl rfl ?_
                  refine ev_getR f_X1_search (nx := 157) rfl (hI.wf.s rfl) rfl rfl (hI.wf.r rfl) rfl rfl ?_
                  refine ev_getR f_X1_search (nx := 160) rfl (hI.wf.s rfl) rfl rfl (hI.wf.r rfl) rfl rfl ?_
                  refine ev_loc f_X1_search (nx := 162) rfl rfl rfl rfl ?_
                  refine ev_ialdT f_X1_search (nx := 163) rfl (hI.wf.s rfl) l_a4 (by decide) u139 (by decide) rfl (fun w250 e250 => ?_)
                  refine ev_loc f_X1_search (nx := 164) rfl rfl rfl rfl ?_
                  refine ev_f f_X1_search (t1 := 175) (t2 := 167) rfl rfl rfl (t_neT' (by decide : (0:Int32).toInt ≤ (0:Int)) l219 (by decide)) ?_
                  refine ev_loc f_X1_search (nx := 168) rfl rfl rfl rfl ?_
                  refine ev_loc f_X1_search (nx := 169) rfl rfl rfl rfl ?_
                  refine ev_cI f_X1_search (nx := 172) (r := [.int w250]) rfl rfl rfl rfl rfl rfl rfl (c_turnEnd hI (ar1)) rfl hX rfl (fun w251 gi251 gl251 gr251 l251 u251 hI hX hC251 => ?_)
                  refine ev_jmp f_X1_search (nx := 176) rfl rfl rfl ?_
                  refine ev_mmR f_X1_search (nx := 179) (l := (-2147483648)) (u := 2147483647) rfl rfl rfl (by omega) rfl (t_lo w250) (t_hi w250) l251 u251 (by decide) (by decide) rfl (fun z252 l252 u252 => ?_)
                  refine ev_loc f_X1_search (nx := 181) (lo' := [(6, .int z252), (7, .int w241), (0, .ref 28), (1, .int ar1), (2, .int ar2), (3, .int ar3), (4, .int ar4), (5, .int ar5)]) rfl rfl rfl rfl ?_
                  refine ev_loc f_X1_search (nx := 182) rfl rfl rfl rfl ?_
                  refine ev_getR f_X1_search (nx := 185) rfl (hI.wf.s rfl) rfl rfl (hI.wf.r rfl) rfl rfl ?_
                  refine ev_loc f_X1_search (nx := 187) rfl rfl rfl rfl ?_
                  refine ev_loc f_X1_search (nx := 189) rfl rfl rfl rfl ?_
                  refine ev_cI f_X1_search (nx := 192) (r := []) rfl rfl rfl rfl rfl rfl rfl (c_canBegin hI 35 (t_Ln35 hI.wf) (ar4) (z252)) rfl hX rfl (fun w253 gi253 gl253 gr253 l253 u253 hI hX hC253 => ?_)
                  refine ev_if f_X1_search (t1 := 236) (t2 := 195) rfl rfl rfl (fun h254 => ?_) (fun h254 => ?_)
                  · have u255 : w253.toInt ≤ 0 := t_equ h254 (by decide : (0:Int32).toInt ≤ (0:Int))
                    exact ev_ret f_X1_search rfl rfl rfl ⟨_, _, _, rfl, hI, hX, rfl⟩
                  · have l256 : 1 ≤ w253.toInt := t_nel h254 l253 rfl rfl
                    refine ev_loc f_X1_search (nx := 196) rfl rfl rfl rfl ?_
                    refine ev_getR f_X1_search (nx := 199) rfl (hI.wf.s rfl) rfl rfl (hI.wf.r rfl) rfl rfl ?_
                    refine ev_loc f_X1_search (nx := 201) rfl rfl rfl rfl ?_
                    refine ev_loc f_X1_search (nx := 203) rfl rfl rfl rfl ?_
                    refine ev_cI f_X1_search (nx := 206) (r := []) rfl rfl rfl rfl rfl rfl rfl (c_waitsOf hI 35 (t_Ln35 hI.wf) (ar4) (z252)) rfl hX rfl (fun w257 gi257 gl257 gr257 l257 u257 hI hX hC257 => ?_)
                    refine ev_loc f_X1_search (nx := 208) (lo' := [(7, .int w257), (6, .int z252), (0, .ref 28), (1, .int ar1), (2, .int ar2), (3, .int ar3), (4, .int ar4), (5, .int ar5)]) rfl rfl rfl rfl ?_
                    refine ev_loc f_X1_search (nx := 209) rfl rfl rfl rfl ?_
                    refine ev_loc f_X1_search (nx := 211) rfl rfl rfl rfl ?_
                    refine ev_loc f_X1_search (nx := 212) rfl rfl rfl rfl ?_
                    refine ev_getR f_X1_search (nx := 215) rfl (hI.wf.s rfl) rfl rfl (hI.wf.r rfl) rfl rfl ?_
                    refine ev_getR f_X1_search (nx := 218) rfl (hI.wf.s rfl) rfl rfl (hI.wf.r rfl) rfl rfl ?_
                    refine ev_loc f_X1_search (nx := 220) rfl rfl rfl rfl ?_
                    refine ev_ialdT f_X1_search (nx := 221) rfl (hI.wf.s rfl) l_a4 (by decide) u139 (by decide) rfl (fun w258 e258 => ?_)
                    refine ev_anyI f_X1_search (nx := 222) rfl rfl rfl rfl (fun z259 => ?_)
                    refine ev_ic f_X1_search (nx := 223) (v := 0) rfl (by decide) rfl ?_
                    refine ev_loc f_X1_search (nx := 224) rfl rfl rfl rfl ?_
                    refine ev_loc f_X1_search (nx := 226) rfl rfl rfl rfl ?_
                    refine ev_ic f_X1_search (nx := 227) (v := 1) rfl (by decide) rfl ?_
                    refine ev_addC f_X1_search (nx := 228) (c := 1) (l := 1) (u := 6) rfl (by decide) l_a4 u139 rfl rfl (by decide) (by decide) rfl (fun z260 e260 l260 u260 => ?_)
                    refine ev_loc f_X1_search (nx := 230) rfl rfl rfl rfl ?_
                    refine ev_loc f_X1_search (nx := 232) rfl rfl rfl rfl ?_
                    refine ev_anyI f_X1_search (nx := 233) rfl rfl rfl rfl (fun z261 => ?_)
                    refine ev_c0 f_X1_search (nx := 236) (r := []) rfl rfl rfl rfl rfl rfl rfl (x_Me.up (ih hI (z259) (0) (by decide : (0:Int) ≤ (0:Int32).toInt) (Int.le_trans (by decide : (0:Int32).toInt ≤ (0:Int)) (by decide : (0:Int) ≤ 1)) (ar3) l_a3 (Int.le_trans u172 (by decide : (5:Int) ≤ 6)) (z260) (Int.le_trans (by decide : (0:Int) ≤ 1) l260) u260 (z261) (by omega)) (by omega)) rfl hX rfl (fun gi262 gl262 gr262 hI hX hC262 => ?_)
                    exact ev_ret f_X1_search rfl rfl rfl ⟨_, _, _, rfl, hI, hX, rfl⟩
        · refine ev_loc f_X1_search (nx := 45) rfl rfl rfl rfl ?_
          refine ev_loc f_X1_search (nx := 47) rfl rfl rfl rfl ?_
          refine ev_putIT f_X1_search (nx := 50) rfl (hI.wf.s rfl) rfl rfl rfl (hI.put0 (hI.wf.s rfl) rfl rfl) (hX.upI rfl) (fun g263 e263 hI hX => ?_)
          exact ev_ret f_X1_search rfl rfl rfl ⟨_, _, _, rfl, hI, hX, rfl⟩
    · have l264 : (-2147483647) ≤ (gi 28 5).toInt := t_lel (t_nlt h4) l3
      exact ev_ret f_X1_search rfl rfl rfl ⟨_, _, _, rfl, hI, hX, rfl⟩
theorem c_search {X : x_Ext} {d : Nat} {sh : List (Nat ⊕ (Nat × Nat))} {gi : Nat → Nat → Int32} {gl : Nat → Nat → Int64} {gr : Nat → Nat → Value} (hI : t_I sh gi gr) (ar1 : Int32) (ar2 : Int32) (l_a2 : 0 ≤ ar2.toInt) (u_a2 : ar2.toInt ≤ 1) (ar3 : Int32) (l_a3 : 0 ≤ ar3.toInt) (u_a3 : ar3.toInt ≤ 6) (ar4 : Int32) (l_a4 : 0 ≤ ar4.toInt) (u_a4 : ar4.toInt ≤ 6) (ar5 : Int32) : x_Me X (d + 16) n_X1_search [.ref 28, .int ar1, .int ar2, .int ar3, .int ar4, .int ar5] (sh, gi, gl, gr) (t_P wl_search sh gi gl gr t_Rn) := r_search 13 hI ar1 ar2 l_a2 u_a2 ar3 l_a3 u_a3 ar4 l_a4 u_a4 ar5 (by omega)
