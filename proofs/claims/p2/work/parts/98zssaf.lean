/-! ===== printed by riv.py: STATUS, the class ===== -/
noncomputable def wl_f_silent : List (Nat × Nat) := [(0, 0)]
noncomputable def Q_f_silent (gi : Nat → Nat → Int32) (gl : Nat → Nat → Int64) (gr : Nat → Nat → Value) : Int32 → (Nat → Nat → Int32) → (Nat → Nat → Int64) → (Nat → Nat → Value) → Prop := fun (v : Int32) (gi2 : Nat → Nat → Int32) (gl2 : Nat → Nat → Int64) (gr2 : Nat → Nat → Value) => (gi2 0 0).toInt = 0
theorem c_f_silent {X : x_Ext} {d : Nat} {sh : List (Nat ⊕ (Nat × Nat))} {gi : Nat → Nat → Int32} {gl : Nat → Nat → Int64} {gr : Nat → Nat → Value} (hI : t_I sh gi gr) : x_Me X (d + 3) n_X11_silent [.ref 0] (sh, gi, gl, gr) (t_PI wl_f_silent sh gi gl gr (-2147483648) 2147483647 (Q_f_silent gi gl gr)) := by
  have hX : t_X wl_f_silent sh gi gl gr gi gl gr := t_X.rf
  refine me_i f_X11_silent (hI.wf.s rfl) rfl rfl rfl ?_
  refine ev_lc f_X11_silent (nx := 1) (v := 0) rfl (by decide) rfl ?_
  refine ev_loc f_X11_silent (nx := 2) (lo' := [(1, .long 0), (0, .ref 0)]) rfl rfl rfl rfl ?_
  refine ev_ic f_X11_silent (nx := 3) (v := 0) rfl (by decide) rfl ?_
  refine ev_loc f_X11_silent (nx := 4) (lo' := [(3, .int 0), (1, .long 0), (0, .ref 0)]) rfl rfl rfl rfl ?_
  have L2 : ∀ (m2 : Nat) (gi2 : Nat → Nat → Int32) (gl2 : Nat → Nat → Int64) (gr2 : Nat → Nat → Value) (y2_3 : Int32) (y2_1 : Int64), t_I sh gi2 gr2 → t_X wl_f_silent sh gi gl gr gi2 gl2 gr2 → 0 ≤ y2_3.toInt → y2_3.toInt ≤ 6 → gi2 0 0 = (gi 0 0) → (6 - y2_3.toInt).toNat = m2 → x_Ev X (d + 3) n_X11_silent 4 [(3, .int y2_3), (1, .long y2_1), (0, .ref 0)] [] (sh, gi2, gl2, gr2) (t_PI wl_f_silent sh gi gl gr (-2147483648) 2147483647 (Q_f_silent gi gl gr)) := by
    intro m2
    induction m2 using Nat.strongRecOn with
    | _ m2 ih2 =>
    intro gi2 gl2 gr2 y2_3 y2_1 hI hX l2_3 u2_3 c2_0 hm2
    refine ev_loc f_X11_silent (nx := 5) rfl rfl rfl rfl ?_
    refine ev_loc f_X11_silent (nx := 6) rfl rfl rfl rfl ?_
    obtain ⟨a3, e3, p3⟩ := hI.2.2.2.1.1
    refine ev_getR f_X11_silent (nx := 9) rfl (hI.wf.s rfl) rfl rfl e3 rfl rfl ?_
    refine ev_getI f_X11_silent (nx := 12) rfl p3.1 rfl rfl rfl ?_
    obtain ⟨l4, u4⟩ := hI.b p3.1 (t_bdK rfl : t_bd 4 0 = some (0, 6))
    refine ev_if f_X11_silent (t1 := 32) (t2 := 15) rfl rfl rfl (fun h5 => ?_) (fun h5 => ?_)
    · have r6 : (gi2 a3 0).toInt ≤ y2_3.toInt := Int32.le_iff_toInt_le.mp h5
      refine ev_loc f_X11_silent (nx := 33) rfl rfl rfl rfl ?_
      refine ev_loc f_X11_silent (nx := 34) rfl rfl rfl rfl ?_
      refine ev_ldL f_X11_silent (nx := 37) (v := -1) rfl (by decide) rfl ?_
      refine ev_anyL f_X11_silent (nx := 38) rfl rfl rfl rfl (fun z7 => ?_)
      refine ev_inS1 f_X11_silent (nx := 41) (lo2 := [(0, .long z7)]) rfl rfl rfl rfl f_J13_numberOfTrailingZeros_95d88 rfl rfl rfl rfl ?_
      refine ev_loc f_J13_numberOfTrailingZeros_95d88 (nx := 1) rfl rfl rfl rfl ?_
      refine ev_anyI f_J13_numberOfTrailingZeros_95d88 (nx := 2) rfl rfl rfl rfl (fun z8 => ?_)
      refine ev_loc f_J13_numberOfTrailingZeros_95d88 (nx := 3) (lo' := [(2, .int z8), (0, .long z7)]) rfl rfl rfl rfl ?_
      refine ev_loc f_J13_numberOfTrailingZeros_95d88 (nx := 4) rfl rfl rfl rfl ?_
      refine ev_if f_J13_numberOfTrailingZeros_95d88 (t1 := 7) (t2 := 21) rfl rfl rfl (fun h9 => ?_) (fun h9 => ?_)
      · have u10 : z8.toInt ≤ 0 := t_equ h9 (by decide : (0:Int32).toInt ≤ (0:Int))
        have l11 : 0 ≤ z8.toInt := t_eql h9 (by decide : (0:Int) ≤ (0:Int32).toInt)
        refine ev_bp f_J13_numberOfTrailingZeros_95d88 (nx := 9) (v := 32) rfl (by decide) rfl ?_
        refine ev_loc f_J13_numberOfTrailingZeros_95d88 (nx := 10) rfl rfl rfl rfl ?_
        refine ev_bp f_J13_numberOfTrailingZeros_95d88 (nx := 12) (v := 32) rfl (by decide) rfl ?_
        refine ev_anyL f_J13_numberOfTrailingZeros_95d88 (nx := 13) rfl rfl rfl rfl (fun z12 => ?_)
        refine ev_anyI f_J13_numberOfTrailingZeros_95d88 (nx := 14) rfl rfl rfl rfl (fun z13 => ?_)
        refine ev_inS1 f_J13_numberOfTrailingZeros_95d88 (nx := 17) (lo2 := [(0, .int z13)]) rfl rfl rfl rfl f_J6_numberOfTrailingZeros_0f7a4 rfl rfl rfl rfl ?_
        refine ev_loc f_J6_numberOfTrailingZeros_0f7a4 (nx := 1) rfl rfl rfl rfl ?_
        refine ev_ic f_J6_numberOfTrailingZeros_0f7a4 (nx := 2) (v := -1) rfl (by decide) rfl ?_
        refine ev_anyI f_J6_numberOfTrailingZeros_0f7a4 (nx := 3) rfl rfl rfl rfl (fun z14 => ?_)
        refine ev_loc f_J6_numberOfTrailingZeros_0f7a4 (nx := 4) rfl rfl rfl rfl ?_
        refine ev_ic f_J6_numberOfTrailingZeros_0f7a4 (nx := 5) (v := 1) rfl (by decide) rfl ?_
        refine ev_anyI f_J6_numberOfTrailingZeros_0f7a4 (nx := 6) rfl rfl rfl rfl (fun z15 => ?_)
        refine ev_anyI f_J6_numberOfTrailingZeros_0f7a4 (nx := 7) rfl rfl rfl rfl (fun z16 => ?_)
        refine ev_loc f_J6_numberOfTrailingZeros_0f7a4 (nx := 8) (lo' := [(0, .int z16)]) rfl rfl rfl rfl ?_
        refine ev_loc f_J6_numberOfTrailingZeros_0f7a4 (nx := 9) rfl rfl rfl rfl ?_
        refine ev_if f_J6_numberOfTrailingZeros_0f7a4 (t1 := 17) (t2 := 12) rfl rfl rfl (fun h17 => ?_) (fun h17 => ?_)
        · have l18 : 1 ≤ z16.toInt := t_ltl h17 (by decide : (0:Int) ≤ (0:Int32).toInt) rfl
          refine ev_ic f_J6_numberOfTrailingZeros_0f7a4 (nx := 18) (v := 1) rfl (by decide) rfl ?_
          refine ev_loc f_J6_numberOfTrailingZeros_0f7a4 (nx := 19) (lo' := [(1, .int 1), (0, .int z16)]) rfl rfl rfl rfl ?_
          refine ev_loc f_J6_numberOfTrailingZeros_0f7a4 (nx := 20) rfl rfl rfl rfl ?_
          refine ev_ldW f_J6_numberOfTrailingZeros_0f7a4 (nx := 23) (v := 65536) rfl (by decide) rfl ?_
          refine ev_if f_J6_numberOfTrailingZeros_0f7a4 (t1 := 34) (t2 := 26) rfl rfl rfl (fun h19 => ?_) (fun h19 => ?_)
          · have u20 : z16.toInt ≤ 65536 := t_leu h19 (by decide : (65536:Int32).toInt ≤ (65536:Int))
            refine ev_loc f_J6_numberOfTrailingZeros_0f7a4 (nx := 35) rfl rfl rfl rfl ?_
            refine ev_sp f_J6_numberOfTrailingZeros_0f7a4 (nx := 38) (v := 256) rfl (by decide) rfl ?_
            refine ev_if f_J6_numberOfTrailingZeros_0f7a4 (t1 := 49) (t2 := 41) rfl rfl rfl (fun h21 => ?_) (fun h21 => ?_)
            · have u22 : z16.toInt ≤ 256 := t_leu h21 (by decide : (256:Int32).toInt ≤ (256:Int))
              refine ev_loc f_J6_numberOfTrailingZeros_0f7a4 (nx := 50) rfl rfl rfl rfl ?_
              refine ev_bp f_J6_numberOfTrailingZeros_0f7a4 (nx := 52) (v := 16) rfl (by decide) rfl ?_
              refine ev_if f_J6_numberOfTrailingZeros_0f7a4 (t1 := 62) (t2 := 55) rfl rfl rfl (fun h23 => ?_) (fun h23 => ?_)
              · have u24 : z16.toInt ≤ 16 := t_leu h23 (by decide : (16:Int32).toInt ≤ (16:Int))
                refine ev_loc f_J6_numberOfTrailingZeros_0f7a4 (nx := 63) rfl rfl rfl rfl ?_
                refine ev_ic f_J6_numberOfTrailingZeros_0f7a4 (nx := 64) (v := 4) rfl (by decide) rfl ?_
                refine ev_if f_J6_numberOfTrailingZeros_0f7a4 (t1 := 74) (t2 := 67) rfl rfl rfl (fun h25 => ?_) (fun h25 => ?_)
                · have u26 : z16.toInt ≤ 4 := t_leu h25 (by decide : (4:Int32).toInt ≤ (4:Int))
                  refine ev_loc f_J6_numberOfTrailingZeros_0f7a4 (nx := 75) rfl rfl rfl rfl ?_
                  refine ev_loc f_J6_numberOfTrailingZeros_0f7a4 (nx := 76) rfl rfl rfl rfl ?_
                  refine ev_ic f_J6_numberOfTrailingZeros_0f7a4 (nx := 77) (v := 1) rfl (by decide) rfl ?_
                  refine ev_anyI f_J6_numberOfTrailingZeros_0f7a4 (nx := 78) rfl rfl rfl rfl (fun z27 => ?_)
                  refine ev_anyI f_J6_numberOfTrailingZeros_0f7a4 (nx := 79) rfl rfl rfl rfl (fun z28 => ?_)
                  refine ev_retK1 f_J6_numberOfTrailingZeros_0f7a4 rfl rfl rfl ?_
                  refine ev_anyI f_J13_numberOfTrailingZeros_95d88 (nx := 18) rfl rfl rfl rfl (fun z29 => ?_)
                  refine ev_jmp f_J13_numberOfTrailingZeros_95d88 (nx := 25) rfl rfl rfl ?_
                  refine ev_retK1 f_J13_numberOfTrailingZeros_95d88 rfl rfl rfl ?_
                  refine ev_inV2 f_X11_silent (nx := 44) (lo2 := [(0, .ref 0), (1, .int z29)]) rfl rfl rfl rfl f_X11_answer (hI.wf.s rfl) rfl rfl rfl rfl rfl ?_
                  refine ev_loc f_X11_answer (nx := 1) rfl rfl rfl rfl ?_
                  refine ev_ic f_X11_answer (nx := 2) (v := 0) rfl (by decide) rfl ?_
                  refine ev_putIT f_X11_answer (nx := 5) rfl (hI.wf.s rfl) rfl rfl rfl (hI.put0 (hI.wf.s rfl) rfl rfl) (hX.upI rfl) (fun g30 e30 hI hX => ?_)
                  refine ev_loc f_X11_answer (nx := 6) rfl rfl rfl rfl ?_
                  refine ev_retK1 f_X11_answer rfl rfl rfl ?_
                  exact ev_ret f_X11_silent rfl rfl rfl ⟨_, _, _, rfl, hI, hX, ⟨_, rfl, (t_lo z29), (t_hi z29), (show (g30 0 0).toInt = 0 from (by have ffs : (g30 0 0).toInt = 0 := (congrArg Int32.toInt (by rw [e30]; exact x_up2_at _ _ _ _ : g30 0 0 = 0)).trans (by decide); omega))⟩⟩
                · have l31 : 5 ≤ z16.toInt := t_ltl (t_nle h25) (by decide : (4:Int) ≤ (4:Int32).toInt) rfl
                  refine ev_incv f_J6_numberOfTrailingZeros_0f7a4 (nx := 70) (c := 2) (w := 3) (lo' := [(1, .int 3), (0, .int z16)]) rfl rfl (by decide) (by decide) rfl rfl rfl ?_
                  refine ev_loc f_J6_numberOfTrailingZeros_0f7a4 (nx := 71) rfl rfl rfl rfl ?_
                  refine ev_ic f_J6_numberOfTrailingZeros_0f7a4 (nx := 72) (v := 2) rfl (by decide) rfl ?_
                  refine ev_anyI f_J6_numberOfTrailingZeros_0f7a4 (nx := 73) rfl rfl rfl rfl (fun z32 => ?_)
                  refine ev_loc f_J6_numberOfTrailingZeros_0f7a4 (nx := 74) (lo' := [(0, .int z32), (1, .int 3)]) rfl rfl rfl rfl ?_
                  refine ev_loc f_J6_numberOfTrailingZeros_0f7a4 (nx := 75) rfl rfl rfl rfl ?_
                  refine ev_loc f_J6_numberOfTrailingZeros_0f7a4 (nx := 76) rfl rfl rfl rfl ?_
                  refine ev_ic f_J6_numberOfTrailingZeros_0f7a4 (nx := 77) (v := 1) rfl (by decide) rfl ?_
                  refine ev_anyI f_J6_numberOfTrailingZeros_0f7a4 (nx := 78) rfl rfl rfl rfl (fun z33 => ?_)
                  refine ev_anyI f_J6_numberOfTrailingZeros_0f7a4 (nx := 79) rfl rfl rfl rfl (fun z34 => ?_)
                  refine ev_retK1 f_J6_numberOfTrailingZeros_0f7a4 rfl rfl rfl ?_
                  refine ev_anyI f_J13_numberOfTrailingZeros_95d88 (nx := 18) rfl rfl rfl rfl (fun z35 => ?_)
                  refine ev_jmp f_J13_numberOfTrailingZeros_95d88 (nx := 25) rfl rfl rfl ?_
                  refine ev_retK1 f_J13_numberOfTrailingZeros_95d88 rfl rfl rfl ?_
                  refine ev_inV2 f_X11_silent (nx := 44) (lo2 := [(0, .ref 0), (1, .int z35)]) rfl rfl rfl rfl f_X11_answer (hI.wf.s rfl) rfl rfl rfl rfl rfl ?_
                  refine ev_loc f_X11_answer (nx := 1) rfl rfl rfl rfl ?_
                  refine ev_ic f_X11_answer (nx := 2) (v := 0) rfl (by decide) rfl ?_
                  refine ev_putIT f_X11_answer (nx := 5) rfl (hI.wf.s rfl) rfl rfl rfl (hI.put0 (hI.wf.s rfl) rfl rfl) (hX.upI rfl) (fun g36 e36 hI hX => ?_)
                  refine ev_loc f_X11_answer (nx := 6) rfl rfl rfl rfl ?_
                  refine ev_retK1 f_X11_answer rfl rfl rfl ?_
                  exact ev_ret f_X11_silent rfl rfl rfl ⟨_, _, _, rfl, hI, hX, ⟨_, rfl, (t_lo z35), (t_hi z35), (show (g36 0 0).toInt = 0 from (by have ffs : (g36 0 0).toInt = 0 := (congrArg Int32.toInt (by rw [e36]; exact x_up2_at _ _ _ _ : g36 0 0 = 0)).trans (by decide); omega))⟩⟩
              · have l37 : 17 ≤ z16.toInt := t_ltl (t_nle h23) (by decide : (16:Int) ≤ (16:Int32).toInt) rfl
                refine ev_incv f_J6_numberOfTrailingZeros_0f7a4 (nx := 58) (c := 4) (w := 5) (lo' := [(1, .int 5), (0, .int z16)]) rfl rfl (by decide) (by decide) rfl rfl rfl ?_
                refine ev_loc f_J6_numberOfTrailingZeros_0f7a4 (nx := 59) rfl rfl rfl rfl ?_
                refine ev_ic f_J6_numberOfTrailingZeros_0f7a4 (nx := 60) (v := 4) rfl (by decide) rfl ?_
                refine ev_anyI f_J6_numberOfTrailingZeros_0f7a4 (nx := 61) rfl rfl rfl rfl (fun z38 => ?_)
                refine ev_loc f_J6_numberOfTrailingZeros_0f7a4 (nx := 62) (lo' := [(0, .int z38), (1, .int 5)]) rfl rfl rfl rfl ?_
                refine ev_loc f_J6_numberOfTrailingZeros_0f7a4 (nx := 63) rfl rfl rfl rfl ?_
                refine ev_ic f_J6_numberOfTrailingZeros_0f7a4 (nx := 64) (v := 4) rfl (by decide) rfl ?_
                refine ev_if f_J6_numberOfTrailingZeros_0f7a4 (t1 := 74) (t2 := 67) rfl rfl rfl (fun h39 => ?_) (fun h39 => ?_)
                · have u40 : z38.toInt ≤ 4 := t_leu h39 (by decide : (4:Int32).toInt ≤ (4:Int))
                  refine ev_loc f_J6_numberOfTrailingZeros_0f7a4 (nx := 75) rfl rfl rfl rfl ?_
                  refine ev_loc f_J6_numberOfTrailingZeros_0f7a4 (nx := 76) rfl rfl rfl rfl ?_
                  refine ev_ic f_J6_numberOfTrailingZeros_0f7a4 (nx := 77) (v := 1) rfl (by decide) rfl ?_
                  refine ev_anyI f_J6_numberOfTrailingZeros_0f7a4 (nx := 78) rfl rfl rfl rfl (fun z41 => ?_)
                  refine ev_anyI f_J6_numberOfTrailingZeros_0f7a4 (nx := 79) rfl rfl rfl rfl (fun z42 => ?_)
                  refine ev_retK1 f_J6_numberOfTrailingZeros_0f7a4 rfl rfl rfl ?_
                  refine ev_anyI f_J13_numberOfTrailingZeros_95d88 (nx := 18) rfl rfl rfl rfl (fun z43 => ?_)
                  refine ev_jmp f_J13_numberOfTrailingZeros_95d88 (nx := 25) rfl rfl rfl ?_
                  refine ev_retK1 f_J13_numberOfTrailingZeros_95d88 rfl rfl rfl ?_
                  refine ev_inV2 f_X11_silent (nx := 44) (lo2 := [(0, .ref 0), (1, .int z43)]) rfl rfl rfl rfl f_X11_answer (hI.wf.s rfl) rfl rfl rfl rfl rfl ?_
                  refine ev_loc f_X11_answer (nx := 1) rfl rfl rfl rfl ?_
                  refine ev_ic f_X11_answer (nx := 2) (v := 0) rfl (by decide) rfl ?_
                  refine ev_putIT f_X11_answer (nx := 5) rfl (hI.wf.s rfl) rfl rfl rfl (hI.put0 (hI.wf.s rfl) rfl rfl) (hX.upI rfl) (fun g44 e44 hI hX => ?_)
                  refine ev_loc f_X11_answer (nx := 6) rfl rfl rfl rfl ?_
                  refine ev_retK1 f_X11_answer rfl rfl rfl ?_
                  exact ev_ret f_X11_silent rfl rfl rfl ⟨_, _, _, rfl, hI, hX, ⟨_, rfl, (t_lo z43), (t_hi z43), (show (g44 0 0).toInt = 0 from (by have ffs : (g44 0 0).toInt = 0 := (congrArg Int32.toInt (by rw [e44]; exact x_up2_at _ _ _ _ : g44 0 0 = 0)).trans (by decide); omega))⟩⟩
                · have l45 : 5 ≤ z38.toInt := t_ltl (t_nle h39) (by decide : (4:Int) ≤ (4:Int32).toInt) rfl
                  refine ev_incv f_J6_numberOfTrailingZeros_0f7a4 (nx := 70) (c := 2) (w := 7) (lo' := [(1, .int 7), (0, .int z38)]) rfl rfl (by decide) (by decide) rfl rfl rfl ?_
                  refine ev_loc f_J6_numberOfTrailingZeros_0f7a4 (nx := 71) rfl rfl rfl rfl ?_
                  refine ev_ic f_J6_numberOfTrailingZeros_0f7a4 (nx := 72) (v := 2) rfl (by decide) rfl ?_
                  refine ev_anyI f_J6_numberOfTrailingZeros_0f7a4 (nx := 73) rfl rfl rfl rfl (fun z46 => ?_)
                  refine ev_loc f_J6_numberOfTrailingZeros_0f7a4 (nx := 74) (lo' := [(0, .int z46), (1, .int 7)]) rfl rfl rfl rfl ?_
                  refine ev_loc f_J6_numberOfTrailingZeros_0f7a4 (nx := 75) rfl rfl rfl rfl ?_
                  refine ev_loc f_J6_numberOfTrailingZeros_0f7a4 (nx := 76) rfl rfl rfl rfl ?_
                  refine ev_ic f_J6_numberOfTrailingZeros_0f7a4 (nx := 77) (v := 1) rfl (by decide) rfl ?_
                  refine ev_anyI f_J6_numberOfTrailingZeros_0f7a4 (nx := 78) rfl rfl rfl rfl (fun z47 => ?_)
                  refine ev_anyI f_J6_numberOfTrailingZeros_0f7a4 (nx := 79) rfl rfl rfl rfl (fun z48 => ?_)
                  refine ev_retK1 f_J6_numberOfTrailingZeros_0f7a4 rfl rfl rfl ?_
                  refine ev_anyI f_J13_numberOfTrailingZeros_95d88 (nx := 18) rfl rfl rfl rfl (fun z49 => ?_)
                  refine ev_jmp f_J13_numberOfTrailingZeros_95d88 (nx := 25) rfl rfl rfl ?_
                  refine ev_retK1 f_J13_numberOfTrailingZeros_95d88 rfl rfl rfl ?_
                  refine ev_inV2 f_X11_silent (nx := 44) (lo2 := [(0, .ref 0), (1, .int z49)]) rfl rfl rfl rfl f_X11_answer (hI.wf.s rfl) rfl rfl rfl rfl rfl ?_
                  refine ev_loc f_X11_answer (nx := 1) rfl rfl rfl rfl ?_
                  refine ev_ic f_X11_answer (nx := 2) (v := 0) rfl (by decide) rfl ?_
                  refine ev_putIT f_X11_answer (nx := 5) rfl (hI.wf.s rfl) rfl rfl rfl (hI.put0 (hI.wf.s rfl) rfl rfl) (hX.upI rfl) (fun g50 e50 hI hX => ?_)
                  refine ev_loc f_X11_answer (nx := 6) rfl rfl rfl rfl ?_
                  refine ev_retK1 f_X11_answer rfl rfl rfl ?_
                  exact ev_ret f_X11_silent rfl rfl rfl ⟨_, _, _, rfl, hI, hX, ⟨_, rfl, (t_lo z49), (t_hi z49), (show (g50 0 0).toInt = 0 from (by have ffs : (g50 0 0).toInt = 0 := (congrArg Int32.toInt (by rw [e50]; exact x_up2_at _ _ _ _ : g50 0 0 = 0)).trans (by decide); omega))⟩⟩
            · have l51 : 257 ≤ z16.toInt := t_ltl (t_nle h21) (by decide : (256:Int) ≤ (256:Int32).toInt) rfl
              refine ev_incv f_J6_numberOfTrailingZeros_0f7a4 (nx := 44) (c := 8) (w := 9) (lo' := [(1, .int 9), (0, .int z16)]) rfl rfl (by decide) (by decide) rfl rfl rfl ?_
              refine ev_loc f_J6_numberOfTrailingZeros_0f7a4 (nx := 45) rfl rfl rfl rfl ?_
              refine ev_bp f_J6_numberOfTrailingZeros_0f7a4 (nx := 47) (v := 8) rfl (by decide) rfl ?_
              refine ev_anyI f_J6_numberOfTrailingZeros_0f7a4 (nx := 48) rfl rfl rfl rfl (fun z52 => ?_)
              refine ev_loc f_J6_numberOfTrailingZeros_0f7a4 (nx := 49) (lo' := [(0, .int z52), (1, .int 9)]) rfl rfl rfl rfl ?_
              refine ev_loc f_J6_numberOfTrailingZeros_0f7a4 (nx := 50) rfl rfl rfl rfl ?_
              refine ev_bp f_J6_numberOfTrailingZeros_0f7a4 (nx := 52) (v := 16) rfl (by decide) rfl ?_
              refine ev_if f_J6_numberOfTrailingZeros_0f7a4 (t1 := 62) (t2 := 55) rfl rfl rfl (fun h53 => ?_) (fun h53 => ?_)
              · have u54 : z52.toInt ≤ 16 := t_leu h53 (by decide : (16:Int32).toInt ≤ (16:Int))
                refine ev_loc f_J6_numberOfTrailingZeros_0f7a4 (nx := 63) rfl rfl rfl rfl ?_
                refine ev_ic f_J6_numberOfTrailingZeros_0f7a4 (nx := 64) (v := 4) rfl (by decide) rfl ?_
                refine ev_if f_J6_numberOfTrailingZeros_0f7a4 (t1 := 74) (t2 := 67) rfl rfl rfl (fun h55 => ?_) (fun h55 => ?_)
                · have u56 : z52.toInt ≤ 4 := t_leu h55 (by decide : (4:Int32).toInt ≤ (4:Int))
                  refine ev_loc f_J6_numberOfTrailingZeros_0f7a4 (nx := 75) rfl rfl rfl rfl ?_
                  refine ev_loc f_J6_numberOfTrailingZeros_0f7a4 (nx := 76) rfl rfl rfl rfl ?_
                  refine ev_ic f_J6_numberOfTrailingZeros_0f7a4 (nx := 77) (v := 1) rfl (by decide) rfl ?_
                  refine ev_anyI f_J6_numberOfTrailingZeros_0f7a4 (nx := 78) rfl rfl rfl rfl (fun z57 => ?_)
                  refine ev_anyI f_J6_numberOfTrailingZeros_0f7a4 (nx := 79) rfl rfl rfl rfl (fun z58 => ?_)
                  refine ev_retK1 f_J6_numberOfTrailingZeros_0f7a4 rfl rfl rfl ?_
                  refine ev_anyI f_J13_numberOfTrailingZeros_95d88 (nx := 18) rfl rfl rfl rfl (fun z59 => ?_)
                  refine ev_jmp f_J13_numberOfTrailingZeros_95d88 (nx := 25) rfl rfl rfl ?_
                  refine ev_retK1 f_J13_numberOfTrailingZeros_95d88 rfl rfl rfl ?_
                  refine ev_inV2 f_X11_silent (nx := 44) (lo2 := [(0, .ref 0), (1, .int z59)]) rfl rfl rfl rfl f_X11_answer (hI.wf.s rfl) rfl rfl rfl rfl rfl ?_
                  refine ev_loc f_X11_answer (nx := 1) rfl rfl rfl rfl ?_
                  refine ev_ic f_X11_answer (nx := 2) (v := 0) rfl (by decide) rfl ?_
                  refine ev_putIT f_X11_answer (nx := 5) rfl (hI.wf.s rfl) rfl rfl rfl (hI.put0 (hI.wf.s rfl) rfl rfl) (hX.upI rfl) (fun g60 e60 hI hX => ?_)
                  refine ev_loc f_X11_answer (nx := 6) rfl rfl rfl rfl ?_
                  refine ev_retK1 f_X11_answer rfl rfl rfl ?_
                  exact ev_ret f_X11_silent rfl rfl rfl ⟨_, _, _, rfl, hI, hX, ⟨_, rfl, (t_lo z59), (t_hi z59), (show (g60 0 0).toInt = 0 from (by have ffs : (g60 0 0).toInt = 0 := (congrArg Int32.toInt (by rw [e60]; exact x_up2_at _ _ _ _ : g60 0 0 = 0)).trans (by decide); omega))⟩⟩
                · have l61 : 5 ≤ z52.toInt := t_ltl (t_nle h55) (by decide : (4:Int) ≤ (4:Int32).toInt) rfl
                  refine ev_incv f_J6_numberOfTrailingZeros_0f7a4 (nx := 70) (c := 2) (w := 11) (lo' := [(1, .int 11), (0, .int z52)]) rfl rfl (by decide) (by decide) rfl rfl rfl ?_
                  refine ev_loc f_J6_numberOfTrailingZeros_0f7a4 (nx := 71) rfl rfl rfl rfl ?_
                  refine ev_ic f_J6_numberOfTrailingZeros_0f7a4 (nx := 72) (v := 2) rfl (by decide) rfl ?_
                  refine ev_anyI f_J6_numberOfTrailingZeros_0f7a4 (nx := 73) rfl rfl rfl rfl (fun z62 => ?_)
                  refine ev_loc f_J6_numberOfTrailingZeros_0f7a4 (nx := 74) (lo' := [(0, .int z62), (1, .int 11)]) rfl rfl rfl rfl ?_
                  refine ev_loc f_J6_numberOfTrailingZeros_0f7a4 (nx := 75) rfl rfl rfl rfl ?_
                  refine ev_loc f_J6_numberOfTrailingZeros_0f7a4 (nx := 76) rfl rfl rfl rfl ?_
                  refine ev_ic f_J6_numberOfTrailingZeros_0f7a4 (nx := 77) (v := 1) rfl (by decide) rfl ?_
                  refine ev_anyI f_J6_numberOfTrailingZeros_0f7a4 (nx := 78) rfl rfl rfl rfl (fun z63 => ?_)
                  refine ev_anyI f_J6_numberOfTrailingZeros_0f7a4 (nx := 79) rfl rfl rfl rfl (fun z64 => ?_)
                  refine ev_retK1 f_J6_numberOfTrailingZeros_0f7a4 rfl rfl rfl ?_
                  refine ev_anyI f_J13_numberOfTrailingZeros_95d88 (nx := 18) rfl rfl rfl rfl (fun z65 => ?_)
                  refine ev_jmp f_J13_numberOfTrailingZeros_95d88 (nx := 25) rfl rfl rfl ?_
                  refine ev_retK1 f_J13_numberOfTrailingZeros_95d88 rfl rfl rfl ?_
                  refine ev_inV2 f_X11_silent (nx := 44) (lo2 := [(0, .ref 0), (1, .int z65)]) rfl rfl rfl rfl f_X11_answer (hI.wf.s rfl) rfl rfl rfl rfl rfl ?_
                  refine ev_loc f_X11_answer (nx := 1) rfl rfl rfl rfl ?_
                  refine ev_ic f_X11_answer (nx := 2) (v := 0) rfl (by decide) rfl ?_
                  refine ev_putIT f_X11_answer (nx := 5) rfl (hI.wf.s rfl) rfl rfl rfl (hI.put0 (hI.wf.s rfl) rfl rfl) (hX.upI rfl) (fun g66 e66 hI hX => ?_)
                  refine ev_loc f_X11_answer (nx := 6) rfl rfl rfl rfl ?_
                  refine ev_retK1 f_X11_answer rfl rfl rfl ?_
                  exact ev_ret f_X11_silent rfl rfl rfl ⟨_, _, _, rfl, hI, hX, ⟨_, rfl, (t_lo z65), (t_hi z65), (show (g66 0 0).toInt = 0 from (by have ffs : (g66 0 0).toInt = 0 := (congrArg Int32.toInt (by rw [e66]; exact x_up2_at _ _ _ _ : g66 0 0 = 0)).trans (by decide); omega))⟩⟩
              · have l67 : 17 ≤ z52.toInt := t_ltl (t_nle h53) (by decide : (16:Int) ≤ (16:Int32).toInt) rfl
                refine ev_incv f_J6_numberOfTrailingZeros_0f7a4 (nx := 58) (c := 4) (w := 13) (lo' := [(1, .int 13), (0, .int z52)]) rfl rfl (by decide) (by decide) rfl rfl rfl ?_
                refine ev_loc f_J6_numberOfTrailingZeros_0f7a4 (nx := 59) rfl rfl rfl rfl ?_
                refine ev_ic f_J6_numberOfTrailingZeros_0f7a4 (nx := 60) (v := 4) rfl (by decide) rfl ?_
                refine ev_anyI f_J6_numberOfTrailingZeros_0f7a4 (nx := 61) rfl rfl rfl rfl (fun z68 => ?_)
                refine ev_loc f_J6_numberOfTrailingZeros_0f7a4 (nx := 62) (lo' := [(0, .int z68), (1, .int 13)]) rfl rfl rfl rfl ?_
                refine ev_loc f_J6_numberOfTrailingZeros_0f7a4 (nx := 63) rfl rfl rfl rfl ?_
                refine ev_ic f_J6_numberOfTrailingZeros_0f7a4 (nx := 64) (v := 4) rfl (by decide) rfl ?_
                refine ev_if f_J6_numberOfTrailingZeros_0f7a4 (t1 := 74) (t2 := 67) rfl rfl rfl (fun h69 => ?_) (fun h69 => ?_)
                · have u70 : z68.toInt ≤ 4 := t_leu h69 (by decide : (4:Int32).toInt ≤ (4:Int))
                  refine ev_loc f_J6_numberOfTrailingZeros_0f7a4 (nx := 75) rfl rfl rfl rfl ?_
                  refine ev_loc f_J6_numberOfTrailingZeros_0f7a4 (nx := 76) rfl rfl rfl rfl ?_
                  refine ev_ic f_J6_numberOfTrailingZeros_0f7a4 (nx := 77) (v := 1) rfl (by decide) rfl ?_
                  refine ev_anyI f_J6_numberOfTrailingZeros_0f7a4 (nx := 78) rfl rfl rfl rfl (fun z71 => ?_)
                  refine ev_anyI f_J6_numberOfTrailingZeros_0f7a4 (nx := 79) rfl rfl rfl rfl (fun z72 => ?_)
                  refine ev_retK1 f_J6_numberOfTrailingZeros_0f7a4 rfl rfl rfl ?_
                  refine ev_anyI f_J13_numberOfTrailingZeros_95d88 (nx := 18) rfl rfl rfl rfl (fun z73 => ?_)
                  refine ev_jmp f_J13_numberOfTrailingZeros_95d88 (nx := 25) rfl rfl rfl ?_
                  refine ev_retK1 f_J13_numberOfTrailingZeros_95d88 rfl rfl rfl ?_
                  refine ev_inV2 f_X11_silent (nx := 44) (lo2 := [(0, .ref 0), (1, .int z73)]) rfl rfl rfl rfl f_X11_answer (hI.wf.s rfl) rfl rfl rfl rfl rfl ?_
                  refine ev_loc f_X11_answer (nx := 1) rfl rfl rfl rfl ?_
                  refine ev_ic f_X11_answer (nx := 2) (v := 0) rfl (by decide) rfl ?_
                  refine ev_putIT f_X11_answer (nx := 5) rfl (hI.wf.s rfl) rfl rfl rfl (hI.put0 (hI.wf.s rfl) rfl rfl) (hX.upI rfl) (fun g74 e74 hI hX => ?_)
                  refine ev_loc f_X11_answer (nx := 6) rfl rfl rfl rfl ?_
                  refine ev_retK1 f_X11_answer rfl rfl rfl ?_
                  exact ev_ret f_X11_silent rfl rfl rfl ⟨_, _, _, rfl, hI, hX, ⟨_, rfl, (t_lo z73), (t_hi z73), (show (g74 0 0).toInt = 0 from (by have ffs : (g74 0 0).toInt = 0 := (congrArg Int32.toInt (by rw [e74]; exact x_up2_at _ _ _ _ : g74 0 0 = 0)).trans (by decide); omega))⟩⟩
                · have l75 : 5 ≤ z68.toInt := t_ltl (t_nle h69) (by decide : (4:Int) ≤ (4:Int32).toInt) rfl
                  refine ev_incv f_J6_numberOfTrailingZeros_0f7a4 (nx := 70) (c := 2) (w := 15) (lo' := [(1, .int 15), (0, .int z68)]) rfl rfl (by decide) (by decide) rfl rfl rfl ?_
                  refine ev_loc f_J6_numberOfTrailingZeros_0f7a4 (nx := 71) rfl rfl rfl rfl ?_
                  refine ev_ic f_J6_numberOfTrailingZeros_0f7a4 (nx := 72) (v := 2) rfl (by decide) rfl ?_
                  refine ev_anyI f_J6_numberOfTrailingZeros_0f7a4 (nx := 73) rfl rfl rfl rfl (fun z76 => ?_)
                  refine ev_loc f_J6_numberOfTrailingZeros_0f7a4 (nx := 74) (lo' := [(0, .int z76), (1, .int 15)]) rfl rfl rfl rfl ?_
                  refine ev_loc f_J6_numberOfTrailingZeros_0f7a4 (nx := 75) rfl rfl rfl rfl ?_
                  refine ev_loc f_J6_numberOfTrailingZeros_0f7a4 (nx := 76) rfl rfl rfl rfl ?_
                  refine ev_ic f_J6_numberOfTrailingZeros_0f7a4 (nx := 77) (v := 1) rfl (by decide) rfl ?_
                  refine ev_anyI f_J6_numberOfTrailingZeros_0f7a4 (nx := 78) rfl rfl rfl rfl (fun z77 => ?_)
                  refine ev_anyI f_J6_numberOfTrailingZeros_0f7a4 (nx := 79) rfl rfl rfl rfl (fun z78 => ?_)
                  refine ev_retK1 f_J6_numberOfTrailingZeros_0f7a4 rfl rfl rfl ?_
                  refine ev_anyI f_J13_numberOfTrailingZeros_95d88 (nx := 18) rfl rfl rfl rfl (fun z79 => ?_)
                  refine ev_jmp f_J13_numberOfTrailingZeros_95d88 (nx := 25) rfl rfl rfl ?_
                  refine ev_retK1 f_J13_numberOfTrailingZeros_95d88 rfl rfl rfl ?_
                  refine ev_inV2 f_X11_silent (nx := 44) (lo2 := [(0, .ref 0), (1, .int z79)]) rfl rfl rfl rfl f_X11_answer (hI.wf.s rfl) rfl rfl rfl rfl rfl ?_
                  refine ev_loc f_X11_answer (nx := 1) rfl rfl rfl rfl ?_
                  refine ev_ic f_X11_answer (nx := 2) (v := 0) rfl (by decide) rfl ?_
                  refine ev_putIT f_X11_answer (nx := 5) rfl (hI.wf.s rfl) rfl rfl rfl (hI.put0 (hI.wf.s rfl) rfl rfl) (hX.upI rfl) (fun g80 e80 hI hX => ?_)
                  refine ev_loc f_X11_answer (nx := 6) rfl rfl rfl rfl ?_
                  refine ev_retK1 f_X11_answer rfl rfl rfl ?_
                  exact ev_ret f_X11_silent rfl rfl rfl ⟨_, _, _, rfl, hI, hX, ⟨_, rfl, (t_lo z79), (t_hi z79), (show (g80 0 0).toInt = 0 from (by have ffs : (g80 0 0).toInt = 0 := (congrArg Int32.toInt (by rw [e80]; exact x_up2_at _ _ _ _ : g80 0 0 = 0)).trans (by decide); omega))⟩⟩
          · have l81 : 65537 ≤ z16.toInt := t_ltl (t_nle h19) (by decide : (65536:Int) ≤ (65536:Int32).toInt) rfl
            refine ev_incv f_J6_numberOfTrailingZeros_0f7a4 (nx := 29) (c := 16) (w := 17) (lo' := [(1, .int 17), (0, .int z16)]) rfl rfl (by decide) (by decide) rfl rfl rfl ?_
            refine ev_loc f_J6_numberOfTrailingZeros_0f7a4 (nx := 30) rfl rfl rfl rfl ?_
            refine ev_bp f_J6_numberOfTrailingZeros_0f7a4 (nx := 32) (v := 16) rfl (by decide) rfl ?_
            refine ev_anyI f_J6_numberOfTrailingZeros_0f7a4 (nx := 33) rfl rfl rfl rfl (fun z82 => ?_)
            refine ev_loc f_J6_numberOfTrailingZeros_0f7a4 (nx := 34) (lo' := [(0, .int z82), (1, .int 17)]) rfl rfl rfl rfl ?_
            refine ev_loc f_J6_numberOfTrailingZeros_0f7a4 (nx := 35) rfl rfl rfl rfl ?_
            refine ev_sp f_J6_numberOfTrailingZeros_0f7a4 (nx := 38) (v := 256) rfl (by decide) rfl ?_
            refine ev_if f_J6_numberOfTrailingZeros_0f7a4 (t1 := 49) (t2 := 41) rfl rfl rfl (fun h83 => ?_) (fun h83 => ?_)
            · have u84 : z82.toInt ≤ 256 := t_leu h83 (by decide : (256:Int32).toInt ≤ (256:Int))
              refine ev_loc f_J6_numberOfTrailingZeros_0f7a4 (nx := 50) rfl rfl rfl rfl ?_
              refine ev_bp f_J6_numberOfTrailingZeros_0f7a4 (nx := 52) (v := 16) rfl (by decide) rfl ?_
              refine ev_if f_J6_numberOfTrailingZeros_0f7a4 (t1 := 62) (t2 := 55) rfl rfl rfl (fun h85 => ?_) (fun h85 => ?_)
              · have u86 : z82.toInt ≤ 16 := t_leu h85 (by decide : (16:Int32).toInt ≤ (16:Int))
                refine ev_loc f_J6_numberOfTrailingZeros_0f7a4 (nx := 63) rfl rfl rfl rfl ?_
                refine ev_ic f_J6_numberOfTrailingZeros_0f7a4 (nx := 64) (v := 4) rfl (by decide) rfl ?_
                refine ev_if f_J6_numberOfTrailingZeros_0f7a4 (t1 := 74) (t2 := 67) rfl rfl rfl (fun h87 => ?_) (fun h87 => ?_)
                · have u88 : z82.toInt ≤ 4 := t_leu h87 (by decide : (4:Int32).toInt ≤ (4:Int))
                  refine ev_loc f_J6_numberOfTrailingZeros_0f7a4 (nx := 75) rfl rfl rfl rfl ?_
                  refine ev_loc f_J6_numberOfTrailingZeros_0f7a4 (nx := 76) rfl rfl rfl rfl ?_
                  refine ev_ic f_J6_numberOfTrailingZeros_0f7a4 (nx := 77) (v := 1) rfl (by decide) rfl ?_
                  refine ev_anyI f_J6_numberOfTrailingZeros_0f7a4 (nx := 78) rfl rfl rfl rfl (fun z89 => ?_)
                  refine ev_anyI f_J6_numberOfTrailingZeros_0f7a4 (nx := 79) rfl rfl rfl rfl (fun z90 => ?_)
                  refine ev_retK1 f_J6_numberOfTrailingZeros_0f7a4 rfl rfl rfl ?_
                  refine ev_anyI f_J13_numberOfTrailingZeros_95d88 (nx := 18) rfl rfl rfl rfl (fun z91 => ?_)
                  refine ev_jmp f_J13_numberOfTrailingZeros_95d88 (nx := 25) rfl rfl rfl ?_
                  refine ev_retK1 f_J13_numberOfTrailingZeros_95d88 rfl rfl rfl ?_
                  refine ev_inV2 f_X11_silent (nx := 44) (lo2 := [(0, .ref 0), (1, .int z91)]) rfl rfl rfl rfl f_X11_answer (hI.wf.s rfl) rfl rfl rfl rfl rfl ?_
                  refine ev_loc f_X11_answer (nx := 1) rfl rfl rfl rfl ?_
                  refine ev_ic f_X11_answer (nx := 2) (v := 0) rfl (by decide) rfl ?_
                  refine ev_putIT f_X11_answer (nx := 5) rfl (hI.wf.s rfl) rfl rfl rfl (hI.put0 (hI.wf.s rfl) rfl rfl) (hX.upI rfl) (fun g92 e92 hI hX => ?_)
                  refine ev_loc f_X11_answer (nx := 6) rfl rfl rfl rfl ?_
                  refine ev_retK1 f_X11_answer rfl rfl rfl ?_
                  exact ev_ret f_X11_silent rfl rfl rfl ⟨_, _, _, rfl, hI, hX, ⟨_, rfl, (t_lo z91), (t_hi z91), (show (g92 0 0).toInt = 0 from (by have ffs : (g92 0 0).toInt = 0 := (congrArg Int32.toInt (by rw [e92]; exact x_up2_at _ _ _ _ : g92 0 0 = 0)).trans (by decide); omega))⟩⟩
                · have l93 : 5 ≤ z82.toInt := t_ltl (t_nle h87) (by decide : (4:Int) ≤ (4:Int32).toInt) rfl
                  refine ev_incv f_J6_numberOfTrailingZeros_0f7a4 (nx := 70) (c := 2) (w := 19) (lo' := [(1, .int 19), (0, .int z82)]) rfl rfl (by decide) (by decide) rfl rfl rfl ?_
                  refine ev_loc f_J6_numberOfTrailingZeros_0f7a4 (nx := 71) rfl rfl rfl rfl ?_
                  refine ev_ic f_J6_numberOfTrailingZeros_0f7a4 (nx := 72) (v := 2) rfl (by decide) rfl ?_
                  refine ev_anyI f_J6_numberOfTrailingZeros_0f7a4 (nx := 73) rfl rfl rfl rfl (fun z94 => ?_)
                  refine ev_loc f_J6_numberOfTrailingZeros_0f7a4 (nx := 74) (lo' := [(0, .int z94), (1, .int 19)]) rfl rfl rfl rfl ?_
                  refine ev_loc f_J6_numberOfTrailingZeros_0f7a4 (nx := 75) rfl rfl rfl rfl ?_
                  refine ev_loc f_J6_numberOfTrailingZeros_0f7a4 (nx := 76) rfl rfl rfl rfl ?_
                  refine ev_ic f_J6_numberOfTrailingZeros_0f7a4 (nx := 77) (v := 1) rfl (by decide) rfl ?_
                  refine ev_anyI f_J6_numberOfTrailingZeros_0f7a4 (nx := 78) rfl rfl rfl rfl (fun z95 => ?_)
                  refine ev_anyI f_J6_numberOfTrailingZeros_0f7a4 (nx := 79) rfl rfl rfl rfl (fun z96 => ?_)
                  refine ev_retK1 f_J6_numberOfTrailingZeros_0f7a4 rfl rfl rfl ?_
                  refine ev_anyI f_J13_numberOfTrailingZeros_95d88 (nx := 18) rfl rfl rfl rfl (fun z97 => ?_)
                  refine ev_jmp f_J13_numberOfTrailingZeros_95d88 (nx := 25) rfl rfl rfl ?_
                  refine ev_retK1 f_J13_numberOfTrailingZeros_95d88 rfl rfl rfl ?_
                  refine ev_inV2 f_X11_silent (nx := 44) (lo2 := [(0, .ref 0), (1, .int z97)]) rfl rfl rfl rfl f_X11_answer (hI.wf.s rfl) rfl rfl rfl rfl rfl ?_
                  refine ev_loc f_X11_answer (nx := 1) rfl rfl rfl rfl ?_
                  refine ev_ic f_X11_answer (nx := 2) (v := 0) rfl (by decide) rfl ?_
                  refine ev_putIT f_X11_answer (nx := 5) rfl (hI.wf.s rfl) rfl rfl rfl (hI.put0 (hI.wf.s rfl) rfl rfl) (hX.upI rfl) (fun g98 e98 hI hX => ?_)
                  refine ev_loc f_X11_answer (nx := 6) rfl rfl rfl rfl ?_
                  refine ev_retK1 f_X11_answer rfl rfl rfl ?_
                  exact ev_ret f_X11_silent rfl rfl rfl ⟨_, _, _, rfl, hI, hX, ⟨_, rfl, (t_lo z97), (t_hi z97), (show (g98 0 0).toInt = 0 from (by have ffs : (g98 0 0).toInt = 0 := (congrArg Int32.toInt (by rw [e98]; exact x_up2_at _ _ _ _ : g98 0 0 = 0)).trans (by decide); omega))⟩⟩
              · have l99 : 17 ≤ z82.toInt := t_ltl (t_nle h85) (by decide : (16:Int) ≤ (16:Int32).toInt) rfl
                refine ev_incv f_J6_numberOfTrailingZeros_0f7a4 (nx := 58) (c := 4) (w := 21) (lo' := [(1, .int 21), (0, .int z82)]) rfl rfl (by decide) (by decide) rfl rfl rfl ?_
                refine ev_loc f_J6_numberOfTrailingZeros_0f7a4 (nx := 59) rfl rfl rfl rfl ?_
                refine ev_ic f_J6_numberOfTrailingZeros_0f7a4 (nx := 60) (v := 4) rfl (by decide) rfl ?_
                refine ev_anyI f_J6_numberOfTrailingZeros_0f7a4 (nx := 61) rfl rfl rfl rfl (fun z100 => ?_)
                refine ev_loc f_J6_numberOfTrailingZeros_0f7a4 (nx := 62) (lo' := [(0, .int z100), (1, .int 21)]) rfl rfl rfl rfl ?_
                refine ev_loc f_J6_numberOfTrailingZeros_0f7a4 (nx := 63) rfl rfl rfl rfl ?_
                refine ev_ic f_J6_numberOfTrailingZeros_0f7a4 (nx := 64) (v := 4) rfl (by decide) rfl ?_
                refine ev_if f_J6_numberOfTrailingZeros_0f7a4 (t1 := 74) (t2 := 67) rfl rfl rfl (fun h101 => ?_) (fun h101 => ?_)
                · have u102 : z100.toInt ≤ 4 := t_leu h101 (by decide : (4:Int32).toInt ≤ (4:Int))
                  refine ev_loc f_J6_numberOfTrailingZeros_0f7a4 (nx := 75) rfl rfl rfl rfl ?_
                  refine ev_loc f_J6_numberOfTrailingZeros_0f7a4 (nx := 76) rfl rfl rfl rfl ?_
                  refine ev_ic f_J6_numberOfTrailingZeros_0f7a4 (nx := 77) (v := 1) rfl (by decide) rfl ?_
                  refine ev_anyI f_J6_numberOfTrailingZeros_0f7a4 (nx := 78) rfl rfl rfl rfl (fun z103 => ?_)
                  refine ev_anyI f_J6_numberOfTrailingZeros_0f7a4 (nx := 79) rfl rfl rfl rfl (fun z104 => ?_)
                  refine ev_retK1 f_J6_numberOfTrailingZeros_0f7a4 rfl rfl rfl ?_
                  refine ev_anyI f_J13_numberOfTrailingZeros_95d88 (nx := 18) rfl rfl rfl rfl (fun z105 => ?_)
                  refine ev_jmp f_J13_numberOfTrailingZeros_95d88 (nx := 25) rfl rfl rfl ?_
                  refine ev_retK1 f_J13_numberOfTrailingZeros_95d88 rfl rfl rfl ?_
                  refine ev_inV2 f_X11_silent (nx := 44) (lo2 := [(0, .ref 0), (1, .int z105)]) rfl rfl rfl rfl f_X11_answer (hI.wf.s rfl) rfl rfl rfl rfl rfl ?_
                  refine ev_loc f_X11_answer (nx := 1) rfl rfl rfl rfl ?_
                  refine ev_ic f_X11_answer (nx := 2) (v := 0) rfl (by decide) rfl ?_
                  refine ev_putIT f_X11_answer (nx := 5) rfl (hI.wf.s rfl) rfl rfl rfl (hI.put0 (hI.wf.s rfl) rfl rfl) (hX.upI rfl) (fun g106 e106 hI hX => ?_)
                  refine ev_loc f_X11_answer (nx := 6) rfl rfl rfl rfl ?_
                  refine ev_retK1 f_X11_answer rfl rfl rfl ?_
                  exact ev_ret f_X11_silent rfl rfl rfl ⟨_, _, _, rfl, hI, hX, ⟨_, rfl, (t_lo z105), (t_hi z105), (show (g106 0 0).toInt = 0 from (by have ffs : (g106 0 0).toInt = 0 := (congrArg Int32.toInt (by rw [e106]; exact x_up2_at _ _ _ _ : g106 0 0 = 0)).trans (by decide); omega))⟩⟩
                · have l107 : 5 ≤ z100.toInt := t_ltl (t_nle h101) (by decide : (4:Int) ≤ (4:Int32).toInt) rfl
                  refine ev_incv f_J6_numberOfTrailingZeros_0f7a4 (nx := 70) (c := 2) (w := 23) (lo' := [(1, .int 23), (0, .int z100)]) rfl rfl (by decide) (by decide) rfl rfl rfl ?_
                  refine ev_loc f_J6_numberOfTrailingZeros_0f7a4 (nx := 71) rfl rfl rfl rfl ?_
                  refine ev_ic f_J6_numberOfTrailingZeros_0f7a4 (nx := 72) (v := 2) rfl (by decide) rfl ?_
                  refine ev_anyI f_J6_numberOfTrailingZeros_0f7a4 (nx := 73) rfl rfl rfl rfl (fun z108 => ?_)
                  refine ev_loc f_J6_numberOfTrailingZeros_0f7a4 (nx := 74) (lo' := [(0, .int z108), (1, .int 23)]) rfl rfl rfl rfl ?_
                  refine ev_loc f_J6_numberOfTrailingZeros_0f7a4 (nx := 75) rfl rfl rfl rfl ?_
                  refine ev_loc f_J6_numberOfTrailingZeros_0f7a4 (nx := 76) rfl rfl rfl rfl ?_
                  refine ev_ic f_J6_numberOfTrailingZeros_0f7a4 (nx := 77) (v := 1) rfl (by decide) rfl ?_
                  refine ev_anyI f_J6_numberOfTrailingZeros_0f7a4 (nx := 78) rfl rfl rfl rfl (fun z109 => ?_)
                  refine ev_anyI f_J6_numberOfTrailingZeros_0f7a4 (nx := 79) rfl rfl rfl rfl (fun z110 => ?_)
                  refine ev_retK1 f_J6_numberOfTrailingZeros_0f7a4 rfl rfl rfl ?_
                  refine ev_anyI f_J13_numberOfTrailingZeros_95d88 (nx := 18) rfl rfl rfl rfl (fun z111 => ?_)
                  refine ev_jmp f_J13_numberOfTrailingZeros_95d88 (nx := 25) rfl rfl rfl ?_
                  refine ev_retK1 f_J13_numberOfTrailingZeros_95d88 rfl rfl rfl ?_
                  refine ev_inV2 f_X11_silent (nx := 44) (lo2 := [(0, .ref 0), (1, .int z111)]) rfl rfl rfl rfl f_X11_answer (hI.wf.s rfl) rfl rfl rfl rfl rfl ?_
                  refine ev_loc f_X11_answer (nx := 1) rfl rfl rfl rfl ?_
                  refine ev_ic f_X11_answer (nx := 2) (v := 0) rfl (by decide) rfl ?_
                  refine ev_putIT f_X11_answer (nx := 5) rfl (hI.wf.s rfl) rfl rfl rfl (hI.put0 (hI.wf.s rfl) rfl rfl) (hX.upI rfl) (fun g112 e112 hI hX => ?_)
                  refine ev_loc f_X11_answer (nx := 6) rfl rfl rfl rfl ?_
                  refine ev_retK1 f_X11_answer rfl rfl rfl ?_
                  exact ev_ret f_X11_silent rfl rfl rfl ⟨_, _, _, rfl, hI, hX, ⟨_, rfl, (t_lo z111), (t_hi z111), (show (g112 0 0).toInt = 0 from (by have ffs : (g112 0 0).toInt = 0 := (congrArg Int32.toInt (by rw [e112]; exact x_up2_at _ _ _ _ : g112 0 0 = 0)).trans (by decide); omega))⟩⟩
            · have l113 : 257 ≤ z82.toInt := t_ltl (t_nle h83) (by decide : (256:Int) ≤ (256:Int32).toInt) rfl
              refine ev_incv f_J6_numberOfTrailingZeros_0f7a4 (nx := 44) (c := 8) (w := 25) (lo' := [(1, .int 25), (0, .int z82)]) rfl rfl (by decide) (by decide) rfl rfl rfl ?_
              refine ev_loc f_J6_numberOfTrailingZeros_0f7a4 (nx := 45) rfl rfl rfl rfl ?_
              refine ev_bp f_J6_numberOfTrailingZeros_0f7a4 (nx := 47) (v := 8) rfl (by decide) rfl ?_
              refine ev_anyI f_J6_numberOfTrailingZeros_0f7a4 (nx := 48) rfl rfl rfl rfl (fun z114 => ?_)
              refine ev_loc f_J6_numberOfTrailingZeros_0f7a4 (nx := 49) (lo' := [(0, .int z114), (1, .int 25)]) rfl rfl rfl rfl ?_
              refine ev_loc f_J6_numberOfTrailingZeros_0f7a4 (nx := 50) rfl rfl rfl rfl ?_
              refine ev_bp f_J6_numberOfTrailingZeros_0f7a4 (nx := 52) (v := 16) rfl (by decide) rfl ?_
              refine ev_if f_J6_numberOfTrailingZeros_0f7a4 (t1 := 62) (t2 := 55) rfl rfl rfl (fun h115 => ?_) (fun h115 => ?_)
              · have u116 : z114.toInt ≤ 16 := t_leu h115 (by decide : (16:Int32).toInt ≤ (16:Int))
                refine ev_loc f_J6_numberOfTrailingZeros_0f7a4 (nx := 63) rfl rfl rfl rfl ?_
                refine ev_ic f_J6_numberOfTrailingZeros_0f7a4 (nx := 64) (v := 4) rfl (by decide) rfl ?_
                refine ev_if f_J6_numberOfTrailingZeros_0f7a4 (t1 := 74) (t2 := 67) rfl rfl rfl (fun h117 => ?_) (fun h117 => ?_)
                · have u118 : z114.toInt ≤ 4 := t_leu h117 (by decide : (4:Int32).toInt ≤ (4:Int))
                  refine ev_loc f_J6_numberOfTrailingZeros_0f7a4 (nx := 75) rfl rfl rfl rfl ?_
                  refine ev_loc f_J6_numberOfTrailingZeros_0f7a4 (nx := 76) rfl rfl rfl rfl ?_
                  refine ev_ic f_J6_numberOfTrailingZeros_0f7a4 (nx := 77) (v := 1) rfl (by decide) rfl ?_
                  refine ev_anyI f_J6_numberOfTrailingZeros_0f7a4 (nx := 78) rfl rfl rfl rfl (fun z119 => ?_)
                  refine ev_anyI f_J6_numberOfTrailingZeros_0f7a4 (nx := 79) rfl rfl rfl rfl (fun z120 => ?_)
                  refine ev_retK1 f_J6_numberOfTrailingZeros_0f7a4 rfl rfl rfl ?_
                  refine ev_anyI f_J13_numberOfTrailingZeros_95d88 (nx := 18) rfl rfl rfl rfl (fun z121 => ?_)
                  refine ev_jmp f_J13_numberOfTrailingZeros_95d88 (nx := 25) rfl rfl rfl ?_
                  refine ev_retK1 f_J13_numberOfTrailingZeros_95d88 rfl rfl rfl ?_
                  refine ev_inV2 f_X11_silent (nx := 44) (lo2 := [(0, .ref 0), (1, .int z121)]) rfl rfl rfl rfl f_X11_answer (hI.wf.s rfl) rfl rfl rfl rfl rfl ?_
                  refine ev_loc f_X11_answer (nx := 1) rfl rfl rfl rfl ?_
                  refine ev_ic f_X11_answer (nx := 2) (v := 0) rfl (by decide) rfl ?_
                  refine ev_putIT f_X11_answer (nx := 5) rfl (hI.wf.s rfl) rfl rfl rfl (hI.put0 (hI.wf.s rfl) rfl rfl) (hX.upI rfl) (fun g122 e122 hI hX => ?_)
                  refine ev_loc f_X11_answer (nx := 6) rfl rfl rfl rfl ?_
                  refine ev_retK1 f_X11_answer rfl rfl rfl ?_
                  exact ev_ret f_X11_silent rfl rfl rfl ⟨_, _, _, rfl, hI, hX, ⟨_, rfl, (t_lo z121), (t_hi z121), (show (g122 0 0).toInt = 0 from (by have ffs : (g122 0 0).toInt = 0 := (congrArg Int32.toInt (by rw [e122]; exact x_up2_at _ _ _ _ : g122 0 0 = 0)).trans (by decide); omega))⟩⟩
                · have l123 : 5 ≤ z114.toInt := t_ltl (t_nle h117) (by decide : (4:Int) ≤ (4:Int32).toInt) rfl
                  refine ev_incv f_J6_numberOfTrailingZeros_0f7a4 (nx := 70) (c := 2) (w := 27) (lo' := [(1, .int 27), (0, .int z114)]) rfl rfl (by decide) (by decide) rfl rfl rfl ?_
                  refine ev_loc f_J6_numberOfTrailingZeros_0f7a4 (nx := 71) rfl rfl rfl rfl ?_
                  refine ev_ic f_J6_numberOfTrailingZeros_0f7a4 (nx := 72) (v := 2) rfl (by decide) rfl ?_
                  refine ev_anyI f_J6_numberOfTrailingZeros_0f7a4 (nx := 73) rfl rfl rfl rfl (fun z124 => ?_)
                  refine ev_loc f_J6_numberOfTrailingZeros_0f7a4 (nx := 74) (lo' := [(0, .int z124), (1, .int 27)]) rfl rfl rfl rfl ?_
                  refine ev_loc f_J6_numberOfTrailingZeros_0f7a4 (nx := 75) rfl rfl rfl rfl ?_
                  refine ev_loc f_J6_numberOfTrailingZeros_0f7a4 (nx := 76) rfl rfl rfl rfl ?_
                  refine ev_ic f_J6_numberOfTrailingZeros_0f7a4 (nx := 77) (v := 1) rfl (by decide) rfl ?_
                  refine ev_anyI f_J6_numberOfTrailingZeros_0f7a4 (nx := 78) rfl rfl rfl rfl (fun z125 => ?_)
                  refine ev_anyI f_J6_numberOfTrailingZeros_0f7a4 (nx := 79) rfl rfl rfl rfl (fun z126 => ?_)
                  refine ev_retK1 f_J6_numberOfTrailingZeros_0f7a4 rfl rfl rfl ?_
                  refine ev_anyI f_J13_numberOfTrailingZeros_95d88 (nx := 18) rfl rfl rfl rfl (fun z127 => ?_)
                  refine ev_jmp f_J13_numberOfTrailingZeros_95d88 (nx := 25) rfl rfl rfl ?_
                  refine ev_retK1 f_J13_numberOfTrailingZeros_95d88 rfl rfl rfl ?_
                  refine ev_inV2 f_X11_silent (nx := 44) (lo2 := [(0, .ref 0), (1, .int z127)]) rfl rfl rfl rfl f_X11_answer (hI.wf.s rfl) rfl rfl rfl rfl rfl ?_
                  refine ev_loc f_X11_answer (nx := 1) rfl rfl rfl rfl ?_
                  refine ev_ic f_X11_answer (nx := 2) (v := 0) rfl (by decide) rfl ?_
                  refine ev_putIT f_X11_answer (nx := 5) rfl (hI.wf.s rfl) rfl rfl rfl (hI.put0 (hI.wf.s rfl) rfl rfl) (hX.upI rfl) (fun g128 e128 hI hX => ?_)
                  refine ev_loc f_X11_answer (nx := 6) rfl rfl rfl rfl ?_
                  refine ev_retK1 f_X11_answer rfl rfl rfl ?_
                  exact ev_ret f_X11_silent rfl rfl rfl ⟨_, _, _, rfl, hI, hX, ⟨_, rfl, (t_lo z127), (t_hi z127), (show (g128 0 0).toInt = 0 from (by have ffs : (g128 0 0).toInt = 0 := (congrArg Int32.toInt (by rw [e128]; exact x_up2_at _ _ _ _ : g128 0 0 = 0)).trans (by decide); omega))⟩⟩
              · have l129 : 17 ≤ z114.toInt := t_ltl (t_nle h115) (by decide : (16:Int) ≤ (16:Int32).toInt) rfl
                refine ev_incv f_J6_numberOfTrailingZeros_0f7a4 (nx := 58) (c := 4) (w := 29) (lo' := [(1, .int 29), (0, .int z114)]) rfl rfl (by decide) (by decide) rfl rfl rfl ?_
                refine ev_loc f_J6_numberOfTrailingZeros_0f7a4 (nx := 59) rfl rfl rfl rfl ?_
                refine ev_ic f_J6_numberOfTrailingZeros_0f7a4 (nx := 60) (v := 4) rfl (by decide) rfl ?_
                refine ev_anyI f_J6_numberOfTrailingZeros_0f7a4 (nx := 61) rfl rfl rfl rfl (fun z130 => ?_)
                refine ev_loc f_J6_numberOfTrailingZeros_0f7a4 (nx := 62) (lo' := [(0, .int z130), (1, .int 29)]) rfl rfl rfl rfl ?_
                refine ev_loc f_J6_numberOfTrailingZeros_0f7a4 (nx := 63) rfl rfl rfl rfl ?_
                refine ev_ic f_J6_numberOfTrailingZeros_0f7a4 (nx := 64) (v := 4) rfl (by decide) rfl ?_
                refine ev_if f_J6_numberOfTrailingZeros_0f7a4 (t1 := 74) (t2 := 67) rfl rfl rfl (fun h131 => ?_) (fun h131 => ?_)
                · have u132 : z130.toInt ≤ 4 := t_leu h131 (by decide : (4:Int32).toInt ≤ (4:Int))
                  refine ev_loc f_J6_numberOfTrailingZeros_0f7a4 (nx := 75) rfl rfl rfl rfl ?_
                  refine ev_loc f_J6_numberOfTrailingZeros_0f7a4 (nx := 76) rfl rfl rfl rfl ?_
                  refine ev_ic f_J6_numberOfTrailingZeros_0f7a4 (nx := 77) (v := 1) rfl (by decide) rfl ?_
                  refine ev_anyI f_J6_numberOfTrailingZeros_0f7a4 (nx := 78) rfl rfl rfl rfl (fun z133 => ?_)
                  refine ev_anyI f_J6_numberOfTrailingZeros_0f7a4 (nx := 79) rfl rfl rfl rfl (fun z134 => ?_)
                  refine ev_retK1 f_J6_numberOfTrailingZeros_0f7a4 rfl rfl rfl ?_
                  refine ev_anyI f_J13_numberOfTrailingZeros_95d88 (nx := 18) rfl rfl rfl rfl (fun z135 => ?_)
                  refine ev_jmp f_J13_numberOfTrailingZeros_95d88 (nx := 25) rfl rfl rfl ?_
                  refine ev_retK1 f_J13_numberOfTrailingZeros_95d88 rfl rfl rfl ?_
                  refine ev_inV2 f_X11_silent (nx := 44) (lo2 := [(0, .ref 0), (1, .int z135)]) rfl rfl rfl rfl f_X11_answer (hI.wf.s rfl) rfl rfl rfl rfl rfl ?_
                  refine ev_loc f_X11_answer (nx := 1) rfl rfl rfl rfl ?_
                  refine ev_ic f_X11_answer (nx := 2) (v := 0) rfl (by decide) rfl ?_
                  refine ev_putIT f_X11_answer (nx := 5) rfl (hI.wf.s rfl) rfl rfl rfl (hI.put0 (hI.wf.s rfl) rfl rfl) (hX.upI rfl) (fun g136 e136 hI hX => ?_)
                  refine ev_loc f_X11_answer (nx := 6) rfl rfl rfl rfl ?_
                  refine ev_retK1 f_X11_answer rfl rfl rfl ?_
                  exact ev_ret f_X11_silent rfl rfl rfl ⟨_, _, _, rfl, hI, hX, ⟨_, rfl, (t_lo z135), (t_hi z135), (show (g136 0 0).toInt = 0 from (by have ffs : (g136 0 0).toInt = 0 := (congrArg Int32.toInt (by rw [e136]; exact x_up2_at _ _ _ _ : g136 0 0 = 0)).trans (by decide); omega))⟩⟩
                · have l137 : 5 ≤ z130.toInt := t_ltl (t_nle h131) (by decide : (4:Int) ≤ (4:Int32).toInt) rfl
                  refine ev_incv f_J6_numberOfTrailingZeros_0f7a4 (nx := 70) (c := 2) (w := 31) (lo' := [(1, .int 31), (0, .int z130)]) rfl rfl (by decide) (by decide) rfl rfl rfl ?_
                  refine ev_loc f_J6_numberOfTrailingZeros_0f7a4 (nx := 71) rfl rfl rfl rfl ?_
                  refine ev_ic f_J6_numberOfTrailingZeros_0f7a4 (nx := 72) (v := 2) rfl (by decide) rfl ?_
                  refine ev_anyI f_J6_numberOfTrailingZeros_0f7a4 (nx := 73) rfl rfl rfl rfl (fun z138 => ?_)
                  refine ev_loc f_J6_numberOfTrailingZeros_0f7a4 (nx := 74) (lo' := [(0, .int z138), (1, .int 31)]) rfl rfl rfl rfl ?_
                  refine ev_loc f_J6_numberOfTrailingZeros_0f7a4 (nx := 75) rfl rfl rfl rfl ?_
                  refine ev_loc f_J6_numberOfTrailingZeros_0f7a4 (nx := 76) rfl rfl rfl rfl ?_
                  refine ev_ic f_J6_numberOfTrailingZeros_0f7a4 (nx := 77) (v := 1) rfl (by decide) rfl ?_
                  refine ev_anyI f_J6_numberOfTrailingZeros_0f7a4 (nx := 78) rfl rfl rfl rfl (fun z139 => ?_)
                  refine ev_anyI f_J6_numberOfTrailingZeros_0f7a4 (nx := 79) rfl rfl rfl rfl (fun z140 => ?_)
                  refine ev_retK1 f_J6_numberOfTrailingZeros_0f7a4 rfl rfl rfl ?_
                  refine ev_anyI f_J13_numberOfTrailingZeros_95d88 (nx := 18) rfl rfl rfl rfl (fun z141 => ?_)
                  refine ev_jmp f_J13_numberOfTrailingZeros_95d88 (nx := 25) rfl rfl rfl ?_
                  refine ev_retK1 f_J13_numberOfTrailingZeros_95d88 rfl rfl rfl ?_
                  refine ev_inV2 f_X11_silent (nx := 44) (lo2 := [(0, .ref 0), (1, .int z141)]) rfl rfl rfl rfl f_X11_answer (hI.wf.s rfl) rfl rfl rfl rfl rfl ?_
                  refine ev_loc f_X11_answer (nx := 1) rfl rfl rfl rfl ?_
                  refine ev_ic f_X11_answer (nx := 2) (v := 0) rfl (by decide) rfl ?_
                  refine ev_putIT f_X11_answer (nx := 5) rfl (hI.wf.s rfl) rfl rfl rfl (hI.put0 (hI.wf.s rfl) rfl rfl) (hX.upI rfl) (fun g142 e142 hI hX => ?_)
                  refine ev_loc f_X11_answer (nx := 6) rfl rfl rfl rfl ?_
                  refine ev_retK1 f_X11_answer rfl rfl rfl ?_
                  exact ev_ret f_X11_silent rfl rfl rfl ⟨_, _, _, rfl, hI, hX, ⟨_, rfl, (t_lo z141), (t_hi z141), (show (g142 0 0).toInt = 0 from (by have ffs : (g142 0 0).toInt = 0 := (congrArg Int32.toInt (by rw [e142]; exact x_up2_at _ _ _ _ : g142 0 0 = 0)).trans (by decide); omega))⟩⟩
        · have u143 : z16.toInt ≤ 0 := t_leu (t_nlt h17) (by decide : (0:Int32).toInt ≤ (0:Int))
          refine ev_loc f_J6_numberOfTrailingZeros_0f7a4 (nx := 13) rfl rfl rfl rfl ?_
          refine ev_bp f_J6_numberOfTrailingZeros_0f7a4 (nx := 15) (v := 32) rfl (by decide) rfl ?_
          refine ev_andE f_J6_numberOfTrailingZeros_0f7a4 (nx := 16) (c := 32) rfl (by decide) (by decide) rfl (fun z144 e144 l144 u144 => ?_)
          refine ev_retK1 f_J6_numberOfTrailingZeros_0f7a4 rfl rfl rfl ?_
          refine ev_addK f_J13_numberOfTrailingZeros_95d88 (nx := 18) (c := 32) (l := 32) (u := 64) rfl (by decide) l144 u144 rfl rfl (by decide) (by decide) rfl (fun z145 e145 l145 u145 => ?_)
          refine ev_jmp f_J13_numberOfTrailingZeros_95d88 (nx := 25) rfl rfl rfl ?_
          refine ev_retK1 f_J13_numberOfTrailingZeros_95d88 rfl rfl rfl ?_
          refine ev_inV2 f_X11_silent (nx := 44) (lo2 := [(0, .ref 0), (1, .int z145)]) rfl rfl rfl rfl f_X11_answer (hI.wf.s rfl) rfl rfl rfl rfl rfl ?_
          refine ev_loc f_X11_answer (nx := 1) rfl rfl rfl rfl ?_
          refine ev_ic f_X11_answer (nx := 2) (v := 0) rfl (by decide) rfl ?_
          refine ev_putIT f_X11_answer (nx := 5) rfl (hI.wf.s rfl) rfl rfl rfl (hI.put0 (hI.wf.s rfl) rfl rfl) (hX.upI rfl) (fun g146 e146 hI hX => ?_)
          refine ev_loc f_X11_answer (nx := 6) rfl rfl rfl rfl ?_
          refine ev_retK1 f_X11_answer rfl rfl rfl ?_
          exact ev_ret f_X11_silent rfl rfl rfl ⟨_, _, _, rfl, hI, hX, ⟨_, rfl, (Int.le_trans (by decide : ((-2147483648):Int) ≤ 32) l145), (Int.le_trans u145 (by decide : (64:Int) ≤ 2147483647)), (show (g146 0 0).toInt = 0 from (by have ffs : (g146 0 0).toInt = 0 := (congrArg Int32.toInt (by rw [e146]; exact x_up2_at _ _ _ _ : g146 0 0 = 0)).trans (by decide); omega))⟩⟩
      · have r147 : z8.toInt ≠ 0 := fun e => h9 (Int32.toInt_inj.mp (e.trans (by decide : (0:Int) = (0 : Int32).toInt)))
        refine ev_loc f_J13_numberOfTrailingZeros_95d88 (nx := 22) rfl rfl rfl rfl ?_
        refine ev_inS1 f_J13_numberOfTrailingZeros_95d88 (nx := 25) (lo2 := [(0, .int z8)]) rfl rfl rfl rfl f_J6_numberOfTrailingZeros_0f7a4 rfl rfl rfl rfl ?_
        refine ev_loc f_J6_numberOfTrailingZeros_0f7a4 (nx := 1) rfl rfl rfl rfl ?_
        refine ev_ic f_J6_numberOfTrailingZeros_0f7a4 (nx := 2) (v := -1) rfl (by decide) rfl ?_
        refine ev_anyI f_J6_numberOfTrailingZeros_0f7a4 (nx := 3) rfl rfl rfl rfl (fun z148 => ?_)
        refine ev_loc f_J6_numberOfTrailingZeros_0f7a4 (nx := 4) rfl rfl rfl rfl ?_
        refine ev_ic f_J6_numberOfTrailingZeros_0f7a4 (nx := 5) (v := 1) rfl (by decide) rfl ?_
        refine ev_anyI f_J6_numberOfTrailingZeros_0f7a4 (nx := 6) rfl rfl rfl rfl (fun z149 => ?_)
        refine ev_anyI f_J6_numberOfTrailingZeros_0f7a4 (nx := 7) rfl rfl rfl rfl (fun z150 => ?_)
        refine ev_loc f_J6_numberOfTrailingZeros_0f7a4 (nx := 8) (lo' := [(0, .int z150)]) rfl rfl rfl rfl ?_
        refine ev_loc f_J6_numberOfTrailingZeros_0f7a4 (nx := 9) rfl rfl rfl rfl ?_
        refine ev_if f_J6_numberOfTrailingZeros_0f7a4 (t1 := 17) (t2 := 12) rfl rfl rfl (fun h151 => ?_) (fun h151 => ?_)
        · have l152 : 1 ≤ z150.toInt := t_ltl h151 (by decide : (0:Int) ≤ (0:Int32).toInt) rfl
          refine ev_ic f_J6_numberOfTrailingZeros_0f7a4 (nx := 18) (v := 1) rfl (by decide) rfl ?_
          refine ev_loc f_J6_numberOfTrailingZeros_0f7a4 (nx := 19) (lo' := [(1, .int 1), (0, .int z150)]) rfl rfl rfl rfl ?_
          refine ev_loc f_J6_numberOfTrailingZeros_0f7a4 (nx := 20) rfl rfl rfl rfl ?_
          refine ev_ldW f_J6_numberOfTrailingZeros_0f7a4 (nx := 23) (v := 65536) rfl (by decide) rfl ?_
          refine ev_if f_J6_numberOfTrailingZeros_0f7a4 (t1 := 34) (t2 := 26) rfl rfl rfl (fun h153 => ?_) (fun h153 => ?_)
          · have u154 : z150.toInt ≤ 65536 := t_leu h153 (by decide : (65536:Int32).toInt ≤ (65536:Int))
            refine ev_loc f_J6_numberOfTrailingZeros_0f7a4 (nx := 35) rfl rfl rfl rfl ?_
            refine ev_sp f_J6_numberOfTrailingZeros_0f7a4 (nx := 38) (v := 256) rfl (by decide) rfl ?_
            refine ev_if f_J6_numberOfTrailingZeros_0f7a4 (t1 := 49) (t2 := 41) rfl rfl rfl (fun h155 => ?_) (fun h155 => ?_)
            · have u156 : z150.toInt ≤ 256 := t_leu h155 (by decide : (256:Int32).toInt ≤ (256:Int))
              refine ev_loc f_J6_numberOfTrailingZeros_0f7a4 (nx := 50) rfl rfl rfl rfl ?_
              refine ev_bp f_J6_numberOfTrailingZeros_0f7a4 (nx := 52) (v := 16) rfl (by decide) rfl ?_
              refine ev_if f_J6_numberOfTrailingZeros_0f7a4 (t1 := 62) (t2 := 55) rfl rfl rfl (fun h157 => ?_) (fun h157 => ?_)
              · have u158 : z150.toInt ≤ 16 := t_leu h157 (by decide : (16:Int32).toInt ≤ (16:Int))
                refine ev_loc f_J6_numberOfTrailingZeros_0f7a4 (nx := 63) rfl rfl rfl rfl ?_
                refine ev_ic f_J6_numberOfTrailingZeros_0f7a4 (nx := 64) (v := 4) rfl (by decide) rfl ?_
                refine ev_if f_J6_numberOfTrailingZeros_0f7a4 (t1 := 74) (t2 := 67) rfl rfl rfl (fun h159 => ?_) (fun h159 => ?_)
                · have u160 : z150.toInt ≤ 4 := t_leu h159 (by decide : (4:Int32).toInt ≤ (4:Int))
                  refine ev_loc f_J6_numberOfTrailingZeros_0f7a4 (nx := 75) rfl rfl rfl rfl ?_
                  refine ev_loc f_J6_numberOfTrailingZeros_0f7a4 (nx := 76) rfl rfl rfl rfl ?_
                  refine ev_ic f_J6_numberOfTrailingZeros_0f7a4 (nx := 77) (v := 1) rfl (by decide) rfl ?_
                  refine ev_anyI f_J6_numberOfTrailingZeros_0f7a4 (nx := 78) rfl rfl rfl rfl (fun z161 => ?_)
                  refine ev_anyI f_J6_numberOfTrailingZeros_0f7a4 (nx := 79) rfl rfl rfl rfl (fun z162 => ?_)
                  refine ev_retK1 f_J6_numberOfTrailingZeros_0f7a4 rfl rfl rfl ?_
                  refine ev_retK1 f_J13_numberOfTrailingZeros_95d88 rfl rfl rfl ?_
                  refine ev_inV2 f_X11_silent (nx := 44) (lo2 := [(0, .ref 0), (1, .int z162)]) rfl rfl rfl rfl f_X11_answer (hI.wf.s rfl) rfl rfl rfl rfl rfl ?_
                  refine ev_loc f_X11_answer (nx := 1) rfl rfl rfl rfl ?_
                  refine ev_ic f_X11_answer (nx := 2) (v := 0) rfl (by decide) rfl ?_
                  refine ev_putIT f_X11_answer (nx := 5) rfl (hI.wf.s rfl) rfl rfl rfl (hI.put0 (hI.wf.s rfl) rfl rfl) (hX.upI rfl) (fun g163 e163 hI hX => ?_)
                  refine ev_loc f_X11_answer (nx := 6) rfl rfl rfl rfl ?_
                  refine ev_retK1 f_X11_answer rfl rfl rfl ?_
                  exact ev_ret f_X11_silent rfl rfl rfl ⟨_, _, _, rfl, hI, hX, ⟨_, rfl, (t_lo z162), (t_hi z162), (show (g163 0 0).toInt = 0 from (by have ffs : (g163 0 0).toInt = 0 := (congrArg Int32.toInt (by rw [e163]; exact x_up2_at _ _ _ _ : g163 0 0 = 0)).trans (by decide); omega))⟩⟩
                · have l164 : 5 ≤ z150.toInt := t_ltl (t_nle h159) (by decide : (4:Int) ≤ (4:Int32).toInt) rfl
                  refine ev_incv f_J6_numberOfTrailingZeros_0f7a4 (nx := 70) (c := 2) (w := 3) (lo' := [(1, .int 3), (0, .int z150)]) rfl rfl (by decide) (by decide) rfl rfl rfl ?_
                  refine ev_loc f_J6_numberOfTrailingZeros_0f7a4 (nx := 71) rfl rfl rfl rfl ?_
                  refine ev_ic f_J6_numberOfTrailingZeros_0f7a4 (nx := 72) (v := 2) rfl (by decide) rfl ?_
                  refine ev_anyI f_J6_numberOfTrailingZeros_0f7a4 (nx := 73) rfl rfl rfl rfl (fun z165 => ?_)
                  refine ev_loc f_J6_numberOfTrailingZeros_0f7a4 (nx := 74) (lo' := [(0, .int z165), (1, .int 3)]) rfl rfl rfl rfl ?_
                  refine ev_loc f_J6_numberOfTrailingZeros_0f7a4 (nx := 75) rfl rfl rfl rfl ?_
                  refine ev_loc f_J6_numberOfTrailingZeros_0f7a4 (nx := 76) rfl rfl rfl rfl ?_
                  refine ev_ic f_J6_numberOfTrailingZeros_0f7a4 (nx := 77) (v := 1) rfl (by decide) rfl ?_
                  refine ev_anyI f_J6_numberOfTrailingZeros_0f7a4 (nx := 78) rfl rfl rfl rfl (fun z166 => ?_)
                  refine ev_anyI f_J6_numberOfTrailingZeros_0f7a4 (nx := 79) rfl rfl rfl rfl (fun z167 => ?_)
                  refine ev_retK1 f_J6_numberOfTrailingZeros_0f7a4 rfl rfl rfl ?_
                  refine ev_retK1 f_J13_numberOfTrailingZeros_95d88 rfl rfl rfl ?_
                  refine ev_inV2 f_X11_silent (nx := 44) (lo2 := [(0, .ref 0), (1, .int z167)]) rfl rfl rfl rfl f_X11_answer (hI.wf.s rfl) rfl rfl rfl rfl rfl ?_
                  refine ev_loc f_X11_answer (nx := 1) rfl rfl rfl rfl ?_
                  refine ev_ic f_X11_answer (nx := 2) (v := 0) rfl (by decide) rfl ?_
                  refine ev_putIT f_X11_answer (nx := 5) rfl (hI.wf.s rfl) rfl rfl rfl (hI.put0 (hI.wf.s rfl) rfl rfl) (hX.upI rfl) (fun g168 e168 hI hX => ?_)
                  refine ev_loc f_X11_answer (nx := 6) rfl rfl rfl rfl ?_
                  refine ev_retK1 f_X11_answer rfl rfl rfl ?_
                  exact ev_ret f_X11_silent rfl rfl rfl ⟨_, _, _, rfl, hI, hX, ⟨_, rfl, (t_lo z167), (t_hi z167), (show (g168 0 0).toInt = 0 from (by have ffs : (g168 0 0).toInt = 0 := (congrArg Int32.toInt (by rw [e168]; exact x_up2_at _ _ _ _ : g168 0 0 = 0)).trans (by decide); omega))⟩⟩
              · have l169 : 17 ≤ z150.toInt := t_ltl (t_nle h157) (by decide : (16:Int) ≤ (16:Int32).toInt) rfl
                refine ev_incv f_J6_numberOfTrailingZeros_0f7a4 (nx := 58) (c := 4) (w := 5) (lo' := [(1, .int 5), (0, .int z150)]) rfl rfl (by decide) (by decide) rfl rfl rfl ?_
                refine ev_loc f_J6_numberOfTrailingZeros_0f7a4 (nx := 59) rfl rfl rfl rfl ?_
                refine ev_ic f_J6_numberOfTrailingZeros_0f7a4 (nx := 60) (v := 4) rfl (by decide) rfl ?_
                refine ev_anyI f_J6_numberOfTrailingZeros_0f7a4 (nx := 61) rfl rfl rfl rfl (fun z170 => ?_)
                refine ev_loc f_J6_numberOfTrailingZeros_0f7a4 (nx := 62) (lo' := [(0, .int z170), (1, .int 5)]) rfl rfl rfl rfl ?_
                refine ev_loc f_J6_numberOfTrailingZeros_0f7a4 (nx := 63) rfl rfl rfl rfl ?_
                refine ev_ic f_J6_numberOfTrailingZeros_0f7a4 (nx := 64) (v := 4) rfl (by decide) rfl ?_
                refine ev_if f_J6_numberOfTrailingZeros_0f7a4 (t1 := 74) (t2 := 67) rfl rfl rfl (fun h171 => ?_) (fun h171 => ?_)
                · have u172 : z170.toInt ≤ 4 := t_leu h171 (by decide : (4:Int32).toInt ≤ (4:Int))
                  refine ev_loc f_J6_numberOfTrailingZeros_0f7a4 (nx := 75) rfl rfl rfl rfl ?_
                  refine ev_loc f_J6_numberOfTrailingZeros_0f7a4 (nx := 76) rfl rfl rfl rfl ?_
                  refine ev_ic f_J6_numberOfTrailingZeros_0f7a4 (nx := 77) (v := 1) rfl (by decide) rfl ?_
                  refine ev_anyI f_J6_numberOfTrailingZeros_0f7a4 (nx := 78) rfl rfl rfl rfl (fun z173 => ?_)
                  refine ev_anyI f_J6_numberOfTrailingZeros_0f7a4 (nx := 79) rfl rfl rfl rfl (fun z174 => ?_)
                  refine ev_retK1 f_J6_numberOfTrailingZeros_0f7a4 rfl rfl rfl ?_
                  refine ev_retK1 f_J13_numberOfTrailingZeros_95d88 rfl rfl rfl ?_
                  refine ev_inV2 f_X11_silent (nx := 44) (lo2 := [(0, .ref 0), (1, .int z174)]) rfl rfl rfl rfl f_X11_answer (hI.wf.s rfl) rfl rfl rfl rfl rfl ?_
                  refine ev_loc f_X11_answer (nx := 1) rfl rfl rfl rfl ?_
                  refine ev_ic f_X11_answer (nx := 2) (v := 0) rfl (by decide) rfl ?_
                  refine ev_putIT f_X11_answer (nx := 5) rfl (hI.wf.s rfl) rfl rfl rfl (hI.put0 (hI.wf.s rfl) rfl rfl) (hX.upI rfl) (fun g175 e175 hI hX => ?_)
                  refine ev_loc f_X11_answer (nx := 6) rfl rfl rfl rfl ?_
                  refine ev_retK1 f_X11_answer rfl rfl rfl ?_
                  exact ev_ret f_X11_silent rfl rfl rfl ⟨_, _, _, rfl, hI, hX, ⟨_, rfl, (t_lo z174), (t_hi z174), (show (g175 0 0).toInt = 0 from (by have ffs : (g175 0 0).toInt = 0 := (congrArg Int32.toInt (by rw [e175]; exact x_up2_at _ _ _ _ : g175 0 0 = 0)).trans (by decide); omega))⟩⟩
                · have l176 : 5 ≤ z170.toInt := t_ltl (t_nle h171) (by decide : (4:Int) ≤ (4:Int32).toInt) rfl
                  refine ev_incv f_J6_numberOfTrailingZeros_0f7a4 (nx := 70) (c := 2) (w := 7) (lo' := [(1, .int 7), (0, .int z170)]) rfl rfl (by decide) (by decide) rfl rfl rfl ?_
                  refine ev_loc f_J6_numberOfTrailingZeros_0f7a4 (nx := 71) rfl rfl rfl rfl ?_
                  refine ev_ic f_J6_numberOfTrailingZeros_0f7a4 (nx := 72) (v := 2) rfl (by decide) rfl ?_
                  refine ev_anyI f_J6_numberOfTrailingZeros_0f7a4 (nx := 73) rfl rfl rfl rfl (fun z177 => ?_)
                  refine ev_loc f_J6_numberOfTrailingZeros_0f7a4 (nx := 74) (lo' := [(0, .int z177), (1, .int 7)]) rfl rfl rfl rfl ?_
                  refine ev_loc f_J6_numberOfTrailingZeros_0f7a4 (nx := 75) rfl rfl rfl rfl ?_
                  refine ev_loc f_J6_numberOfTrailingZeros_0f7a4 (nx := 76) rfl rfl rfl rfl ?_
                  refine ev_ic f_J6_numberOfTrailingZeros_0f7a4 (nx := 77) (v := 1) rfl (by decide) rfl ?_
                  refine ev_anyI f_J6_numberOfTrailingZeros_0f7a4 (nx := 78) rfl rfl rfl rfl (fun z178 => ?_)
                  refine ev_anyI f_J6_numberOfTrailingZeros_0f7a4 (nx := 79) rfl rfl rfl rfl (fun z179 => ?_)
                  refine ev_retK1 f_J6_numberOfTrailingZeros_0f7a4 rfl rfl rfl ?_
                  refine ev_retK1 f_J13_numberOfTrailingZeros_95d88 rfl rfl rfl ?_
                  refine ev_inV2 f_X11_silent (nx := 44) (lo2 := [(0, .ref 0), (1, .int z179)]) rfl rfl rfl rfl f_X11_answer (hI.wf.s rfl) rfl rfl rfl rfl rfl ?_
                  refine ev_loc f_X11_answer (nx := 1) rfl rfl rfl rfl ?_
                  refine ev_ic f_X11_answer (nx := 2) (v := 0) rfl (by decide) rfl ?_
                  refine ev_putIT f_X11_answer (nx := 5) rfl (hI.wf.s rfl) rfl rfl rfl (hI.put0 (hI.wf.s rfl) rfl rfl) (hX.upI rfl) (fun g180 e180 hI hX => ?_)
                  refine ev_loc f_X11_answer (nx := 6) rfl rfl rfl rfl ?_
                  refine ev_retK1 f_X11_answer rfl rfl rfl ?_
                  exact ev_ret f_X11_silent rfl rfl rfl ⟨_, _, _, rfl, hI, hX, ⟨_, rfl, (t_lo z179), (t_hi z179), (show (g180 0 0).toInt = 0 from (by have ffs : (g180 0 0).toInt = 0 := (congrArg Int32.toInt (by rw [e180]; exact x_up2_at _ _ _ _ : g180 0 0 = 0)).trans (by decide); omega))⟩⟩
            · have l181 : 257 ≤ z150.toInt := t_ltl (t_nle h155) (by decide : (256:Int) ≤ (256:Int32).toInt) rfl
              refine ev_incv f_J6_numberOfTrailingZeros_0f7a4 (nx := 44) (c := 8) (w := 9) (lo' := [(1, .int 9), (0, .int z150)]) rfl rfl (by decide) (by decide) rfl rfl rfl ?_
              refine ev_loc f_J6_numberOfTrailingZeros_0f7a4 (nx := 45) rfl rfl rfl rfl ?_
              refine ev_bp f_J6_numberOfTrailingZeros_0f7a4 (nx := 47) (v := 8) rfl (by decide) rfl ?_
              refine ev_anyI f_J6_numberOfTrailingZeros_0f7a4 (nx := 48) rfl rfl rfl rfl (fun z182 => ?_)
              refine ev_loc f_J6_numberOfTrailingZeros_0f7a4 (nx := 49) (lo' := [(0, .int z182), (1, .int 9)]) rfl rfl rfl rfl ?_
              refine ev_loc f_J6_numberOfTrailingZeros_0f7a4 (nx := 50) rfl rfl rfl rfl ?_
              refine ev_bp f_J6_numberOfTrailingZeros_0f7a4 (nx := 52) (v := 16) rfl (by decide) rfl ?_
              refine ev_if f_J6_numberOfTrailingZeros_0f7a4 (t1 := 62) (t2 := 55) rfl rfl rfl (fun h183 => ?_) (fun h183 => ?_)
              · have u184 : z182.toInt ≤ 16 := t_leu h183 (by decide : (16:Int32).toInt ≤ (16:Int))
                refine ev_loc f_J6_numberOfTrailingZeros_0f7a4 (nx := 63) rfl rfl rfl rfl ?_
                refine ev_ic f_J6_numberOfTrailingZeros_0f7a4 (nx := 64) (v := 4) rfl (by decide) rfl ?_
                refine ev_if f_J6_numberOfTrailingZeros_0f7a4 (t1 := 74) (t2 := 67) rfl rfl rfl (fun h185 => ?_) (fun h185 => ?_)
                · have u186 : z182.toInt ≤ 4 := t_leu h185 (by decide : (4:Int32).toInt ≤ (4:Int))
                  refine ev_loc f_J6_numberOfTrailingZeros_0f7a4 (nx := 75) rfl rfl rfl rfl ?_
                  refine ev_loc f_J6_numberOfTrailingZeros_0f7a4 (nx := 76) rfl rfl rfl rfl ?_
                  refine ev_ic f_J6_numberOfTrailingZeros_0f7a4 (nx := 77) (v := 1) rfl (by decide) rfl ?_
                  refine ev_anyI f_J6_numberOfTrailingZeros_0f7a4 (nx := 78) rfl rfl rfl rfl (fun z187 => ?_)
                  refine ev_anyI f_J6_numberOfTrailingZeros_0f7a4 (nx := 79) rfl rfl rfl rfl (fun z188 => ?_)
                  refine ev_retK1 f_J6_numberOfTrailingZeros_0f7a4 rfl rfl rfl ?_
                  refine ev_retK1 f_J13_numberOfTrailingZeros_95d88 rfl rfl rfl ?_
                  refine ev_inV2 f_X11_silent (nx := 44) (lo2 := [(0, .ref 0), (1, .int z188)]) rfl rfl rfl rfl f_X11_answer (hI.wf.s rfl) rfl rfl rfl rfl rfl ?_
                  refine ev_loc f_X11_answer (nx := 1) rfl rfl rfl rfl ?_
                  refine ev_ic f_X11_answer (nx := 2) (v := 0) rfl (by decide) rfl ?_
                  refine ev_putIT f_X11_answer (nx := 5) rfl (hI.wf.s rfl) rfl rfl rfl (hI.put0 (hI.wf.s rfl) rfl rfl) (hX.upI rfl) (fun g189 e189 hI hX => ?_)
                  refine ev_loc f_X11_answer (nx := 6) rfl rfl rfl rfl ?_
                  refine ev_retK1 f_X11_answer rfl rfl rfl ?_
                  exact ev_ret f_X11_silent rfl rfl rfl ⟨_, _, _, rfl, hI, hX, ⟨_, rfl, (t_lo z188), (t_hi z188), (show (g189 0 0).toInt = 0 from (by have ffs : (g189 0 0).toInt = 0 := (congrArg Int32.toInt (by rw [e189]; exact x_up2_at _ _ _ _ : g189 0 0 = 0)).trans (by decide); omega))⟩⟩
                · have l190 : 5 ≤ z182.toInt := t_ltl (t_nle h185) (by decide : (4:Int) ≤ (4:Int32).toInt) rfl
                  refine ev_incv f_J6_numberOfTrailingZeros_0f7a4 (nx := 70) (c := 2) (w := 11) (lo' := [(1, .int 11), (0, .int z182)]) rfl rfl (by decide) (by decide) rfl rfl rfl ?_
                  refine ev_loc f_J6_numberOfTrailingZeros_0f7a4 (nx := 71) rfl rfl rfl rfl ?_
                  refine ev_ic f_J6_numberOfTrailingZeros_0f7a4 (nx := 72) (v := 2) rfl (by decide) rfl ?_
                  refine ev_anyI f_J6_numberOfTrailingZeros_0f7a4 (nx := 73) rfl rfl rfl rfl (fun z191 => ?_)
                  refine ev_loc f_J6_numberOfTrailingZeros_0f7a4 (nx := 74) (lo' := [(0, .int z191), (1, .int 11)]) rfl rfl rfl rfl ?_
                  refine ev_loc f_J6_numberOfTrailingZeros_0f7a4 (nx := 75) rfl rfl rfl rfl ?_
                  refine ev_loc f_J6_numberOfTrailingZeros_0f7a4 (nx := 76) rfl rfl rfl rfl ?_
                  refine ev_ic f_J6_numberOfTrailingZeros_0f7a4 (nx := 77) (v := 1) rfl (by decide) rfl ?_
                  refine ev_anyI f_J6_numberOfTrailingZeros_0f7a4 (nx := 78) rfl rfl rfl rfl (fun z192 => ?_)
                  refine ev_anyI f_J6_numberOfTrailingZeros_0f7a4 (nx := 79) rfl rfl rfl rfl (fun z193 => ?_)
                  refine ev_retK1 f_J6_numberOfTrailingZeros_0f7a4 rfl rfl rfl ?_
                  refine ev_retK1 f_J13_numberOfTrailingZeros_95d88 rfl rfl rfl ?_
                  refine ev_inV2 f_X11_silent (nx := 44) (lo2 := [(0, .ref 0), (1, .int z193)]) rfl rfl rfl rfl f_X11_answer (hI.wf.s rfl) rfl rfl rfl rfl rfl ?_
                  refine ev_loc f_X11_answer (nx := 1) rfl rfl rfl rfl ?_
                  refine ev_ic f_X11_answer (nx := 2) (v := 0) rfl (by decide) rfl ?_
                  refine ev_putIT f_X11_answer (nx := 5) rfl (hI.wf.s rfl) rfl rfl rfl (hI.put0 (hI.wf.s rfl) rfl rfl) (hX.upI rfl) (fun g194 e194 hI hX => ?_)
                  refine ev_loc f_X11_answer (nx := 6) rfl rfl rfl rfl ?_
                  refine ev_retK1 f_X11_answer rfl rfl rfl ?_
                  exact ev_ret f_X11_silent rfl rfl rfl ⟨_, _, _, rfl, hI, hX, ⟨_, rfl, (t_lo z193), (t_hi z193), (show (g194 0 0).toInt = 0 from (by have ffs : (g194 0 0).toInt = 0 := (congrArg Int32.toInt (by rw [e194]; exact x_up2_at _ _ _ _ : g194 0 0 = 0)).trans (by decide); omega))⟩⟩
              · have l195 : 17 ≤ z182.toInt := t_ltl (t_nle h183) (by decide : (16:Int) ≤ (16:Int32).toInt) rfl
                refine ev_incv f_J6_numberOfTrailingZeros_0f7a4 (nx := 58) (c := 4) (w := 13) (lo' := [(1, .int 13), (0, .int z182)]) rfl rfl (by decide) (by decide) rfl rfl rfl ?_
                refine ev_loc f_J6_numberOfTrailingZeros_0f7a4 (nx := 59) rfl rfl rfl rfl ?_
                refine ev_ic f_J6_numberOfTrailingZeros_0f7a4 (nx := 60) (v := 4) rfl (by decide) rfl ?_
                refine ev_anyI f_J6_numberOfTrailingZeros_0f7a4 (nx := 61) rfl rfl rfl rfl (fun z196 => ?_)
                refine ev_loc f_J6_numberOfTrailingZeros_0f7a4 (nx := 62) (lo' := [(0, .int z196), (1, .int 13)]) rfl rfl rfl rfl ?_
                refine ev_loc f_J6_numberOfTrailingZeros_0f7a4 (nx := 63) rfl rfl rfl rfl ?_
                refine ev_ic f_J6_numberOfTrailingZeros_0f7a4 (nx := 64) (v := 4) rfl (by decide) rfl ?_
                refine ev_if f_J6_numberOfTrailingZeros_0f7a4 (t1 := 74) (t2 := 67) rfl rfl rfl (fun h197 => ?_) (fun h197 => ?_)
                · have u198 : z196.toInt ≤ 4 := t_leu h197 (by decide : (4:Int32).toInt ≤ (4:Int))
                  refine ev_loc f_J6_numberOfTrailingZeros_0f7a4 (nx := 75) rfl rfl rfl rfl ?_
                  refine ev_loc f_J6_numberOfTrailingZeros_0f7a4 (nx := 76) rfl rfl rfl rfl ?_
                  refine ev_ic f_J6_numberOfTrailingZeros_0f7a4 (nx := 77) (v := 1) rfl (by decide) rfl ?_
                  refine ev_anyI f_J6_numberOfTrailingZeros_0f7a4 (nx := 78) rfl rfl rfl rfl (fun z199 => ?_)
                  refine ev_anyI f_J6_numberOfTrailingZeros_0f7a4 (nx := 79) rfl rfl rfl rfl (fun z200 => ?_)
                  refine ev_retK1 f_J6_numberOfTrailingZeros_0f7a4 rfl rfl rfl ?_
                  refine ev_retK1 f_J13_numberOfTrailingZeros_95d88 rfl rfl rfl ?_
                  refine ev_inV2 f_X11_silent (nx := 44) (lo2 := [(0, .ref 0), (1, .int z200)]) rfl rfl rfl rfl f_X11_answer (hI.wf.s rfl) rfl rfl rfl rfl rfl ?_
                  refine ev_loc f_X11_answer (nx := 1) rfl rfl rfl rfl ?_
                  refine ev_ic f_X11_answer (nx := 2) (v := 0) rfl (by decide) rfl ?_
                  refine ev_putIT f_X11_answer (nx := 5) rfl (hI.wf.s rfl) rfl rfl rfl (hI.put0 (hI.wf.s rfl) rfl rfl) (hX.upI rfl) (fun g201 e201 hI hX => ?_)
                  refine ev_loc f_X11_answer (nx := 6) rfl rfl rfl rfl ?_
                  refine ev_retK1 f_X11_answer rfl rfl rfl ?_
                  exact ev_ret f_X11_silent rfl rfl rfl ⟨_, _, _, rfl, hI, hX, ⟨_, rfl, (t_lo z200), (t_hi z200), (show (g201 0 0).toInt = 0 from (by have ffs : (g201 0 0).toInt = 0 := (congrArg Int32.toInt (by rw [e201]; exact x_up2_at _ _ _ _ : g201 0 0 = 0)).trans (by decide); omega))⟩⟩
                · have l202 : 5 ≤ z196.toInt := t_ltl (t_nle h197) (by decide : (4:Int) ≤ (4:Int32).toInt) rfl
                  refine ev_incv f_J6_numberOfTrailingZeros_0f7a4 (nx := 70) (c := 2) (w := 15) (lo' := [(1, .int 15), (0, .int z196)]) rfl rfl (by decide) (by decide) rfl rfl rfl ?_
                  refine ev_loc f_J6_numberOfTrailingZeros_0f7a4 (nx := 71) rfl rfl rfl rfl ?_
                  refine ev_ic f_J6_numberOfTrailingZeros_0f7a4 (nx := 72) (v := 2) rfl (by decide) rfl ?_
                  refine ev_anyI f_J6_numberOfTrailingZeros_0f7a4 (nx := 73) rfl rfl rfl rfl (fun z203 => ?_)
                  refine ev_loc f_J6_numberOfTrailingZeros_0f7a4 (nx := 74) (lo' := [(0, .int z203), (1, .int 15)]) rfl rfl rfl rfl ?_
                  refine ev_loc f_J6_numberOfTrailingZeros_0f7a4 (nx := 75) rfl rfl rfl rfl ?_
                  refine ev_loc f_J6_numberOfTrailingZeros_0f7a4 (nx := 76) rfl rfl rfl rfl ?_
                  refine ev_ic f_J6_numberOfTrailingZeros_0f7a4 (nx := 77) (v := 1) rfl (by decide) rfl ?_
                  refine ev_anyI f_J6_numberOfTrailingZeros_0f7a4 (nx := 78) rfl rfl rfl rfl (fun z204 => ?_)
                  refine ev_anyI f_J6_numberOfTrailingZeros_0f7a4 (nx := 79) rfl rfl rfl rfl (fun z205 => ?_)
                  refine ev_retK1 f_J6_numberOfTrailingZeros_0f7a4 rfl rfl rfl ?_
                  refine ev_retK1 f_J13_numberOfTrailingZeros_95d88 rfl rfl rfl ?_
                  refine ev_inV2 f_X11_silent (nx := 44) (lo2 := [(0, .ref 0), (1, .int z205)]) rfl rfl rfl rfl f_X11_answer (hI.wf.s rfl) rfl rfl rfl rfl rfl ?_
                  refine ev_loc f_X11_answer (nx := 1) rfl rfl rfl rfl ?_
                  refine ev_ic f_X11_answer (nx := 2) (v := 0) rfl (by decide) rfl ?_
                  refine ev_putIT f_X11_answer (nx := 5) rfl (hI.wf.s rfl) rfl rfl rfl (hI.put0 (hI.wf.s rfl) rfl rfl) (hX.upI rfl) (fun g206 e206 hI hX => ?_)
                  refine ev_loc f_X11_answer (nx := 6) rfl rfl rfl rfl ?_
                  refine ev_retK1 f_X11_answer rfl rfl rfl ?_
                  exact ev_ret f_X11_silent rfl rfl rfl ⟨_, _, _, rfl, hI, hX, ⟨_, rfl, (t_lo z205), (t_hi z205), (show (g206 0 0).toInt = 0 from (by have ffs : (g206 0 0).toInt = 0 := (congrArg Int32.toInt (by rw [e206]; exact x_up2_at _ _ _ _ : g206 0 0 = 0)).trans (by decide); omega))⟩⟩
          · have l207 : 65537 ≤ z150.toInt := t_ltl (t_nle h153) (by decide : (65536:Int) ≤ (65536:Int32).toInt) rfl
            refine ev_incv f_J6_numberOfTrailingZeros_0f7a4 (nx := 29) (c := 16) (w := 17) (lo' := [(1, .int 17), (0, .int z150)]) rfl rfl (by decide) (by decide) rfl rfl rfl ?_
            refine ev_loc f_J6_numberOfTrailingZeros_0f7a4 (nx := 30) rfl rfl rfl rfl ?_
            refine ev_bp f_J6_numberOfTrailingZeros_0f7a4 (nx := 32) (v := 16) rfl (by decide) rfl ?_
            refine ev_anyI f_J6_numberOfTrailingZeros_0f7a4 (nx := 33) rfl rfl rfl rfl (fun z208 => ?_)
            refine ev_loc f_J6_numberOfTrailingZeros_0f7a4 (nx := 34) (lo' := [(0, .int z208), (1, .int 17)]) rfl rfl rfl rfl ?_
            refine ev_loc f_J6_numberOfTrailingZeros_0f7a4 (nx := 35) rfl rfl rfl rfl ?_
            refine ev_sp f_J6_numberOfTrailingZeros_0f7a4 (nx := 38) (v := 256) rfl (by decide) rfl ?_
            refine ev_if f_J6_numberOfTrailingZeros_0f7a4 (t1 := 49) (t2 := 41) rfl rfl rfl (fun h209 => ?_) (fun h209 => ?_)
            · have u210 : z208.toInt ≤ 256 := t_leu h209 (by decide : (256:Int32).toInt ≤ (256:Int))
              refine ev_loc f_J6_numberOfTrailingZeros_0f7a4 (nx := 50) rfl rfl rfl rfl ?_
              refine ev_bp f_J6_numberOfTrailingZeros_0f7a4 (nx := 52) (v := 16) rfl (by decide) rfl ?_
              refine ev_if f_J6_numberOfTrailingZeros_0f7a4 (t1 := 62) (t2 := 55) rfl rfl rfl (fun h211 => ?_) (fun h211 => ?_)
              · have u212 : z208.toInt ≤ 16 := t_leu h211 (by decide : (16:Int32).toInt ≤ (16:Int))
                refine ev_loc f_J6_numberOfTrailingZeros_0f7a4 (nx := 63) rfl rfl rfl rfl ?_
                refine ev_ic f_J6_numberOfTrailingZeros_0f7a4 (nx := 64) (v := 4) rfl (by decide) rfl ?_
                refine ev_if f_J6_numberOfTrailingZeros_0f7a4 (t1 := 74) (t2 := 67) rfl rfl rfl (fun h213 => ?_) (fun h213 => ?_)
                · have u214 : z208.toInt ≤ 4 := t_leu h213 (by decide : (4:Int32).toInt ≤ (4:Int))
                  refine ev_loc f_J6_numberOfTrailingZeros_0f7a4 (nx := 75) rfl rfl rfl rfl ?_
                  refine ev_loc f_J6_numberOfTrailingZeros_0f7a4 (nx := 76) rfl rfl rfl rfl ?_
                  refine ev_ic f_J6_numberOfTrailingZeros_0f7a4 (nx := 77) (v := 1) rfl (by decide) rfl ?_
                  refine ev_anyI f_J6_numberOfTrailingZeros_0f7a4 (nx := 78) rfl rfl rfl rfl (fun z215 => ?_)
                  refine ev_anyI f_J6_numberOfTrailingZeros_0f7a4 (nx := 79) rfl rfl rfl rfl (fun z216 => ?_)
                  refine ev_retK1 f_J6_numberOfTrailingZeros_0f7a4 rfl rfl rfl ?_
                  refine ev_retK1 f_J13_numberOfTrailingZeros_95d88 rfl rfl rfl ?_
                  refine ev_inV2 f_X11_silent (nx := 44) (lo2 := [(0, .ref 0), (1, .int z216)]) rfl rfl rfl rfl f_X11_answer (hI.wf.s rfl) rfl rfl rfl rfl rfl ?_
                  refine ev_loc f_X11_answer (nx := 1) rfl rfl rfl rfl ?_
                  refine ev_ic f_X11_answer (nx := 2) (v := 0) rfl (by decide) rfl ?_
                  refine ev_putIT f_X11_answer (nx := 5) rfl (hI.wf.s rfl) rfl rfl rfl (hI.put0 (hI.wf.s rfl) rfl rfl) (hX.upI rfl) (fun g217 e217 hI hX => ?_)
                  refine ev_loc f_X11_answer (nx := 6) rfl rfl rfl rfl ?_
                  refine ev_retK1 f_X11_answer rfl rfl rfl ?_
                  exact ev_ret f_X11_silent rfl rfl rfl ⟨_, _, _, rfl, hI, hX, ⟨_, rfl, (t_lo z216), (t_hi z216), (show (g217 0 0).toInt = 0 from (by have ffs : (g217 0 0).toInt = 0 := (congrArg Int32.toInt (by rw [e217]; exact x_up2_at _ _ _ _ : g217 0 0 = 0)).trans (by decide); omega))⟩⟩
                · have l218 : 5 ≤ z208.toInt := t_ltl (t_nle h213) (by decide : (4:Int) ≤ (4:Int32).toInt) rfl
                  refine ev_incv f_J6_numberOfTrailingZeros_0f7a4 (nx := 70) (c := 2) (w := 19) (lo' := [(1, .int 19), (0, .int z208)]) rfl rfl (by decide) (by decide) rfl rfl rfl ?_
                  refine ev_loc f_J6_numberOfTrailingZeros_0f7a4 (nx := 71) rfl rfl rfl rfl ?_
                  refine ev_ic f_J6_numberOfTrailingZeros_0f7a4 (nx := 72) (v := 2) rfl (by decide) rfl ?_
                  refine ev_anyI f_J6_numberOfTrailingZeros_0f7a4 (nx := 73) rfl rfl rfl rfl (fun z219 => ?_)
                  refine ev_loc f_J6_numberOfTrailingZeros_0f7a4 (nx := 74) (lo' := [(0, .int z219), (1, .int 19)]) rfl rfl rfl rfl ?_
                  refine ev_loc f_J6_numberOfTrailingZeros_0f7a4 (nx := 75) rfl rfl rfl rfl ?_
                  refine ev_loc f_J6_numberOfTrailingZeros_0f7a4 (nx := 76) rfl rfl rfl rfl ?_
                  refine ev_ic f_J6_numberOfTrailingZeros_0f7a4 (nx := 77) (v := 1) rfl (by decide) rfl ?_
                  refine ev_anyI f_J6_numberOfTrailingZeros_0f7a4 (nx := 78) rfl rfl rfl rfl (fun z220 => ?_)
                  refine ev_anyI f_J6_numberOfTrailingZeros_0f7a4 (nx := 79) rfl rfl rfl rfl (fun z221 => ?_)
                  refine ev_retK1 f_J6_numberOfTrailingZeros_0f7a4 rfl rfl rfl ?_
                  refine ev_retK1 f_J13_numberOfTrailingZeros_95d88 rfl rfl rfl ?_
                  refine ev_inV2 f_X11_silent (nx := 44) (lo2 := [(0, .ref 0), (1, .int z221)]) rfl rfl rfl rfl f_X11_answer (hI.wf.s rfl) rfl rfl rfl rfl rfl ?_
                  refine ev_loc f_X11_answer (nx := 1) rfl rfl rfl rfl ?_
                  refine ev_ic f_X11_answer (nx := 2) (v := 0) rfl (by decide) rfl ?_
                  refine ev_putIT f_X11_answer (nx := 5) rfl (hI.wf.s rfl) rfl rfl rfl (hI.put0 (hI.wf.s rfl) rfl rfl) (hX.upI rfl) (fun g222 e222 hI hX => ?_)
                  refine ev_loc f_X11_answer (nx := 6) rfl rfl rfl rfl ?_
                  refine ev_retK1 f_X11_answer rfl rfl rfl ?_
                  exact ev_ret f_X11_silent rfl rfl rfl ⟨_, _, _, rfl, hI, hX, ⟨_, rfl, (t_lo z221), (t_hi z221), (show (g222 0 0).toInt = 0 from (by have ffs : (g222 0 0).toInt = 0 := (congrArg Int32.toInt (by rw [e222]; exact x_up2_at _ _ _ _ : g222 0 0 = 0)).trans (by decide); omega))⟩⟩
              · have l223 : 17 ≤ z208.toInt := t_ltl (t_nle h211) (by decide : (16:Int) ≤ (16:Int32).toInt) rfl
                refine ev_incv f_J6_numberOfTrailingZeros_0f7a4 (nx := 58) (c := 4) (w := 21) (lo' := [(1, .int 21), (0, .int z208)]) rfl rfl (by decide) (by decide) rfl rfl rfl ?_
                refine ev_loc f_J6_numberOfTrailingZeros_0f7a4 (nx := 59) rfl rfl rfl rfl ?_
                refine ev_ic f_J6_numberOfTrailingZeros_0f7a4 (nx := 60) (v := 4) rfl (by decide) rfl ?_
                refine ev_anyI f_J6_numberOfTrailingZeros_0f7a4 (nx := 61) rfl rfl rfl rfl (fun z224 => ?_)
                refine ev_loc f_J6_numberOfTrailingZeros_0f7a4 (nx := 62) (lo' := [(0, .int z224), (1, .int 21)]) rfl rfl rfl rfl ?_
                refine ev_loc f_J6_numberOfTrailingZeros_0f7a4 (nx := 63) rfl rfl rfl rfl ?_
                refine ev_ic f_J6_numberOfTrailingZeros_0f7a4 (nx := 64) (v := 4) rfl (by decide) rfl ?_
                refine ev_if f_J6_numberOfTrailingZeros_0f7a4 (t1 := 74) (t2 := 67) rfl rfl rfl (fun h225 => ?_) (fun h225 => ?_)
                · have u226 : z224.toInt ≤ 4 := t_leu h225 (by decide : (4:Int32).toInt ≤ (4:Int))
                  refine ev_loc f_J6_numberOfTrailingZeros_0f7a4 (nx := 75) rfl rfl rfl rfl ?_
                  refine ev_loc f_J6_numberOfTrailingZeros_0f7a4 (nx := 76) rfl rfl rfl rfl ?_
                  refine ev_ic f_J6_numberOfTrailingZeros_0f7a4 (nx := 77) (v := 1) rfl (by decide) rfl ?_
                  refine ev_anyI f_J6_numberOfTrailingZeros_0f7a4 (nx := 78) rfl rfl rfl rfl (fun z227 => ?_)
                  refine ev_anyI f_J6_numberOfTrailingZeros_0f7a4 (nx := 79) rfl rfl rfl rfl (fun z228 => ?_)
                  refine ev_retK1 f_J6_numberOfTrailingZeros_0f7a4 rfl rfl rfl ?_
                  refine ev_retK1 f_J13_numberOfTrailingZeros_95d88 rfl rfl rfl ?_
                  refine ev_inV2 f_X11_silent (nx := 44) (lo2 := [(0, .ref 0), (1, .int z228)]) rfl rfl rfl rfl f_X11_answer (hI.wf.s rfl) rfl rfl rfl rfl rfl ?_
                  refine ev_loc f_X11_answer (nx := 1) rfl rfl rfl rfl ?_
                  refine ev_ic f_X11_answer (nx := 2) (v := 0) rfl (by decide) rfl ?_
                  refine ev_putIT f_X11_answer (nx := 5) rfl (hI.wf.s rfl) rfl rfl rfl (hI.put0 (hI.wf.s rfl) rfl rfl) (hX.upI rfl) (fun g229 e229 hI hX => ?_)
                  refine ev_loc f_X11_answer (nx := 6) rfl rfl rfl rfl ?_
                  refine ev_retK1 f_X11_answer rfl rfl rfl ?_
                  exact ev_ret f_X11_silent rfl rfl rfl ⟨_, _, _, rfl, hI, hX, ⟨_, rfl, (t_lo z228), (t_hi z228), (show (g229 0 0).toInt = 0 from (by have ffs : (g229 0 0).toInt = 0 := (congrArg Int32.toInt (by rw [e229]; exact x_up2_at _ _ _ _ : g229 0 0 = 0)).trans (by decide); omega))⟩⟩
                · have l230 : 5 ≤ z224.toInt := t_ltl (t_nle h225) (by decide : (4:Int) ≤ (4:Int32).toInt) rfl
                  refine ev_incv f_J6_numberOfTrailingZeros_0f7a4 (nx := 70) (c := 2) (w := 23) (lo' := [(1, .int 23), (0, .int z224)]) rfl rfl (by decide) (by decide) rfl rfl rfl ?_
                  refine ev_loc f_J6_numberOfTrailingZeros_0f7a4 (nx := 71) rfl rfl rfl rfl ?_
                  refine ev_ic f_J6_numberOfTrailingZeros_0f7a4 (nx := 72) (v := 2) rfl (by decide) rfl ?_
                  refine ev_anyI f_J6_numberOfTrailingZeros_0f7a4 (nx := 73) rfl rfl rfl rfl (fun z231 => ?_)
                  refine ev_loc f_J6_numberOfTrailingZeros_0f7a4 (nx := 74) (lo' := [(0, .int z231), (1, .int 23)]) rfl rfl rfl rfl ?_
                  refine ev_loc f_J6_numberOfTrailingZeros_0f7a4 (nx := 75) rfl rfl rfl rfl ?_
                  refine ev_loc f_J6_numberOfTrailingZeros_0f7a4 (nx := 76) rfl rfl rfl rfl ?_
                  refine ev_ic f_J6_numberOfTrailingZeros_0f7a4 (nx := 77) (v := 1) rfl (by decide) rfl ?_
                  refine ev_anyI f_J6_numberOfTrailingZeros_0f7a4 (nx := 78) rfl rfl rfl rfl (fun z232 => ?_)
                  refine ev_anyI f_J6_numberOfTrailingZeros_0f7a4 (nx := 79) rfl rfl rfl rfl (fun z233 => ?_)
                  refine ev_retK1 f_J6_numberOfTrailingZeros_0f7a4 rfl rfl rfl ?_
                  refine ev_retK1 f_J13_numberOfTrailingZeros_95d88 rfl rfl rfl ?_
                  refine ev_inV2 f_X11_silent (nx := 44) (lo2 := [(0, .ref 0), (1, .int z233)]) rfl rfl rfl rfl f_X11_answer (hI.wf.s rfl) rfl rfl rfl rfl rfl ?_
                  refine ev_loc f_X11_answer (nx := 1) rfl rfl rfl rfl ?_
                  refine ev_ic f_X11_answer (nx := 2) (v := 0) rfl (by decide) rfl ?_
                  refine ev_putIT f_X11_answer (nx := 5) rfl (hI.wf.s rfl) rfl rfl rfl (hI.put0 (hI.wf.s rfl) rfl rfl) (hX.upI rfl) (fun g234 e234 hI hX => ?_)
                  refine ev_loc f_X11_answer (nx := 6) rfl rfl rfl rfl ?_
                  refine ev_retK1 f_X11_answer rfl rfl rfl ?_
                  exact ev_ret f_X11_silent rfl rfl rfl ⟨_, _, _, rfl, hI, hX, ⟨_, rfl, (t_lo z233), (t_hi z233), (show (g234 0 0).toInt = 0 from (by have ffs : (g234 0 0).toInt = 0 := (congrArg Int32.toInt (by rw [e234]; exact x_up2_at _ _ _ _ : g234 0 0 = 0)).trans (by decide); omega))⟩⟩
            · have l235 : 257 ≤ z208.toInt := t_ltl (t_nle h209) (by decide : (256:Int) ≤ (256:Int32).toInt) rfl
              refine ev_incv f_J6_numberOfTrailingZeros_0f7a4 (nx := 44) (c := 8) (w := 25) (lo' := [(1, .int 25), (0, .int z208)]) rfl rfl (by decide) (by decide) rfl rfl rfl ?_
              refine ev_loc f_J6_numberOfTrailingZeros_0f7a4 (nx := 45) rfl rfl rfl rfl ?_
              refine ev_bp f_J6_numberOfTrailingZeros_0f7a4 (nx := 47) (v := 8) rfl (by decide) rfl ?_
              refine ev_anyI f_J6_numberOfTrailingZeros_0f7a4 (nx := 48) rfl rfl rfl rfl (fun z236 => ?_)
              refine ev_loc f_J6_numberOfTrailingZeros_0f7a4 (nx := 49) (lo' := [(0, .int z236), (1, .int 25)]) rfl rfl rfl rfl ?_
              refine ev_loc f_J6_numberOfTrailingZeros_0f7a4 (nx := 50) rfl rfl rfl rfl ?_
              refine ev_bp f_J6_numberOfTrailingZeros_0f7a4 (nx := 52) (v := 16) rfl (by decide) rfl ?_
              refine ev_if f_J6_numberOfTrailingZeros_0f7a4 (t1 := 62) (t2 := 55) rfl rfl rfl (fun h237 => ?_) (fun h237 => ?_)
              · have u238 : z236.toInt ≤ 16 := t_leu h237 (by decide : (16:Int32).toInt ≤ (16:Int))
                refine ev_loc f_J6_numberOfTrailingZeros_0f7a4 (nx := 63) rfl rfl rfl rfl ?_
                refine ev_ic f_J6_numberOfTrailingZeros_0f7a4 (nx := 64) (v := 4) rfl (by decide) rfl ?_
                refine ev_if f_J6_numberOfTrailingZeros_0f7a4 (t1 := 74) (t2 := 67) rfl rfl rfl (fun h239 => ?_) (fun h239 => ?_)
                · have u240 : z236.toInt ≤ 4 := t_leu h239 (by decide : (4:Int32).toInt ≤ (4:Int))
                  refine ev_loc f_J6_numberOfTrailingZeros_0f7a4 (nx := 75) rfl rfl rfl rfl ?_
                  refine ev_loc f_J6_numberOfTrailingZeros_0f7a4 (nx := 76) rfl rfl rfl rfl ?_
                  refine ev_ic f_J6_numberOfTrailingZeros_0f7a4 (nx := 77) (v := 1) rfl (by decide) rfl ?_
                  refine ev_anyI f_J6_numberOfTrailingZeros_0f7a4 (nx := 78) rfl rfl rfl rfl (fun z241 => ?_)
                  refine ev_anyI f_J6_numberOfTrailingZeros_0f7a4 (nx := 79) rfl rfl rfl rfl (fun z242 => ?_)
                  refine ev_retK1 f_J6_numberOfTrailingZeros_0f7a4 rfl rfl rfl ?_
                  refine ev_retK1 f_J13_numberOfTrailingZeros_95d88 rfl rfl rfl ?_
                  refine ev_inV2 f_X11_silent (nx := 44) (lo2 := [(0, .ref 0), (1, .int z242)]) rfl rfl rfl rfl f_X11_answer (hI.wf.s rfl) rfl rfl rfl rfl rfl ?_
                  refine ev_loc f_X11_answer (nx := 1) rfl rfl rfl rfl ?_
                  refine ev_ic f_X11_answer (nx := 2) (v := 0) rfl (by decide) rfl ?_
                  refine ev_putIT f_X11_answer (nx := 5) rfl (hI.wf.s rfl) rfl rfl rfl (hI.put0 (hI.wf.s rfl) rfl rfl) (hX.upI rfl) (fun g243 e243 hI hX => ?_)
                  refine ev_loc f_X11_answer (nx := 6) rfl rfl rfl rfl ?_
                  refine ev_retK1 f_X11_answer rfl rfl rfl ?_
                  exact ev_ret f_X11_silent rfl rfl rfl ⟨_, _, _, rfl, hI, hX, ⟨_, rfl, (t_lo z242), (t_hi z242), (show (g243 0 0).toInt = 0 from (by have ffs : (g243 0 0).toInt = 0 := (congrArg Int32.toInt (by rw [e243]; exact x_up2_at _ _ _ _ : g243 0 0 = 0)).trans (by decide); omega))⟩⟩
                · have l244 : 5 ≤ z236.toInt := t_ltl (t_nle h239) (by decide : (4:Int) ≤ (4:Int32).toInt) rfl
                  refine ev_incv f_J6_numberOfTrailingZeros_0f7a4 (nx := 70) (c := 2) (w := 27) (lo' := [(1, .int 27), (0, .int z236)]) rfl rfl (by decide) (by decide) rfl rfl rfl ?_
                  refine ev_loc f_J6_numberOfTrailingZeros_0f7a4 (nx := 71) rfl rfl rfl rfl ?_
                  refine ev_ic f_J6_numberOfTrailingZeros_0f7a4 (nx := 72) (v := 2) rfl (by decide) rfl ?_
                  refine ev_anyI f_J6_numberOfTrailingZeros_0f7a4 (nx := 73) rfl rfl rfl rfl (fun z245 => ?_)
                  refine ev_loc f_J6_numberOfTrailingZeros_0f7a4 (nx := 74) (lo' := [(0, .int z245), (1, .int 27)]) rfl rfl rfl rfl ?_
                  refine ev_loc f_J6_numberOfTrailingZeros_0f7a4 (nx := 75) rfl rfl rfl rfl ?_
                  refine ev_loc f_J6_numberOfTrailingZeros_0f7a4 (nx := 76) rfl rfl rfl rfl ?_
                  refine ev_ic f_J6_numberOfTrailingZeros_0f7a4 (nx := 77) (v := 1) rfl (by decide) rfl ?_
                  refine ev_anyI f_J6_numberOfTrailingZeros_0f7a4 (nx := 78) rfl rfl rfl rfl (fun z246 => ?_)
                  refine ev_anyI f_J6_numberOfTrailingZeros_0f7a4 (nx := 79) rfl rfl rfl rfl (fun z247 => ?_)
                  refine ev_retK1 f_J6_numberOfTrailingZeros_0f7a4 rfl rfl rfl ?_
                  refine ev_retK1 f_J13_numberOfTrailingZeros_95d88 rfl rfl rfl ?_
                  refine ev_inV2 f_X11_silent (nx := 44) (lo2 := [(0, .ref 0), (1, .int z247)]) rfl rfl rfl rfl f_X11_answer (hI.wf.s rfl) rfl rfl rfl rfl rfl ?_
                  refine ev_loc f_X11_answer (nx := 1) rfl rfl rfl rfl ?_
                  refine ev_ic f_X11_answer (nx := 2) (v := 0) rfl (by decide) rfl ?_
                  refine ev_putIT f_X11_answer (nx := 5) rfl (hI.wf.s rfl) rfl rfl rfl (hI.put0 (hI.wf.s rfl) rfl rfl) (hX.upI rfl) (fun g248 e248 hI hX => ?_)
                  refine ev_loc f_X11_answer (nx := 6) rfl rfl rfl rfl ?_
                  refine ev_retK1 f_X11_answer rfl rfl rfl ?_
                  exact ev_ret f_X11_silent rfl rfl rfl ⟨_, _, _, rfl, hI, hX, ⟨_, rfl, (t_lo z247), (t_hi z247), (show (g248 0 0).toInt = 0 from (by have ffs : (g248 0 0).toInt = 0 := (congrArg Int32.toInt (by rw [e248]; exact x_up2_at _ _ _ _ : g248 0 0 = 0)).trans (by decide); omega))⟩⟩
              · have l249 : 17 ≤ z236.toInt := t_ltl (t_nle h237) (by decide : (16:Int) ≤ (16:Int32).toInt) rfl
                refine ev_incv f_J6_numberOfTrailingZeros_0f7a4 (nx := 58) (c := 4) (w := 29) (lo' := [(1, .int 29), (0, .int z236)]) rfl rfl (by decide) (by decide) rfl rfl rfl ?_
                refine ev_loc f_J6_numberOfTrailingZeros_0f7a4 (nx := 59) rfl rfl rfl rfl ?_
                refine ev_ic f_J6_numberOfTrailingZeros_0f7a4 (nx := 60) (v := 4) rfl (by decide) rfl ?_
                refine ev_anyI f_J6_numberOfTrailingZeros_0f7a4 (nx := 61) rfl rfl rfl rfl (fun z250 => ?_)
                refine ev_loc f_J6_numberOfTrailingZeros_0f7a4 (nx := 62) (lo' := [(0, .int z250), (1, .int 29)]) rfl rfl rfl rfl ?_
                refine ev_loc f_J6_numberOfTrailingZeros_0f7a4 (nx := 63) rfl rfl rfl rfl ?_
                refine ev_ic f_J6_numberOfTrailingZeros_0f7a4 (nx := 64) (v := 4) rfl (by decide) rfl ?_
                refine ev_if f_J6_numberOfTrailingZeros_0f7a4 (t1 := 74) (t2 := 67) rfl rfl rfl (fun h251 => ?_) (fun h251 => ?_)
                · have u252 : z250.toInt ≤ 4 := t_leu h251 (by decide : (4:Int32).toInt ≤ (4:Int))
                  refine ev_loc f_J6_numberOfTrailingZeros_0f7a4 (nx := 75) rfl rfl rfl rfl ?_
                  refine ev_loc f_J6_numberOfTrailingZeros_0f7a4 (nx := 76) rfl rfl rfl rfl ?_
                  refine ev_ic f_J6_numberOfTrailingZeros_0f7a4 (nx := 77) (v := 1) rfl (by decide) rfl ?_
                  refine ev_anyI f_J6_numberOfTrailingZeros_0f7a4 (nx := 78) rfl rfl rfl rfl (fun z253 => ?_)
                  refine ev_anyI f_J6_numberOfTrailingZeros_0f7a4 (nx := 79) rfl rfl rfl rfl (fun z254 => ?_)
                  refine ev_retK1 f_J6_numberOfTrailingZeros_0f7a4 rfl rfl rfl ?_
                  refine ev_retK1 f_J13_numberOfTrailingZeros_95d88 rfl rfl rfl ?_
                  refine ev_inV2 f_X11_silent (nx := 44) (lo2 := [(0, .ref 0), (1, .int z254)]) rfl rfl rfl rfl f_X11_answer (hI.wf.s rfl) rfl rfl rfl rfl rfl ?_
                  refine ev_loc f_X11_answer (nx := 1) rfl rfl rfl rfl ?_
                  refine ev_ic f_X11_answer (nx := 2) (v := 0) rfl (by decide) rfl ?_
                  refine ev_putIT f_X11_answer (nx := 5) rfl (hI.wf.s rfl) rfl rfl rfl (hI.put0 (hI.wf.s rfl) rfl rfl) (hX.upI rfl) (fun g255 e255 hI hX => ?_)
                  refine ev_loc f_X11_answer (nx := 6) rfl rfl rfl rfl ?_
                  refine ev_retK1 f_X11_answer rfl rfl rfl ?_
                  exact ev_ret f_X11_silent rfl rfl rfl ⟨_, _, _, rfl, hI, hX, ⟨_, rfl, (t_lo z254), (t_hi z254), (show (g255 0 0).toInt = 0 from (by have ffs : (g255 0 0).toInt = 0 := (congrArg Int32.toInt (by rw [e255]; exact x_up2_at _ _ _ _ : g255 0 0 = 0)).trans (by decide); omega))⟩⟩
                · have l256 : 5 ≤ z250.toInt := t_ltl (t_nle h251) (by decide : (4:Int) ≤ (4:Int32).toInt) rfl
                  refine ev_incv f_J6_numberOfTrailingZeros_0f7a4 (nx := 70) (c := 2) (w := 31) (lo' := [(1, .int 31), (0, .int z250)]) rfl rfl (by decide) (by decide) rfl rfl rfl ?_
                  refine ev_loc f_J6_numberOfTrailingZeros_0f7a4 (nx := 71) rfl rfl rfl rfl ?_
                  refine ev_ic f_J6_numberOfTrailingZeros_0f7a4 (nx := 72) (v := 2) rfl (by decide) rfl ?_
                  refine ev_anyI f_J6_numberOfTrailingZeros_0f7a4 (nx := 73) rfl rfl rfl rfl (fun z257 => ?_)
                  refine ev_loc f_J6_numberOfTrailingZeros_0f7a4 (nx := 74) (lo' := [(0, .int z257), (1, .int 31)]) rfl rfl rfl rfl ?_
                  refine ev_loc f_J6_numberOfTrailingZeros_0f7a4 (nx := 75) rfl rfl rfl rfl ?_
                  refine ev_loc f_J6_numberOfTrailingZeros_0f7a4 (nx := 76) rfl rfl rfl rfl ?_
                  refine ev_ic f_J6_numberOfTrailingZeros_0f7a4 (nx := 77) (v := 1) rfl (by decide) rfl ?_
                  refine ev_anyI f_J6_numberOfTrailingZeros_0f7a4 (nx := 78) rfl rfl rfl rfl (fun z258 => ?_)
                  refine ev_anyI f_J6_numberOfTrailingZeros_0f7a4 (nx := 79) rfl rfl rfl rfl (fun z259 => ?_)
                  refine ev_retK1 f_J6_numberOfTrailingZeros_0f7a4 rfl rfl rfl ?_
                  refine ev_retK1 f_J13_numberOfTrailingZeros_95d88 rfl rfl rfl ?_
                  refine ev_inV2 f_X11_silent (nx := 44) (lo2 := [(0, .ref 0), (1, .int z259)]) rfl rfl rfl rfl f_X11_answer (hI.wf.s rfl) rfl rfl rfl rfl rfl ?_
                  refine ev_loc f_X11_answer (nx := 1) rfl rfl rfl rfl ?_
                  refine ev_ic f_X11_answer (nx := 2) (v := 0) rfl (by decide) rfl ?_
                  refine ev_putIT f_X11_answer (nx := 5) rfl (hI.wf.s rfl) rfl rfl rfl (hI.put0 (hI.wf.s rfl) rfl rfl) (hX.upI rfl) (fun g260 e260 hI hX => ?_)
                  refine ev_loc f_X11_answer (nx := 6) rfl rfl rfl rfl ?_
                  refine ev_retK1 f_X11_answer rfl rfl rfl ?_
                  exact ev_ret f_X11_silent rfl rfl rfl ⟨_, _, _, rfl, hI, hX, ⟨_, rfl, (t_lo z259), (t_hi z259), (show (g260 0 0).toInt = 0 from (by have ffs : (g260 0 0).toInt = 0 := (congrArg Int32.toInt (by rw [e260]; exact x_up2_at _ _ _ _ : g260 0 0 = 0)).trans (by decide); omega))⟩⟩
        · have u261 : z150.toInt ≤ 0 := t_leu (t_nlt h151) (by decide : (0:Int32).toInt ≤ (0:Int))
          refine ev_loc f_J6_numberOfTrailingZeros_0f7a4 (nx := 13) rfl rfl rfl rfl ?_
          refine ev_bp f_J6_numberOfTrailingZeros_0f7a4 (nx := 15) (v := 32) rfl (by decide) rfl ?_
          refine ev_andE f_J6_numberOfTrailingZeros_0f7a4 (nx := 16) (c := 32) rfl (by decide) (by decide) rfl (fun z262 e262 l262 u262 => ?_)
          refine ev_retK1 f_J6_numberOfTrailingZeros_0f7a4 rfl rfl rfl ?_
          refine ev_retK1 f_J13_numberOfTrailingZeros_95d88 rfl rfl rfl ?_
          refine ev_inV2 f_X11_silent (nx := 44) (lo2 := [(0, .ref 0), (1, .int z262)]) rfl rfl rfl rfl f_X11_answer (hI.wf.s rfl) rfl rfl rfl rfl rfl ?_
          refine ev_loc f_X11_answer (nx := 1) rfl rfl rfl rfl ?_
          refine ev_ic f_X11_answer (nx := 2) (v := 0) rfl (by decide) rfl ?_
          refine ev_putIT f_X11_answer (nx := 5) rfl (hI.wf.s rfl) rfl rfl rfl (hI.put0 (hI.wf.s rfl) rfl rfl) (hX.upI rfl) (fun g263 e263 hI hX => ?_)
          refine ev_loc f_X11_answer (nx := 6) rfl rfl rfl rfl ?_
          refine ev_retK1 f_X11_answer rfl rfl rfl ?_
          exact ev_ret f_X11_silent rfl rfl rfl ⟨_, _, _, rfl, hI, hX, ⟨_, rfl, (Int.le_trans (by decide : ((-2147483648):Int) ≤ 0) l262), (Int.le_trans u262 (by decide : (32:Int) ≤ 2147483647)), (show (g263 0 0).toInt = 0 from (by have ffs : (g263 0 0).toInt = 0 := (congrArg Int32.toInt (by rw [e263]; exact x_up2_at _ _ _ _ : g263 0 0 = 0)).trans (by decide); omega))⟩⟩
    · have r264 : y2_3.toInt < (gi2 a3 0).toInt := Int32.lt_iff_toInt_lt.mp (t_nle h5)
      have u265 : y2_3.toInt ≤ 5 := t_ltu (t_nle h5) u4 rfl
      have l266 : 1 ≤ (gi2 a3 0).toInt := t_ltl (t_nle h5) l2_3 rfl
      refine ev_loc f_X11_silent (nx := 16) rfl rfl rfl rfl ?_
      refine ev_loc f_X11_silent (nx := 17) rfl rfl rfl rfl ?_
      refine ev_getR f_X11_silent (nx := 20) (v := .ref a3) rfl (hI.wf.s rfl) rfl rfl e3 rfl rfl ?_
      refine ev_loc f_X11_silent (nx := 21) rfl rfl rfl rfl ?_
      refine ev_cL f_X11_silent (nx := 24) (r := [.long y2_1]) rfl rfl rfl rfl rfl rfl rfl (c_heardOf hI (a3) p3 (y2_3)) rfl hX rfl (fun w267 gi267 gl267 gr267 hI hX hC267 => ?_)
      replace p3 := p3.ext hC267.2
      refine ev_anyL f_X11_silent (nx := 25) rfl rfl rfl rfl (fun z268 => ?_)
      refine ev_loc f_X11_silent (nx := 26) (lo' := [(1, .long z268), (3, .int y2_3), (0, .ref 0)]) rfl rfl rfl rfl ?_
      refine ev_incR f_X11_silent (nx := 29) (c := 1) (l := 1) (u := 6) rfl rfl (by decide) (by decide) l2_3 u265 rfl rfl (by decide) (by decide) rfl (fun z269 e269 l269 u269 => ?_)
      refine ev_jmp f_X11_silent (nx := 4) rfl rfl rfl ?_
      refine ev_sub (lo := [(3, .int z269), (1, .long z268), (0, .ref 0)]) rfl (t_sc rfl (t_sc rfl (t_sc rfl t_sn))) ?_
      exact ih2 _ (by omega) gi267 gl267 gr267 (z269) (z268) hI hX  (Int.le_trans (by decide : (0:Int) ≤ 1) l269) u269 ((hC267.1 0 0 rfl).1.trans c2_0) rfl
  refine ev_sub (lo := [(3, .int 0), (1, .long 0), (0, .ref 0)]) rfl (t_sc rfl (t_sc rfl (t_sc rfl t_sn))) ?_
  exact L2 _ gi gl gr (0) (0) hI hX  (by decide : (0:Int) ≤ (0:Int32).toInt) (Int.le_trans (by decide : (0:Int32).toInt ≤ (0:Int)) (by decide : (0:Int) ≤ 6)) rfl rfl
/-! ===== printed by riv.py: STATUS, the class ===== -/
noncomputable def wl_f_plan : List (Nat × Nat) := [(0, 0), (28, 0), (28, 1), (28, 4), (28, 5), (28, 6), (28, 8), (29, 0), (30, 9999), (31, 9999), (32, 9999), (33, 9999), (34, 9999), (35, 0), (36, 9999), (37, 9999), (38, 9999), (39, 9999), (40, 9999), (41, 9999), (42, 9999), (43, 9999), (44, 9999)]
noncomputable def Q_f_plan (gi : Nat → Nat → Int32) (gl : Nat → Nat → Int64) (gr : Nat → Nat → Value) : Int32 → (Nat → Nat → Int32) → (Nat → Nat → Int64) → (Nat → Nat → Value) → Prop := fun (v : Int32) (gi2 : Nat → Nat → Int32) (gl2 : Nat → Nat → Int64) (gr2 : Nat → Nat → Value) => (v.toInt = -1 → (gi2 0 0).toInt = 6) ∧ (v.toInt ≠ -1 → (gi2 0 0).toInt = 0)
theorem c_f_plan {X : x_Ext} {d : Nat} {sh : List (Nat ⊕ (Nat × Nat))} {gi : Nat → Nat → Int32} {gl : Nat → Nat → Int64} {gr : Nat → Nat → Value} (hI : t_I sh gi gr) : x_Me X (d + 20) n_X11_plan [.ref 0] (sh, gi, gl, gr) (t_PI wl_f_plan sh gi gl gr (-1) 24 (Q_f_plan gi gl gr)) := by
  have hX : t_X wl_f_plan sh gi gl gr gi gl gr := t_X.rf
  refine me_i f_X11_plan (hI.wf.s rfl) rfl rfl rfl ?_
  refine ev_loc f_X11_plan (nx := 1) rfl rfl rfl rfl ?_
  refine ev_getR f_X11_plan (nx := 4) rfl (hI.wf.s rfl) rfl rfl (hI.wf.r rfl) rfl rfl ?_
  refine ev_loc f_X11_plan (nx := 5) rfl rfl rfl rfl ?_
  obtain ⟨a2, e2, p2⟩ := hI.2.2.2.1.1
  refine ev_getR f_X11_plan (nx := 8) rfl (hI.wf.s rfl) rfl rfl e2 rfl rfl ?_
  refine ev_inV2 f_X11_plan (nx := 11) (lo2 := [(0, .ref 28), (1, .ref a2)]) rfl rfl rfl rfl f_X1_takeAll (hI.wf.s rfl) rfl rfl rfl rfl rfl ?_
  refine ev_loc f_X1_takeAll (nx := 1) rfl rfl rfl rfl ?_
  refine ev_loc f_X1_takeAll (nx := 2) rfl rfl rfl rfl ?_
  have hE3 := t_eqf_up (gr := gr) (j := 0) (v := .ref a2) (hI.wf.s (k := 28) rfl) rfl
  have hT3 := t_cross hI p2
  replace p2 := p2.ext hE3
  refine ev_putRT f_X1_takeAll (nx := 5) rfl (hI.wf.s rfl) rfl rfl rfl rfl hT3 (hX.upR rfl hE3) (fun g3 e3 hI hX => ?_)
  rw [← e3] at p2
  refine ev_loc f_X1_takeAll (nx := 6) rfl rfl rfl rfl ?_
  refine ev_loc f_X1_takeAll (nx := 7) rfl rfl rfl rfl ?_
  refine ev_getI f_X1_takeAll (nx := 10) rfl p2.1 rfl rfl rfl ?_
  refine ev_putIT f_X1_takeAll (nx := 13) rfl (hI.wf.s rfl) rfl rfl rfl (hI.put0 (hI.wf.s rfl) rfl rfl) (hX.upI rfl) (fun g4 e4 hI hX => ?_)
  refine ev_loc f_X1_takeAll (nx := 14) rfl rfl rfl rfl ?_
  refine ev_loc f_X1_takeAll (nx := 15) rfl rfl rfl rfl ?_
  refine ev_ic f_X1_takeAll (nx := 16) (v := 0) rfl (by decide) rfl ?_
  refine ev_ic f_X1_takeAll (nx := 17) (v := -1) rfl (by decide) rfl ?_
  refine ev_ic f_X1_takeAll (nx := 18) (v := 0) rfl (by decide) rfl ?_
  refine ev_c0 f_X1_takeAll (nx := 21) (r := []) rfl rfl rfl rfl rfl rfl rfl (c_takeShips hI (a2) p2 (0) ((-1)) (0)) rfl hX rfl (fun gi5 gl5 gr5 hI hX hC5 => ?_)
  replace p2 := p2.ext hC5.2
  refine ev_loc f_X1_takeAll (nx := 22) rfl rfl rfl rfl ?_
  refine ev_loc f_X1_takeAll (nx := 23) rfl rfl rfl rfl ?_
  refine ev_ic f_X1_takeAll (nx := 24) (v := -1) rfl (by decide) rfl ?_
  refine ev_c0 f_X1_takeAll (nx := 27) (r := []) rfl rfl rfl rfl rfl rfl rfl (c_takeCarts hI (a2) p2 ((-1))) rfl hX rfl (fun gi6 gl6 gr6 hI hX hC6 => ?_)
  replace p2 := p2.ext hC6.2
  refine ev_retK0 f_X1_takeAll rfl rfl rfl ?_
  refine ev_loc f_X11_plan (nx := 12) rfl rfl rfl rfl ?_
  refine ev_getR f_X11_plan (nx := 15) rfl (hI.wf.s rfl) rfl rfl (hI.wf.r rfl) rfl rfl ?_
  refine ev_cI f_X11_plan (nx := 18) (r := []) rfl rfl rfl rfl rfl rfl rfl (c_layPlan hI ) rfl hX rfl (fun w7 gi7 gl7 gr7 l7 u7 hI hX hC7 => ?_)
  replace p2 := p2.ext hC7.2
  refine ev_if f_X11_plan (t1 := 21) (t2 := 28) rfl rfl rfl (fun h8 => ?_) (fun h8 => ?_)
  · have u9 : w7.toInt ≤ 0 := t_equ h8 (by decide : (0:Int32).toInt ≤ (0:Int))
    refine ev_loc f_X11_plan (nx := 22) rfl rfl rfl rfl ?_
    refine ev_bp f_X11_plan (nx := 24) (v := 6) rfl (by decide) rfl ?_
    refine ev_inV2 f_X11_plan (nx := 27) (lo2 := [(0, .ref 0), (1, .int 6)]) rfl rfl rfl rfl f_X11_refuse (hI.wf.s rfl) rfl rfl rfl rfl rfl ?_
    refine ev_loc f_X11_refuse (nx := 1) rfl rfl rfl rfl ?_
    refine ev_loc f_X11_refuse (nx := 2) rfl rfl rfl rfl ?_
    refine ev_putIT f_X11_refuse (nx := 5) rfl (hI.wf.s rfl) rfl rfl rfl (hI.put0 (hI.wf.s rfl) rfl rfl) (hX.upI rfl) (fun g10 e10 hI hX => ?_)
    refine ev_ic f_X11_refuse (nx := 6) (v := -1) rfl (by decide) rfl ?_
    refine ev_retK1 f_X11_refuse rfl rfl rfl ?_
    exact ev_ret f_X11_plan rfl rfl rfl ⟨_, _, _, rfl, hI, hX, ⟨_, rfl, (by decide : ((-1):Int) ≤ ((-1):Int32).toInt), (Int.le_trans (by decide : ((-1):Int32).toInt ≤ ((-1):Int)) (by decide : ((-1):Int) ≤ 24)), (show (((-1) : Int) = -1 → (g10 0 0).toInt = 6) ∧ (((-1) : Int) ≠ -1 → (g10 0 0).toInt = 0) from ⟨fun h => (by have ffs : (g10 0 0).toInt = 6 := (congrArg Int32.toInt (by rw [e10]; exact x_up2_at _ _ _ _ : g10 0 0 = 6)).trans (by decide); omega), fun h => (by have ffs : (g10 0 0).toInt = 6 := (congrArg Int32.toInt (by rw [e10]; exact x_up2_at _ _ _ _ : g10 0 0 = 6)).trans (by decide); omega)⟩)⟩⟩
  · have r11 : w7.toInt ≠ 0 := fun e => h8 (Int32.toInt_inj.mp (e.trans (by decide : (0:Int) = (0 : Int32).toInt)))
    have l12 : 1 ≤ w7.toInt := t_nel h8 l7 rfl rfl
    refine ev_loc f_X11_plan (nx := 29) rfl rfl rfl rfl ?_
    refine ev_getR f_X11_plan (nx := 32) rfl (hI.wf.s rfl) rfl rfl (hI.wf.r rfl) rfl rfl ?_
    refine ev_inV1 f_X11_plan (nx := 35) (lo2 := [(0, .ref 28)]) rfl rfl rfl rfl f_X1_tellPlan (hI.wf.s rfl) rfl rfl rfl rfl rfl ?_
    refine ev_loc f_X1_tellPlan (nx := 1) rfl rfl rfl rfl ?_
    refine ev_getR f_X1_tellPlan (nx := 4) rfl (hI.wf.s rfl) rfl rfl (hI.wf.r rfl) rfl rfl ?_
    refine ev_ic f_X1_tellPlan (nx := 5) (v := 0) rfl (by decide) rfl ?_
    refine ev_loc f_X1_tellPlan (nx := 6) rfl rfl rfl rfl ?_
    refine ev_getR f_X1_tellPlan (nx := 9) rfl (hI.wf.s rfl) rfl rfl (hI.wf.r rfl) rfl rfl ?_
    refine ev_ic f_X1_tellPlan (nx := 10) (v := 0) rfl (by decide) rfl ?_
    refine ev_loc f_X1_tellPlan (nx := 11) rfl rfl rfl rfl ?_
    refine ev_getR f_X1_tellPlan (nx := 14) rfl (hI.wf.s rfl) rfl rfl (hI.wf.r rfl) rfl rfl ?_
    refine ev_alenv f_X1_tellPlan (nx := 15) (w := 72) rfl (hI.wf.s rfl) rfl (by decide) rfl ?_
    refine ev_cpyTI f_X1_tellPlan (nx := 18) rfl rfl (hI.wf.s (k := 41) rfl) (hI.wf.s (k := 42) rfl) (by omega) (by decide : (0:Int) ≤ (0:Int32).toInt) (by decide : (0:Int32).toInt ≤ (0:Int)) (by decide : (0:Int) ≤ (0:Int32).toInt) (by decide : (0:Int32).toInt ≤ (0:Int)) (Int.le_trans (by decide : (0:Int) ≤ 72) (by decide : (72:Int) ≤ (72:Int32).toInt)) (by decide : (72:Int32).toInt ≤ (72:Int)) (by decide) (by decide) rfl (hI.arr (hI.wf.s (k := 42) rfl) (fun j lo hi e => absurd e (t_nob (by decide +kernel) _)) (by decide)) (hX.arrI (fun j => t_inA_ok rfl)) (fun g13 hI hX => ?_)
    refine ev_loc f_X1_tellPlan (nx := 19) rfl rfl rfl rfl ?_
    refine ev_loc f_X1_tellPlan (nx := 20) rfl rfl rfl rfl ?_
    refine ev_getI f_X1_tellPlan (nx := 23) rfl (hI.wf.s rfl) rfl rfl rfl ?_
    obtain ⟨l14, u14⟩ := hI.b (hI.wf.s (k := 28) rfl) (t_bdK rfl : t_bd 1 6 = some (0, 24))
    refine ev_putIT f_X1_tellPlan (nx := 26) rfl (hI.wf.s rfl) rfl rfl rfl (hI.putB (hI.wf.s rfl) rfl rfl l14 (by decide) u14 (by decide)) (hX.upI rfl) (fun g15 e15 hI hX => ?_)
    refine ev_retK0 f_X1_tellPlan rfl rfl rfl ?_
    refine ev_loc f_X11_plan (nx := 36) rfl rfl rfl rfl ?_
    refine ev_loc f_X11_plan (nx := 37) rfl rfl rfl rfl ?_
    refine ev_getR f_X11_plan (nx := 40) rfl (hI.wf.s rfl) rfl rfl (hI.wf.r rfl) rfl rfl ?_
    refine ev_gvI f_X11_plan (nx := 43) (w := (g13 28 6)) rfl (hI.wf.s rfl) rfl rfl (by rw [e15]; exact x_up2_at _ _ _ _ : g15 28 8 = (g13 28 6)) rfl ?_
    refine ev_inV2 f_X11_plan (nx := 46) (lo2 := [(0, .ref 0), (1, .int (g13 28 6))]) rfl rfl rfl rfl f_X11_answer (hI.wf.s rfl) rfl rfl rfl rfl rfl ?_
    refine ev_loc f_X11_answer (nx := 1) rfl rfl rfl rfl ?_
    refine ev_ic f_X11_answer (nx := 2) (v := 0) rfl (by decide) rfl ?_
    refine ev_putIT f_X11_answer (nx := 5) rfl (hI.wf.s rfl) rfl rfl rfl (hI.put0 (hI.wf.s rfl) rfl rfl) (hX.upI rfl) (fun g16 e16 hI hX => ?_)
    refine ev_loc f_X11_answer (nx := 6) rfl rfl rfl rfl ?_
    refine ev_retK1 f_X11_answer rfl rfl rfl ?_
    exact ev_ret f_X11_plan rfl rfl rfl ⟨_, _, _, rfl, hI, hX, ⟨_, rfl, (Int.le_trans (by decide : ((-1):Int) ≤ 0) l14), u14, (show ((g13 28 6).toInt = -1 → (g16 0 0).toInt = 6) ∧ ((g13 28 6).toInt ≠ -1 → (g16 0 0).toInt = 0) from ⟨fun h => (by have ffs : (g16 0 0).toInt = 0 := (congrArg Int32.toInt (by rw [e16]; exact x_up2_at _ _ _ _ : g16 0 0 = 0)).trans (by decide); omega), fun h => (by have ffs : (g16 0 0).toInt = 0 := (congrArg Int32.toInt (by rw [e16]; exact x_up2_at _ _ _ _ : g16 0 0 = 0)).trans (by decide); omega)⟩)⟩⟩
noncomputable def wl_f_away : List (Nat × Nat) := [(0, 0), (28, 0), (28, 1), (28, 4), (28, 5), (29, 0), (30, 9999), (31, 9999), (32, 9999), (33, 9999), (34, 9999), (35, 0), (36, 9999), (37, 9999), (38, 9999), (39, 9999), (40, 9999)]
noncomputable def Q_f_away (gi : Nat → Nat → Int32) (gl : Nat → Nat → Int64) (gr : Nat → Nat → Value) : Int32 → (Nat → Nat → Int32) → (Nat → Nat → Int64) → (Nat → Nat → Value) → Prop := fun (v : Int32) (gi2 : Nat → Nat → Int32) (gl2 : Nat → Nat → Int64) (gr2 : Nat → Nat → Value) => (v.toInt = -1 → (gi2 0 0).toInt = 6) ∧ (v.toInt ≠ -1 → (gi2 0 0).toInt = 0)
theorem c_f_away {X : x_Ext} {d : Nat} {sh : List (Nat ⊕ (Nat × Nat))} {gi : Nat → Nat → Int32} {gl : Nat → Nat → Int64} {gr : Nat → Nat → Value} (hI : t_I sh gi gr) : x_Me X (d + 19) n_X11_away [.ref 0] (sh, gi, gl, gr) (t_PI wl_f_away sh gi gl gr (-1) 63 (Q_f_away gi gl gr)) := by
  have hX : t_X wl_f_away sh gi gl gr gi gl gr := t_X.rf
  refine me_i f_X11_away (hI.wf.s rfl) rfl rfl rfl ?_
  refine ev_loc f_X11_away (nx := 1) rfl rfl rfl rfl ?_
  refine ev_getR f_X11_away (nx := 4) rfl (hI.wf.s rfl) rfl rfl (hI.wf.r rfl) rfl rfl ?_
  refine ev_loc f_X11_away (nx := 5) rfl rfl rfl rfl ?_
  obtain ⟨a2, e2, p2⟩ := hI.2.2.2.1.1
  refine ev_getR f_X11_away (nx := 8) rfl (hI.wf.s rfl) rfl rfl e2 rfl rfl ?_
  refine ev_inV2 f_X11_away (nx := 11) (lo2 := [(0, .ref 28), (1, .ref a2)]) rfl rfl rfl rfl f_X1_takeAll (hI.wf.s rfl) rfl rfl rfl rfl rfl ?_
  refine ev_loc f_X1_takeAll (nx := 1) rfl rfl rfl rfl ?_
  refine ev_loc f_X1_takeAll (nx := 2) rfl rfl rfl rfl ?_
  have hE3 := t_eqf_up (gr := gr) (j := 0) (v := .ref a2) (hI.wf.s (k := 28) rfl) rfl
  have hT3 := t_cross hI p2
  replace p2 := p2.ext hE3
  refine ev_putRT f_X1_takeAll (nx := 5) rfl (hI.wf.s rfl) rfl rfl rfl rfl hT3 (hX.upR rfl hE3) (fun g3 e3 hI hX => ?_)
  rw [← e3] at p2
  refine ev_loc f_X1_takeAll (nx := 6) rfl rfl rfl rfl ?_
  refine ev_loc f_X1_takeAll (nx := 7) rfl rfl rfl rfl ?_
  refine ev_getI f_X1_takeAll (nx := 10) rfl p2.1 rfl rfl rfl ?_
  refine ev_putIT f_X1_takeAll (nx := 13) rfl (hI.wf.s rfl) rfl rfl rfl (hI.put0 (hI.wf.s rfl) rfl rfl) (hX.upI rfl) (fun g4 e4 hI hX => ?_)
  refine ev_loc f_X1_takeAll (nx := 14) rfl rfl rfl rfl ?_
  refine ev_loc f_X1_takeAll (nx := 15) rfl rfl rfl rfl ?_
  refine ev_ic f_X1_takeAll (nx := 16) (v := 0) rfl (by decide) rfl ?_
  refine ev_ic f_X1_takeAll (nx := 17) (v := -1) rfl (by decide) rfl ?_
  refine ev_ic f_X1_takeAll (nx := 18) (v := 0) rfl (by decide) rfl ?_
  refine ev_c0 f_X1_takeAll (nx := 21) (r := []) rfl rfl rfl rfl rfl rfl rfl (c_takeShips hI (a2) p2 (0) ((-1)) (0)) rfl hX rfl (fun gi5 gl5 gr5 hI hX hC5 => ?_)
  replace p2 := p2.ext hC5.2
  refine ev_loc f_X1_takeAll (nx := 22) rfl rfl rfl rfl ?_
  refine ev_loc f_X1_takeAll (nx := 23) rfl rfl rfl rfl ?_
  refine ev_ic f_X1_takeAll (nx := 24) (v := -1) rfl (by decide) rfl ?_
  refine ev_c0 f_X1_takeAll (nx := 27) (r := []) rfl rfl rfl rfl rfl rfl rfl (c_takeCarts hI (a2) p2 ((-1))) rfl hX rfl (fun gi6 gl6 gr6 hI hX hC6 => ?_)
  replace p2 := p2.ext hC6.2
  refine ev_retK0 f_X1_takeAll rfl rfl rfl ?_
  refine ev_ic f_X11_away (nx := 12) (v := 0) rfl (by decide) rfl ?_
  refine ev_loc f_X11_away (nx := 13) (lo' := [(1, .int 0), (0, .ref 0)]) rfl rfl rfl rfl ?_
  have L7 : ∀ (m7 : Nat) (gi7 : Nat → Nat → Int32) (gl7 : Nat → Nat → Int64) (gr7 : Nat → Nat → Value) (y7_1 : Int32), t_I sh gi7 gr7 → t_X wl_f_away sh gi gl gr gi7 gl7 gr7 → t_Rv sh gr7 a2 → 0 ≤ y7_1.toInt → y7_1.toInt ≤ 7 → gi7 a2 3 = (gi a2 3) → gi7 0 0 = (gi 0 0) → gi7 28 1 = (gi a2 3) → gr7 0 6 = .ref a2 → gr7 28 0 = .ref a2 → (7 - y7_1.toInt).toNat = m7 → x_Ev X (d + 19) n_X11_away 13 [(1, .int y7_1), (0, .ref 0)] [] (sh, gi7, gl7, gr7) (t_PI wl_f_away sh gi gl gr (-1) 63 (Q_f_away gi gl gr)) := by
    intro m7
    induction m7 using Nat.strongRecOn with
    | _ m7 ih7 =>
    intro gi7 gl7 gr7 y7_1 hI hX p2 l7_1 u7_1 c7_0 c7_1 c7_2 c7_3 c7_4 hm7
    refine ev_loc f_X11_away (nx := 14) rfl rfl rfl rfl ?_
    refine ev_loc f_X11_away (nx := 15) rfl rfl rfl rfl ?_
    refine ev_getR f_X11_away (nx := 18) (v := .ref a2) rfl (hI.wf.s rfl) rfl rfl c7_3 rfl rfl ?_
    obtain ⟨a8, e8, p8⟩ := p2.2.2.2.2.1
    refine ev_getR f_X11_away (nx := 21) rfl p2.1 rfl rfl e8 rfl rfl ?_
    refine ev_getI f_X11_away (nx := 24) rfl p8.1 rfl rfl rfl ?_
    obtain ⟨l9, u9⟩ := hI.b p8.1 (t_bdK rfl : t_bd 3 0 = some (0, 6))
    refine ev_if f_X11_away (t1 := 95) (t2 := 27) rfl rfl rfl (fun h10 => ?_) (fun h10 => ?_)
    · have r11 : (gi7 a8 0).toInt < y7_1.toInt := Int32.lt_iff_toInt_lt.mp h10
      have l12 : 1 ≤ y7_1.toInt := t_ltl h10 l9 rfl
      refine ev_loc f_X11_away (nx := 96) rfl rfl rfl rfl ?_
      refine ev_bp f_X11_away (nx := 98) (v := 6) rfl (by decide) rfl ?_
      refine ev_inV2 f_X11_away (nx := 101) (lo2 := [(0, .ref 0), (1, .int 6)]) rfl rfl rfl rfl f_X11_refuse (hI.wf.s rfl) rfl rfl rfl rfl rfl ?_
      refine ev_loc f_X11_refuse (nx := 1) rfl rfl rfl rfl ?_
      refine ev_loc f_X11_refuse (nx := 2) rfl rfl rfl rfl ?_
      refine ev_putIT f_X11_refuse (nx := 5) rfl (hI.wf.s rfl) rfl rfl rfl (hI.put0 (hI.wf.s rfl) rfl rfl) (hX.upI rfl) (fun g13 e13 hI hX => ?_)
      refine ev_ic f_X11_refuse (nx := 6) (v := -1) rfl (by decide) rfl ?_
      refine ev_retK1 f_X11_refuse rfl rfl rfl ?_
      exact ev_ret f_X11_away rfl rfl rfl ⟨_, _, _, rfl, hI, hX, ⟨_, rfl, (by decide : ((-1):Int) ≤ ((-1):Int32).toInt), (Int.le_trans (by decide : ((-1):Int32).toInt ≤ ((-1):Int)) (by decide : ((-1):Int) ≤ 63)), (show (((-1) : Int) = -1 → (g13 0 0).toInt = 6) ∧ (((-1) : Int) ≠ -1 → (g13 0 0).toInt = 0) from ⟨fun h => (by have ffs : (g13 0 0).toInt = 6 := (congrArg Int32.toInt (by rw [e13]; exact x_up2_at _ _ _ _ : g13 0 0 = 6)).trans (by decide); omega), fun h => (by have ffs : (g13 0 0).toInt = 6 := (congrArg Int32.toInt (by rw [e13]; exact x_up2_at _ _ _ _ : g13 0 0 = 6)).trans (by decide); omega)⟩)⟩⟩
    · have r14 : y7_1.toInt ≤ (gi7 a8 0).toInt := Int32.le_iff_toInt_le.mp (t_nlt h10)
      have u15 : y7_1.toInt ≤ 6 := t_leu (t_nlt h10) u9
      refine ev_ic f_X11_away (nx := 28) (v := 0) rfl (by decide) rfl ?_
      refine ev_loc f_X11_away (nx := 29) (lo' := [(2, .int 0), (1, .int y7_1), (0, .ref 0)]) rfl rfl rfl rfl ?_
      have L16 : ∀ (m16 : Nat) (gi16 : Nat → Nat → Int32) (gl16 : Nat → Nat → Int64) (gr16 : Nat → Nat → Value) (y16_2 : Int32), t_I sh gi16 gr16 → t_X wl_f_away sh gi gl gr gi16 gl16 gr16 → t_Rv sh gr16 a2 → t_Ln sh gr16 a8 → 0 ≤ y16_2.toInt → y16_2.toInt ≤ 64 → gi16 a2 3 = (gi a2 3) → gi16 0 0 = (gi 0 0) → gi16 28 1 = (gi a2 3) → gr16 a2 7 = .ref a8 → gr16 0 6 = .ref a2 → gr16 28 0 = .ref a2 → (64 - y16_2.toInt).toNat = m16 → x_Ev X (d + 19) n_X11_away 29 [(2, .int y16_2), (1, .int y7_1), (0, .ref 0)] [] (sh, gi16, gl16, gr16) (t_PI wl_f_away sh gi gl gr (-1) 63 (Q_f_away gi gl gr)) := by
        intro m16
        induction m16 using Nat.strongRecOn with
        | _ m16 ih16 =>
        intro gi16 gl16 gr16 y16_2 hI hX p2 p8 l16_2 u16_2 c16_0 c16_1 c16_2 c16_3 c16_4 c16_5 hm16
        refine ev_loc f_X11_away (nx := 30) rfl rfl rfl rfl ?_
        refine ev_ic f_X11_away (nx := 31) (v := 1) rfl (by decide) rfl ?_
        refine ev_loc f_X11_away (nx := 32) rfl rfl rfl rfl ?_
        refine ev_getR f_X11_away (nx := 35) (v := .ref a2) rfl (hI.wf.s rfl) rfl rfl c16_4 rfl rfl ?_
        refine ev_getR f_X11_away (nx := 38) (v := .ref a8) rfl p2.1 rfl rfl c16_3 rfl rfl ?_
        refine ev_getI f_X11_away (nx := 41) rfl p8.1 rfl rfl rfl ?_
        obtain ⟨l17, u17⟩ := hI.b p8.1 (t_bdK rfl : t_bd 3 0 = some (0, 6))
        refine ev_shl1E f_X11_away (nx := 42) rfl l17 u17 (by decide) (by decide) rfl (fun z18 s18 => ?_)
        have l18 : 1 ≤ z18.toInt := by have := l17; have := u17; omega
        have u18 : z18.toInt ≤ 64 := by have := l17; have := u17; omega
        refine ev_if f_X11_away (t1 := 89) (t2 := 45) rfl rfl rfl (fun h19 => ?_) (fun h19 => ?_)
        · have r20 : z18.toInt ≤ y16_2.toInt := Int32.le_iff_toInt_le.mp h19
          have l21 : 1 ≤ y16_2.toInt := t_lel h19 l18
          refine ev_incR f_X11_away (nx := 92) (c := 1) (l := 1) (u := 7) rfl rfl (by decide) (by decide) l7_1 u15 rfl rfl (by decide) (by decide) rfl (fun z22 e22 l22 u22 => ?_)
          refine ev_jmp f_X11_away (nx := 13) rfl rfl rfl ?_
          refine ev_sub (lo := [(1, .int z22), (0, .ref 0)]) rfl (t_sc rfl (t_sc rfl t_sn)) ?_
          exact ih7 _ (by omega) gi16 gl16 gr16 (z22) hI hX p2 (Int.le_trans (by decide : (0:Int) ≤ 1) l22) u22 c16_0 c16_1 c16_2 c16_4 c16_5 rfl
        · have r23 : y16_2.toInt < z18.toInt := Int32.lt_iff_toInt_lt.mp (t_nle h19)
          have u24 : y16_2.toInt ≤ 63 := t_ltu (t_nle h19) u18 rfl
          refine ev_loc f_X11_away (nx := 46) rfl rfl rfl rfl ?_
          refine ev_inS1 f_X11_away (nx := 49) (lo2 := [(0, .int y16_2)]) rfl rfl rfl rfl f_J6_bitCount_0f7a4 rfl rfl rfl rfl ?_
          refine ev_loc f_J6_bitCount_0f7a4 (nx := 1) rfl rfl rfl rfl ?_
          refine ev_loc f_J6_bitCount_0f7a4 (nx := 2) rfl rfl rfl rfl ?_
          refine ev_ic f_J6_bitCount_0f7a4 (nx := 3) (v := 1) rfl (by decide) rfl ?_
          refine ev_anyI f_J6_bitCount_0f7a4 (nx := 4) rfl rfl rfl rfl (fun z25 => ?_)
          refine ev_ldW f_J6_bitCount_0f7a4 (nx := 7) (v := 1431655765) rfl (by decide) rfl ?_
          refine ev_andE f_J6_bitCount_0f7a4 (nx := 8) (c := 1431655765) rfl (by decide) (by decide) rfl (fun z26 e26 l26 u26 => ?_)
          refine ev_subR f_J6_bitCount_0f7a4 (nx := 9) (l := (-1431655765)) (u := 63) rfl l16_2 u24 l26 u26 rfl rfl (by decide) (by decide) rfl (fun z27 e27 l27 u27 => ?_)
          refine ev_loc f_J6_bitCount_0f7a4 (nx := 10) (lo' := [(0, .int z27)]) rfl rfl rfl rfl ?_
          refine ev_loc f_J6_bitCount_0f7a4 (nx := 11) rfl rfl rfl rfl ?_
          refine ev_ldW f_J6_bitCount_0f7a4 (nx := 14) (v := 858993459) rfl (by decide) rfl ?_
          refine ev_andE f_J6_bitCount_0f7a4 (nx := 15) (c := 858993459) rfl (by decide) (by decide) rfl (fun z28 e28 l28 u28 => ?_)
          refine ev_loc f_J6_bitCount_0f7a4 (nx := 16) rfl rfl rfl rfl ?_
          refine ev_ic f_J6_bitCount_0f7a4 (nx := 17) (v := 2) rfl (by decide) rfl ?_
          refine ev_anyI f_J6_bitCount_0f7a4 (nx := 18) rfl rfl rfl rfl (fun z29 => ?_)
          refine ev_ldW f_J6_bitCount_0f7a4 (nx := 21) (v := 858993459) rfl (by decide) rfl ?_
          refine ev_andE f_J6_bitCount_0f7a4 (nx := 22) (c := 858993459) rfl (by decide) (by decide) rfl (fun z30 e30 l30 u30 => ?_)
          refine ev_addR f_J6_bitCount_0f7a4 (nx := 23) (l := 0) (u := 1717986918) rfl l28 u28 l30 u30 rfl rfl (by decide) (by decide) rfl (fun z31 e31 l31 u31 => ?_)
          refine ev_loc f_J6_bitCount_0f7a4 (nx := 24) (lo' := [(0, .int z31)]) rfl rfl rfl rfl ?_
          refine ev_loc f_J6_bitCount_0f7a4 (nx := 25) rfl rfl rfl rfl ?_
          refine ev_loc f_J6_bitCount_0f7a4 (nx := 26) rfl rfl rfl rfl ?_
          refine ev_ic f_J6_bitCount_0f7a4 (nx := 27) (v := 4) rfl (by decide) rfl ?_
          refine ev_anyI f_J6_bitCount_0f7a4 (nx := 28) rfl rfl rfl rfl (fun z32 => ?_)
          refine ev_anyI f_J6_bitCount_0f7a4 (nx := 29) rfl rfl rfl rfl (fun z33 => ?_)
          refine ev_ldW f_J6_bitCount_0f7a4 (nx := 32) (v := 252645135) rfl (by decide) rfl ?_
          refine ev_andE f_J6_bitCount_0f7a4 (nx := 33) (c := 252645135) rfl (by decide) (by decide) rfl (fun z34 e34 l34 u34 => ?_)
          refine ev_loc f_J6_bitCount_0f7a4 (nx := 34) (lo' := [(0, .int z34)]) rfl rfl rfl rfl ?_
          refine ev_loc f_J6_bitCount_0f7a4 (nx := 35) rfl rfl rfl rfl ?_
          refine ev_loc f_J6_bitCount_0f7a4 (nx := 36) rfl rfl rfl rfl ?_
          refine ev_bp f_J6_bitCount_0f7a4 (nx := 38) (v := 8) rfl (by decide) rfl ?_
          refine ev_anyI f_J6_bitCount_0f7a4 (nx := 39) rfl rfl rfl rfl (fun z35 => ?_)
          refine ev_anyI f_J6_bitCount_0f7a4 (nx := 40) rfl rfl rfl rfl (fun z36 => ?_)
          refine ev_loc f_J6_bitCount_0f7a4 (nx := 41) (lo' := [(0, .int z36)]) rfl rfl rfl rfl ?_
          refine ev_loc f_J6_bitCount_0f7a4 (nx := 42) rfl rfl rfl rfl ?_
          refine ev_loc f_J6_bitCount_0f7a4 (nx := 43) rfl rfl rfl rfl ?_
          refine ev_bp f_J6_bitCount_0f7a4 (nx := 45) (v := 16) rfl (by decide) rfl ?_
          refine ev_anyI f_J6_bitCount_0f7a4 (nx := 46) rfl rfl rfl rfl (fun z37 => ?_)
          refine ev_anyI f_J6_bitCount_0f7a4 (nx := 47) rfl rfl rfl rfl (fun z38 => ?_)
          refine ev_loc f_J6_bitCount_0f7a4 (nx := 48) (lo' := [(0, .int z38)]) rfl rfl rfl rfl ?_
          refine ev_loc f_J6_bitCount_0f7a4 (nx := 49) rfl rfl rfl rfl ?_
          refine ev_bp f_J6_bitCount_0f7a4 (nx := 51) (v := 63) rfl (by decide) rfl ?_
          refine ev_andE f_J6_bitCount_0f7a4 (nx := 52) (c := 63) rfl (by decide) (by decide) rfl (fun z39 e39 l39 u39 => ?_)
          refine ev_retK1 f_J6_bitCount_0f7a4 rfl rfl rfl ?_
          refine ev_loc f_X11_away (nx := 50) rfl rfl rfl rfl ?_
          refine ev_if f_X11_away (t1 := 53) (t2 := 83) rfl rfl rfl (fun h40 => ?_) (fun h40 => ?_)
          · have r41 : z39.toInt = y7_1.toInt := t_eqi h40
            have u42 : z39.toInt ≤ 6 := t_equ h40 u15
            refine ev_loc f_X11_away (nx := 54) rfl rfl rfl rfl ?_
            refine ev_getR f_X11_away (nx := 57) rfl (hI.wf.s rfl) rfl rfl (hI.wf.r rfl) rfl rfl ?_
            refine ev_loc f_X11_away (nx := 58) rfl rfl rfl rfl ?_
            refine ev_getR f_X11_away (nx := 61) (v := .ref a2) rfl (hI.wf.s rfl) rfl rfl c16_4 rfl rfl ?_
            refine ev_loc f_X11_away (nx := 62) rfl rfl rfl rfl ?_
            refine ev_ic f_X11_away (nx := 63) (v := -1) rfl (by decide) rfl ?_
            refine ev_ic f_X11_away (nx := 64) (v := 0) rfl (by decide) rfl ?_
            refine ev_c0 f_X11_away (nx := 67) (r := []) rfl rfl rfl rfl rfl rfl rfl (c_takeShips hI (a2) p2 (y16_2) ((-1)) (0)) rfl hX rfl (fun gi43 gl43 gr43 hI hX hC43 => ?_)
            replace p2 := p2.ext hC43.2
            replace p8 := p8.ext hC43.2
            refine ev_loc f_X11_away (nx := 68) rfl rfl rfl rfl ?_
            refine ev_getR f_X11_away (nx := 71) rfl (hI.wf.s rfl) rfl rfl (hI.wf.r rfl) rfl rfl ?_
            refine ev_inV1 f_X11_away (nx := 74) (lo2 := [(0, .ref 28)]) rfl rfl rfl rfl f_X1_allCanPass (hI.wf.s rfl) rfl rfl rfl rfl rfl ?_
            refine ev_loc f_X1_allCanPass (nx := 1) rfl rfl rfl rfl ?_
            refine ev_ic f_X1_allCanPass (nx := 2) (v := 0) rfl (by decide) rfl ?_
            refine ev_ic f_X1_allCanPass (nx := 3) (v := 0) rfl (by decide) rfl ?_
            refine ev_ic f_X1_allCanPass (nx := 4) (v := 0) rfl (by decide) rfl ?_
            refine ev_ic f_X1_allCanPass (nx := 5) (v := 0) rfl (by decide) rfl ?_
            refine ev_ldI f_X1_allCanPass (nx := 7) (v := 999999999) rfl (by decide) rfl ?_
            refine ev_cI f_X1_allCanPass (nx := 10) (r := []) rfl rfl rfl rfl rfl rfl rfl (c_canEndWithin hI (0) (0) (by decide : (0:Int) ≤ (0:Int32).toInt) (Int.le_trans (by decide : (0:Int32).toInt ≤ (0:Int)) (by decide : (0:Int) ≤ 1)) (0) (by decide : (0:Int) ≤ (0:Int32).toInt) (Int.le_trans (by decide : (0:Int32).toInt ≤ (0:Int)) (by decide : (0:Int) ≤ 6)) (0) (by decide : (0:Int) ≤ (0:Int32).toInt) (Int.le_trans (by decide : (0:Int32).toInt ≤ (0:Int)) (by decide : (0:Int) ≤ 6)) (999999999)) rfl hX rfl (fun w44 gi44 gl44 gr44 l44 u44 hI hX hC44 => ?_)
            replace p2 := p2.ext hC44.2
            replace p8 := p8.ext hC44.2
            refine ev_retK1 f_X1_allCanPass rfl rfl (t_rz l44 u44) ?_
            refine ev_if f_X11_away (t1 := 83) (t2 := 77) rfl rfl rfl (fun h45 => ?_) (fun h45 => ?_)
            · have u46 : w44.toInt ≤ 0 := t_equ h45 (by decide : (0:Int32).toInt ≤ (0:Int))
              refine ev_incR f_X11_away (nx := 86) (c := 1) (l := 1) (u := 64) rfl rfl (by decide) (by decide) l16_2 u24 rfl rfl (by decide) (by decide) rfl (fun z47 e47 l47 u47 => ?_)
              refine ev_jmp f_X11_away (nx := 29) rfl rfl rfl ?_
              refine ev_sub (lo := [(2, .int z47), (1, .int y7_1), (0, .ref 0)]) rfl (t_sc rfl (t_sc rfl (t_sc rfl t_sn))) ?_
              exact ih16 _ (by omega) gi44 gl44 gr44 (z47) hI hX p2 p8 (Int.le_trans (by decide : (0:Int) ≤ 1) l47) u47 ((hC44.1 a2 3 (t_ninO hI.wf p2.1 (t_outO hI.wf p2.1 rfl) rfl)).1.trans ((hC43.1 a2 3 (t_ninO hI.wf p2.1 (t_outO hI.wf p2.1 rfl) rfl)).1.trans c16_0)) ((hC44.1 0 0 rfl).1.trans ((hC43.1 0 0 rfl).1.trans c16_1)) ((hC44.1 28 1 rfl).1.trans ((hC43.1 28 1 rfl).1.trans c16_2)) ((hC44.1 a2 7 (t_ninO hI.wf p2.1 (t_outO hI.wf p2.1 rfl) rfl)).2.2.trans ((hC43.1 a2 7 (t_ninO hI.wf p2.1 (t_outO hI.wf p2.1 rfl) rfl)).2.2.trans c16_3)) ((hC44.1 0 6 rfl).2.2.trans ((hC43.1 0 6 rfl).2.2.trans c16_4)) ((hC44.1 28 0 rfl).2.2.trans ((hC43.1 28 0 rfl).2.2.trans c16_5)) rfl
            · have r48 : w44.toInt ≠ 0 := fun e => h45 (Int32.toInt_inj.mp (e.trans (by decide : (0:Int) = (0 : Int32).toInt)))
              have l49 : 1 ≤ w44.toInt := t_nel h45 l44 rfl rfl
              refine ev_loc f_X11_away (nx := 78) rfl rfl rfl rfl ?_
              refine ev_loc f_X11_away (nx := 79) rfl rfl rfl rfl ?_
              refine ev_inV2 f_X11_away (nx := 82) (lo2 := [(0, .ref 0), (1, .int y16_2)]) rfl rfl rfl rfl f_X11_answer (hI.wf.s rfl) rfl rfl rfl rfl rfl ?_
              refine ev_loc f_X11_answer (nx := 1) rfl rfl rfl rfl ?_
              refine ev_ic f_X11_answer (nx := 2) (v := 0) rfl (by decide) rfl ?_
              refine ev_putIT f_X11_answer (nx := 5) rfl (hI.wf.s rfl) rfl rfl rfl (hI.put0 (hI.wf.s rfl) rfl rfl) (hX.upI rfl) (fun g50 e50 hI hX => ?_)
              refine ev_loc f_X11_answer (nx := 6) rfl rfl rfl rfl ?_
              refine ev_retK1 f_X11_answer rfl rfl rfl ?_
              exact ev_ret f_X11_away rfl rfl rfl ⟨_, _, _, rfl, hI, hX, ⟨_, rfl, (Int.le_trans (by decide : ((-1):Int) ≤ 0) l16_2), u24, (show (y16_2.toInt = -1 → (g50 0 0).toInt = 6) ∧ (y16_2.toInt ≠ -1 → (g50 0 0).toInt = 0) from ⟨fun h => (by have ffs : (g50 0 0).toInt = 0 := (congrArg Int32.toInt (by rw [e50]; exact x_up2_at _ _ _ _ : g50 0 0 = 0)).trans (by decide); omega), fun h => (by have ffs : (g50 0 0).toInt = 0 := (congrArg Int32.toInt (by rw [e50]; exact x_up2_at _ _ _ _ : g50 0 0 = 0)).trans (by decide); omega)⟩)⟩⟩
          · have r51 : z39.toInt ≠ y7_1.toInt := t_nei h40
            refine ev_incR f_X11_away (nx := 86) (c := 1) (l := 1) (u := 64) rfl rfl (by decide) (by decide) l16_2 u24 rfl rfl (by decide) (by decide) rfl (fun z52 e52 l52 u52 => ?_)
            refine ev_jmp f_X11_away (nx := 29) rfl rfl rfl ?_
            refine ev_sub (lo := [(2, .int z52), (1, .int y7_1), (0, .ref 0)]) rfl (t_sc rfl (t_sc rfl (t_sc rfl t_sn))) ?_
            exact ih16 _ (by omega) gi16 gl16 gr16 (z52) hI hX p2 p8 (Int.le_trans (by decide : (0:Int) ≤ 1) l52) u52 c16_0 c16_1 c16_2 c16_3 c16_4 c16_5 rfl
      refine ev_sub (lo := [(2, .int 0), (1, .int y7_1), (0, .ref 0)]) rfl (t_sc rfl (t_sc rfl (t_sc rfl t_sn))) ?_
      exact L16 _ gi7 gl7 gr7 (0) hI hX p2 p8 (by decide : (0:Int) ≤ (0:Int32).toInt) (Int.le_trans (by decide : (0:Int32).toInt ≤ (0:Int)) (by decide : (0:Int) ≤ 64)) c7_0 c7_1 c7_2 e8 c7_3 c7_4 rfl
  refine ev_sub (lo := [(1, .int 0), (0, .ref 0)]) rfl (t_sc rfl (t_sc rfl t_sn)) ?_
  exact L7 _ gi6 gl6 gr6 (0) hI hX p2 (by decide : (0:Int) ≤ (0:Int32).toInt) (Int.le_trans (by decide : (0:Int32).toInt ≤ (0:Int)) (by decide : (0:Int) ≤ 7)) ((hC6.1 a2 3 (t_ninO hI.wf p2.1 (t_outO hI.wf p2.1 rfl) rfl)).1.trans ((hC5.1 a2 3 (t_ninO hI.wf p2.1 (t_outO hI.wf p2.1 rfl) rfl)).1.trans ((by rw [e4]; exact x_up2_off (Or.inr (by decide)) : g4 a2 3 = gi a2 3).trans rfl))) ((hC6.1 0 0 rfl).1.trans ((hC5.1 0 0 rfl).1.trans ((by rw [e4]; exact x_up2_off (Or.inr (by decide)) : g4 0 0 = gi 0 0).trans rfl))) ((hC6.1 28 1 rfl).1.trans ((hC5.1 28 1 rfl).1.trans (by rw [e4]; exact x_up2_at _ _ _ _ : g4 28 1 = (gi a2 3)))) ((hC6.1 0 6 rfl).2.2.trans ((hC5.1 0 6 rfl).2.2.trans ((by rw [e3]; exact x_up2_off (Or.inr (by decide)) : g3 0 6 = gr 0 6).trans e2))) ((hC6.1 28 0 rfl).2.2.trans ((hC5.1 28 0 rfl).2.2.trans (by rw [e3]; exact x_up2_at _ _ _ _ : g3 28 0 = .ref a2))) rfl
noncomputable def wl_f_dearest : List (Nat × Nat) := [(0, 0), (28, 0), (28, 1), (28, 4), (28, 5), (28, 6), (29, 0), (30, 9999), (31, 9999), (32, 9999), (33, 9999), (34, 9999), (35, 0), (36, 9999), (37, 9999), (38, 9999), (39, 9999), (40, 9999), (41, 9999), (43, 9999), (44, 9999)]
noncomputable def Q_f_dearest (gi : Nat → Nat → Int32) (gl : Nat → Nat → Int64) (gr : Nat → Nat → Value) : Int32 → (Nat → Nat → Int32) → (Nat → Nat → Int64) → (Nat → Nat → Value) → Prop := fun (v : Int32) (gi2 : Nat → Nat → Int32) (gl2 : Nat → Nat → Int64) (gr2 : Nat → Nat → Value) => (v.toInt = -1 → (gi2 0 0).toInt = 6) ∧ (v.toInt ≠ -1 → (gi2 0 0).toInt = 0)
theorem c_f_dearest {X : x_Ext} {d : Nat} {sh : List (Nat ⊕ (Nat × Nat))} {gi : Nat → Nat → Int32} {gl : Nat → Nat → Int64} {gr : Nat → Nat → Value} (hI : t_I sh gi gr) : x_Me X (d + 20) n_X11_dearest [.ref 0] (sh, gi, gl, gr) (t_PI wl_f_dearest sh gi gl gr (-1) 12 (Q_f_dearest gi gl gr)) := by
  have hX : t_X wl_f_dearest sh gi gl gr gi gl gr := t_X.rf
  refine me_i f_X11_dearest (hI.wf.s rfl) rfl rfl rfl ?_
  refine ev_loc f_X11_dearest (nx := 1) rfl rfl rfl rfl ?_
  refine ev_getR f_X11_dearest (nx := 4) rfl (hI.wf.s rfl) rfl rfl (hI.wf.r rfl) rfl rfl ?_
  refine ev_loc f_X11_dearest (nx := 5) rfl rfl rfl rfl ?_
  obtain ⟨a2, e2, p2⟩ := hI.2.2.2.1.1
  refine ev_getR f_X11_dearest (nx := 8) rfl (hI.wf.s rfl) rfl rfl e2 rfl rfl ?_
  refine ev_inV2 f_X11_dearest (nx := 11) (lo2 := [(0, .ref 28), (1, .ref a2)]) rfl rfl rfl rfl f_X1_takeAll (hI.wf.s rfl) rfl rfl rfl rfl rfl ?_
  refine ev_loc f_X1_takeAll (nx := 1) rfl rfl rfl rfl ?_
  refine ev_loc f_X1_takeAll (nx := 2) rfl rfl rfl rfl ?_
  have hE3 := t_eqf_up (gr := gr) (j := 0) (v := .ref a2) (hI.wf.s (k := 28) rfl) rfl
  have hT3 := t_cross hI p2
  replace p2 := p2.ext hE3
  refine ev_putRT f_X1_takeAll (nx := 5) rfl (hI.wf.s rfl) rfl rfl rfl rfl hT3 (hX.upR rfl hE3) (fun g3 e3 hI hX => ?_)
  rw [← e3] at p2
  refine ev_loc f_X1_takeAll (nx := 6) rfl rfl rfl rfl ?_
  refine ev_loc f_X1_takeAll (nx := 7) rfl rfl rfl rfl ?_
  refine ev_getI f_X1_takeAll (nx := 10) rfl p2.1 rfl rfl rfl ?_
  refine ev_putIT f_X1_takeAll (nx := 13) rfl (hI.wf.s rfl) rfl rfl rfl (hI.put0 (hI.wf.s rfl) rfl rfl) (hX.upI rfl) (fun g4 e4 hI hX => ?_)
  refine ev_loc f_X1_takeAll (nx := 14) rfl rfl rfl rfl ?_
  refine ev_loc f_X1_takeAll (nx := 15) rfl rfl rfl rfl ?_
  refine ev_ic f_X1_takeAll (nx := 16) (v := 0) rfl (by decide) rfl ?_
  refine ev_ic f_X1_takeAll (nx := 17) (v := -1) rfl (by decide) rfl ?_
  refine ev_ic f_X1_takeAll (nx := 18) (v := 0) rfl (by decide) rfl ?_
  refine ev_c0 f_X1_takeAll (nx := 21) (r := []) rfl rfl rfl rfl rfl rfl rfl (c_takeShips hI (a2) p2 (0) ((-1)) (0)) rfl hX rfl (fun gi5 gl5 gr5 hI hX hC5 => ?_)
  replace p2 := p2.ext hC5.2
  refine ev_loc f_X1_takeAll (nx := 22) rfl rfl rfl rfl ?_
  refine ev_loc f_X1_takeAll (nx := 23) rfl rfl rfl rfl ?_
  refine ev_ic f_X1_takeAll (nx := 24) (v := -1) rfl (by decide) rfl ?_
  refine ev_c0 f_X1_takeAll (nx := 27) (r := []) rfl rfl rfl rfl rfl rfl rfl (c_takeCarts hI (a2) p2 ((-1))) rfl hX rfl (fun gi6 gl6 gr6 hI hX hC6 => ?_)
  replace p2 := p2.ext hC6.2
  refine ev_retK0 f_X1_takeAll rfl rfl rfl ?_
  refine ev_loc f_X11_dearest (nx := 12) rfl rfl rfl rfl ?_
  refine ev_getR f_X11_dearest (nx := 15) rfl (hI.wf.s rfl) rfl rfl (hI.wf.r rfl) rfl rfl ?_
  refine ev_cI f_X11_dearest (nx := 18) (r := []) rfl rfl rfl rfl rfl rfl rfl (c_layPlan hI ) rfl hX rfl (fun w7 gi7 gl7 gr7 l7 u7 hI hX hC7 => ?_)
  replace p2 := p2.ext hC7.2
  refine ev_if f_X11_dearest (t1 := 35) (t2 := 21) rfl rfl rfl (fun h8 => ?_) (fun h8 => ?_)
  · have u9 : w7.toInt ≤ 0 := t_equ h8 (by decide : (0:Int32).toInt ≤ (0:Int))
    refine ev_ic f_X11_dearest (nx := 36) (v := -1) rfl (by decide) rfl ?_
    refine ev_loc f_X11_dearest (nx := 37) (lo' := [(1, .int (-1)), (0, .ref 0)]) rfl rfl rfl rfl ?_
    refine ev_loc f_X11_dearest (nx := 38) rfl rfl rfl rfl ?_
    refine ev_ic f_X11_dearest (nx := 39) (v := -1) rfl (by decide) rfl ?_
    refine ev_t f_X11_dearest (t1 := 42) (t2 := 51) rfl rfl rfl (by decide) ?_
    refine ev_loc f_X11_dearest (nx := 43) rfl rfl rfl rfl ?_
    refine ev_bp f_X11_dearest (nx := 45) (v := 6) rfl (by decide) rfl ?_
    refine ev_inV2 f_X11_dearest (nx := 48) (lo2 := [(0, .ref 0), (1, .int 6)]) rfl rfl rfl rfl f_X11_refuse (hI.wf.s rfl) rfl rfl rfl rfl rfl ?_
    refine ev_loc f_X11_refuse (nx := 1) rfl rfl rfl rfl ?_
    refine ev_loc f_X11_refuse (nx := 2) rfl rfl rfl rfl ?_
    refine ev_putIT f_X11_refuse (nx := 5) rfl (hI.wf.s rfl) rfl rfl rfl (hI.put0 (hI.wf.s rfl) rfl rfl) (hX.upI rfl) (fun g10 e10 hI hX => ?_)
    refine ev_ic f_X11_refuse (nx := 6) (v := -1) rfl (by decide) rfl ?_
    refine ev_retK1 f_X11_refuse rfl rfl rfl ?_
    refine ev_jmp f_X11_dearest (nx := 56) rfl rfl rfl ?_
    exact ev_ret f_X11_dearest rfl rfl rfl ⟨_, _, _, rfl, hI, hX, ⟨_, rfl, (by decide : ((-1):Int) ≤ ((-1):Int32).toInt), (Int.le_trans (by decide : ((-1):Int32).toInt ≤ ((-1):Int)) (by decide : ((-1):Int) ≤ 12)), (show (((-1) : Int) = -1 → (g10 0 0).toInt = 6) ∧ (((-1) : Int) ≠ -1 → (g10 0 0).toInt = 0) from ⟨fun h => (by have ffs : (g10 0 0).toInt = 6 := (congrArg Int32.toInt (by rw [e10]; exact x_up2_at _ _ _ _ : g10 0 0 = 6)).trans (by decide); omega), fun h => (by have ffs : (g10 0 0).toInt = 6 := (congrArg Int32.toInt (by rw [e10]; exact x_up2_at _ _ _ _ : g10 0 0 = 6)).trans (by decide); omega)⟩)⟩⟩
  · have r11 : w7.toInt ≠ 0 := fun e => h8 (Int32.toInt_inj.mp (e.trans (by decide : (0:Int) = (0 : Int32).toInt)))
    have l12 : 1 ≤ w7.toInt := t_nel h8 l7 rfl rfl
    refine ev_loc f_X11_dearest (nx := 22) rfl rfl rfl rfl ?_
    refine ev_getR f_X11_dearest (nx := 25) rfl (hI.wf.s rfl) rfl rfl (hI.wf.r rfl) rfl rfl ?_
    refine ev_loc f_X11_dearest (nx := 26) rfl rfl rfl rfl ?_
    refine ev_getR f_X11_dearest (nx := 29) (v := .ref a2) rfl (hI.wf.s rfl) rfl rfl ((hC7.1 0 6 rfl).2.2.trans ((hC6.1 0 6 rfl).2.2.trans ((hC5.1 0 6 rfl).2.2.trans ((by rw [e3]; exact x_up2_off (Or.inr (by decide)) : g3 0 6 = gr 0 6).trans e2)))) rfl rfl ?_
    refine ev_cI f_X11_dearest (nx := 32) (r := []) rfl rfl rfl rfl rfl rfl rfl (c_dearestByPlan hI (a2) p2) rfl hX rfl (fun w13 gi13 gl13 gr13 l13 u13 hI hX hC13 => ?_)
    replace p2 := p2.ext hC13.2
    refine ev_jmp f_X11_dearest (nx := 36) rfl rfl rfl ?_
    refine ev_loc f_X11_dearest (nx := 37) (lo' := [(1, .int w13), (0, .ref 0)]) rfl rfl rfl rfl ?_
    refine ev_loc f_X11_dearest (nx := 38) rfl rfl rfl rfl ?_
    refine ev_ic f_X11_dearest (nx := 39) (v := -1) rfl (by decide) rfl ?_
    refine ev_if f_X11_dearest (t1 := 42) (t2 := 51) rfl rfl rfl (fun h14 => ?_) (fun h14 => ?_)
    · have u15 : w13.toInt ≤ (-1) := t_equ h14 (by decide : ((-1):Int32).toInt ≤ ((-1):Int))
      refine ev_loc f_X11_dearest (nx := 43) rfl rfl rfl rfl ?_
      refine ev_bp f_X11_dearest (nx := 45) (v := 6) rfl (by decide) rfl ?_
      refine ev_inV2 f_X11_dearest (nx := 48) (lo2 := [(0, .ref 0), (1, .int 6)]) rfl rfl rfl rfl f_X11_refuse (hI.wf.s rfl) rfl rfl rfl rfl rfl ?_
      refine ev_loc f_X11_refuse (nx := 1) rfl rfl rfl rfl ?_
      refine ev_loc f_X11_refuse (nx := 2) rfl rfl rfl rfl ?_
      refine ev_putIT f_X11_refuse (nx := 5) rfl (hI.wf.s rfl) rfl rfl rfl (hI.put0 (hI.wf.s rfl) rfl rfl) (hX.upI rfl) (fun g16 e16 hI hX => ?_)
      refine ev_ic f_X11_refuse (nx := 6) (v := -1) rfl (by decide) rfl ?_
      refine ev_retK1 f_X11_refuse rfl rfl rfl ?_
      refine ev_jmp f_X11_dearest (nx := 56) rfl rfl rfl ?_
      exact ev_ret f_X11_dearest rfl rfl rfl ⟨_, _, _, rfl, hI, hX, ⟨_, rfl, (by decide : ((-1):Int) ≤ ((-1):Int32).toInt), (Int.le_trans (by decide : ((-1):Int32).toInt ≤ ((-1):Int)) (by decide : ((-1):Int) ≤ 12)), (show (((-1) : Int) = -1 → (g16 0 0).toInt = 6) ∧ (((-1) : Int) ≠ -1 → (g16 0 0).toInt = 0) from ⟨fun h => (by have ffs : (g16 0 0).toInt = 6 := (congrArg Int32.toInt (by rw [e16]; exact x_up2_at _ _ _ _ : g16 0 0 = 6)).trans (by decide); omega), fun h => (by have ffs : (g16 0 0).toInt = 6 := (congrArg Int32.toInt (by rw [e16]; exact x_up2_at _ _ _ _ : g16 0 0 = 6)).trans (by decide); omega)⟩)⟩⟩
    · have r17 : w13.toInt ≠ (-1) := fun e => h14 (Int32.toInt_inj.mp (e.trans (by decide : ((-1):Int) = ((-1) : Int32).toInt)))
      have l18 : 0 ≤ w13.toInt := t_nel h14 l13 rfl rfl
      refine ev_loc f_X11_dearest (nx := 52) rfl rfl rfl rfl ?_
      refine ev_loc f_X11_dearest (nx := 53) rfl rfl rfl rfl ?_
      refine ev_inV2 f_X11_dearest (nx := 56) (lo2 := [(0, .ref 0), (1, .int w13)]) rfl rfl rfl rfl f_X11_answer (hI.wf.s rfl) rfl rfl rfl rfl rfl ?_
      refine ev_loc f_X11_answer (nx := 1) rfl rfl rfl rfl ?_
      refine ev_ic f_X11_answer (nx := 2) (v := 0) rfl (by decide) rfl ?_
      refine ev_putIT f_X11_answer (nx := 5) rfl (hI.wf.s rfl) rfl rfl rfl (hI.put0 (hI.wf.s rfl) rfl rfl) (hX.upI rfl) (fun g19 e19 hI hX => ?_)
      refine ev_loc f_X11_answer (nx := 6) rfl rfl rfl rfl ?_
      refine ev_retK1 f_X11_answer rfl rfl rfl ?_
      exact ev_ret f_X11_dearest rfl rfl rfl ⟨_, _, _, rfl, hI, hX, ⟨_, rfl, (Int.le_trans (by decide : ((-1):Int) ≤ 0) l18), u13, (show (w13.toInt = -1 → (g19 0 0).toInt = 6) ∧ (w13.toInt ≠ -1 → (g19 0 0).toInt = 0) from ⟨fun h => (by have ffs : (g19 0 0).toInt = 0 := (congrArg Int32.toInt (by rw [e19]; exact x_up2_at _ _ _ _ : g19 0 0 = 0)).trans (by decide); omega), fun h => (by have ffs : (g19 0 0).toInt = 0 := (congrArg Int32.toInt (by rw [e19]; exact x_up2_at _ _ _ _ : g19 0 0 = 0)).trans (by decide); omega)⟩)⟩⟩
noncomputable def wl_f_busiest : List (Nat × Nat) := [(0, 0), (28, 0), (28, 1), (28, 4), (28, 5), (28, 6), (29, 0), (30, 9999), (31, 9999), (32, 9999), (33, 9999), (34, 9999), (35, 0), (36, 9999), (37, 9999), (38, 9999), (39, 9999), (40, 9999), (41, 9999), (43, 9999), (44, 9999)]
noncomputable def Q_f_busiest (gi : Nat → Nat → Int32) (gl : Nat → Nat → Int64) (gr : Nat → Nat → Value) : Int32 → (Nat → Nat → Int32) → (Nat → Nat → Int64) → (Nat → Nat → Value) → Prop := fun (v : Int32) (gi2 : Nat → Nat → Int32) (gl2 : Nat → Nat → Int64) (gr2 : Nat → Nat → Value) => (v.toInt = -1 → (gi2 0 0).toInt = 6) ∧ (v.toInt ≠ -1 → (gi2 0 0).toInt = 0)
theorem c_f_busiest {X : x_Ext} {d : Nat} {sh : List (Nat ⊕ (Nat × Nat))} {gi : Nat → Nat → Int32} {gl : Nat → Nat → Int64} {gr : Nat → Nat → Value} (hI : t_I sh gi gr) : x_Me X (d + 20) n_X11_busiest [.ref 0] (sh, gi, gl, gr) (t_PI wl_f_busiest sh gi gl gr (-1) 240 (Q_f_busiest gi gl gr)) := by
  have hX : t_X wl_f_busiest sh gi gl gr gi gl gr := t_X.rf
  refine me_i f_X11_busiest (hI.wf.s rfl) rfl rfl rfl ?_
  refine ev_loc f_X11_busiest (nx := 1) rfl rfl rfl rfl ?_
  refine ev_getR f_X11_busiest (nx := 4) rfl (hI.wf.s rfl) rfl rfl (hI.wf.r rfl) rfl rfl ?_
  refine ev_loc f_X11_busiest (nx := 5) rfl rfl rfl rfl ?_
  obtain ⟨a2, e2, p2⟩ := hI.2.2.2.1.1
  refine ev_getR f_X11_busiest (nx := 8) rfl (hI.wf.s rfl) rfl rfl e2 rfl rfl ?_
  refine ev_inV2 f_X11_busiest (nx := 11) (lo2 := [(0, .ref 28), (1, .ref a2)]) rfl rfl rfl rfl f_X1_takeAll (hI.wf.s rfl) rfl rfl rfl rfl rfl ?_
  refine ev_loc f_X1_takeAll (nx := 1) rfl rfl rfl rfl ?_
  refine ev_loc f_X1_takeAll (nx := 2) rfl rfl rfl rfl ?_
  have hE3 := t_eqf_up (gr := gr) (j := 0) (v := .ref a2) (hI.wf.s (k := 28) rfl) rfl
  have hT3 := t_cross hI p2
  replace p2 := p2.ext hE3
  refine ev_putRT f_X1_takeAll (nx := 5) rfl (hI.wf.s rfl) rfl rfl rfl rfl hT3 (hX.upR rfl hE3) (fun g3 e3 hI hX => ?_)
  rw [← e3] at p2
  refine ev_loc f_X1_takeAll (nx := 6) rfl rfl rfl rfl ?_
  refine ev_loc f_X1_takeAll (nx := 7) rfl rfl rfl rfl ?_
  refine ev_getI f_X1_takeAll (nx := 10) rfl p2.1 rfl rfl rfl ?_
  refine ev_putIT f_X1_takeAll (nx := 13) rfl (hI.wf.s rfl) rfl rfl rfl (hI.put0 (hI.wf.s rfl) rfl rfl) (hX.upI rfl) (fun g4 e4 hI hX => ?_)
  refine ev_loc f_X1_takeAll (nx := 14) rfl rfl rfl rfl ?_
  refine ev_loc f_X1_takeAll (nx := 15) rfl rfl rfl rfl ?_
  refine ev_ic f_X1_takeAll (nx := 16) (v := 0) rfl (by decide) rfl ?_
  refine ev_ic f_X1_takeAll (nx := 17) (v := -1) rfl (by decide) rfl ?_
  refine ev_ic f_X1_takeAll (nx := 18) (v := 0) rfl (by decide) rfl ?_
  refine ev_c0 f_X1_takeAll (nx := 21) (r := []) rfl rfl rfl rfl rfl rfl rfl (c_takeShips hI (a2) p2 (0) ((-1)) (0)) rfl hX rfl (fun gi5 gl5 gr5 hI hX hC5 => ?_)
  replace p2 := p2.ext hC5.2
  refine ev_loc f_X1_takeAll (nx := 22) rfl rfl rfl rfl ?_
  refine ev_loc f_X1_takeAll (nx := 23) rfl rfl rfl rfl ?_
  refine ev_ic f_X1_takeAll (nx := 24) (v := -1) rfl (by decide) rfl ?_
  refine ev_c0 f_X1_takeAll (nx := 27) (r := []) rfl rfl rfl rfl rfl rfl rfl (c_takeCarts hI (a2) p2 ((-1))) rfl hX rfl (fun gi6 gl6 gr6 hI hX hC6 => ?_)
  replace p2 := p2.ext hC6.2
  refine ev_retK0 f_X1_takeAll rfl rfl rfl ?_
  refine ev_loc f_X11_busiest (nx := 12) rfl rfl rfl rfl ?_
  refine ev_getR f_X11_busiest (nx := 15) rfl (hI.wf.s rfl) rfl rfl (hI.wf.r rfl) rfl rfl ?_
  refine ev_cI f_X11_busiest (nx := 18) (r := []) rfl rfl rfl rfl rfl rfl rfl (c_layPlan hI ) rfl hX rfl (fun w7 gi7 gl7 gr7 l7 u7 hI hX hC7 => ?_)
  replace p2 := p2.ext hC7.2
  refine ev_if f_X11_busiest (t1 := 31) (t2 := 21) rfl rfl rfl (fun h8 => ?_) (fun h8 => ?_)
  · have u9 : w7.toInt ≤ 0 := t_equ h8 (by decide : (0:Int32).toInt ≤ (0:Int))
    refine ev_ic f_X11_busiest (nx := 32) (v := -1) rfl (by decide) rfl ?_
    refine ev_loc f_X11_busiest (nx := 33) (lo' := [(1, .int (-1)), (0, .ref 0)]) rfl rfl rfl rfl ?_
    refine ev_loc f_X11_busiest (nx := 34) rfl rfl rfl rfl ?_
    refine ev_ic f_X11_busiest (nx := 35) (v := -1) rfl (by decide) rfl ?_
    refine ev_t f_X11_busiest (t1 := 38) (t2 := 47) rfl rfl rfl (by decide) ?_
    refine ev_loc f_X11_busiest (nx := 39) rfl rfl rfl rfl ?_
    refine ev_bp f_X11_busiest (nx := 41) (v := 6) rfl (by decide) rfl ?_
    refine ev_inV2 f_X11_busiest (nx := 44) (lo2 := [(0, .ref 0), (1, .int 6)]) rfl rfl rfl rfl f_X11_refuse (hI.wf.s rfl) rfl rfl rfl rfl rfl ?_
    refine ev_loc f_X11_refuse (nx := 1) rfl rfl rfl rfl ?_
    refine ev_loc f_X11_refuse (nx := 2) rfl rfl rfl rfl ?_
    refine ev_putIT f_X11_refuse (nx := 5) rfl (hI.wf.s rfl) rfl rfl rfl (hI.put0 (hI.wf.s rfl) rfl rfl) (hX.upI rfl) (fun g10 e10 hI hX => ?_)
    refine ev_ic f_X11_refuse (nx := 6) (v := -1) rfl (by decide) rfl ?_
    refine ev_retK1 f_X11_refuse rfl rfl rfl ?_
    refine ev_jmp f_X11_busiest (nx := 52) rfl rfl rfl ?_
    exact ev_ret f_X11_busiest rfl rfl rfl ⟨_, _, _, rfl, hI, hX, ⟨_, rfl, (by decide : ((-1):Int) ≤ ((-1):Int32).toInt), (Int.le_trans (by decide : ((-1):Int32).toInt ≤ ((-1):Int)) (by decide : ((-1):Int) ≤ 240)), (show (((-1) : Int) = -1 → (g10 0 0).toInt = 6) ∧ (((-1) : Int) ≠ -1 → (g10 0 0).toInt = 0) from ⟨fun h => (by have ffs : (g10 0 0).toInt = 6 := (congrArg Int32.toInt (by rw [e10]; exact x_up2_at _ _ _ _ : g10 0 0 = 6)).trans (by decide); omega), fun h => (by have ffs : (g10 0 0).toInt = 6 := (congrArg Int32.toInt (by rw [e10]; exact x_up2_at _ _ _ _ : g10 0 0 = 6)).trans (by decide); omega)⟩)⟩⟩
  · have r11 : w7.toInt ≠ 0 := fun e => h8 (Int32.toInt_inj.mp (e.trans (by decide : (0:Int) = (0 : Int32).toInt)))
    have l12 : 1 ≤ w7.toInt := t_nel h8 l7 rfl rfl
    refine ev_loc f_X11_busiest (nx := 22) rfl rfl rfl rfl ?_
    refine ev_getR f_X11_busiest (nx := 25) rfl (hI.wf.s rfl) rfl rfl (hI.wf.r rfl) rfl rfl ?_
    refine ev_cI f_X11_busiest (nx := 28) (r := []) rfl rfl rfl rfl rfl rfl rfl (c_busiestByPlan hI ) rfl hX rfl (fun w13 gi13 gl13 gr13 l13 u13 hI hX hC13 => ?_)
    replace p2 := p2.ext hC13.2
    refine ev_jmp f_X11_busiest (nx := 32) rfl rfl rfl ?_
    refine ev_loc f_X11_busiest (nx := 33) (lo' := [(1, .int w13), (0, .ref 0)]) rfl rfl rfl rfl ?_
    refine ev_loc f_X11_busiest (nx := 34) rfl rfl rfl rfl ?_
    refine ev_ic f_X11_busiest (nx := 35) (v := -1) rfl (by decide) rfl ?_
    refine ev_if f_X11_busiest (t1 := 38) (t2 := 47) rfl rfl rfl (fun h14 => ?_) (fun h14 => ?_)
    · have u15 : w13.toInt ≤ (-1) := t_equ h14 (by decide : ((-1):Int32).toInt ≤ ((-1):Int))
      refine ev_loc f_X11_busiest (nx := 39) rfl rfl rfl rfl ?_
      refine ev_bp f_X11_busiest (nx := 41) (v := 6) rfl (by decide) rfl ?_
      refine ev_inV2 f_X11_busiest (nx := 44) (lo2 := [(0, .ref 0), (1, .int 6)]) rfl rfl rfl rfl f_X11_refuse (hI.wf.s rfl) rfl rfl rfl rfl rfl ?_
      refine ev_loc f_X11_refuse (nx := 1) rfl rfl rfl rfl ?_
      refine ev_loc f_X11_refuse (nx := 2) rfl rfl rfl rfl ?_
      refine ev_putIT f_X11_refuse (nx := 5) rfl (hI.wf.s rfl) rfl rfl rfl (hI.put0 (hI.wf.s rfl) rfl rfl) (hX.upI rfl) (fun g16 e16 hI hX => ?_)
      refine ev_ic f_X11_refuse (nx := 6) (v := -1) rfl (by decide) rfl ?_
      refine ev_retK1 f_X11_refuse rfl rfl rfl ?_
      refine ev_jmp f_X11_busiest (nx := 52) rfl rfl rfl ?_
      exact ev_ret f_X11_busiest rfl rfl rfl ⟨_, _, _, rfl, hI, hX, ⟨_, rfl, (by decide : ((-1):Int) ≤ ((-1):Int32).toInt), (Int.le_trans (by decide : ((-1):Int32).toInt ≤ ((-1):Int)) (by decide : ((-1):Int) ≤ 240)), (show (((-1) : Int) = -1 → (g16 0 0).toInt = 6) ∧ (((-1) : Int) ≠ -1 → (g16 0 0).toInt = 0) from ⟨fun h => (by have ffs : (g16 0 0).toInt = 6 := (congrArg Int32.toInt (by rw [e16]; exact x_up2_at _ _ _ _ : g16 0 0 = 6)).trans (by decide); omega), fun h => (by have ffs : (g16 0 0).toInt = 6 := (congrArg Int32.toInt (by rw [e16]; exact x_up2_at _ _ _ _ : g16 0 0 = 6)).trans (by decide); omega)⟩)⟩⟩
    · have r17 : w13.toInt ≠ (-1) := fun e => h14 (Int32.toInt_inj.mp (e.trans (by decide : ((-1):Int) = ((-1) : Int32).toInt)))
      have l18 : 0 ≤ w13.toInt := t_nel h14 l13 rfl rfl
      refine ev_loc f_X11_busiest (nx := 48) rfl rfl rfl rfl ?_
      refine ev_loc f_X11_busiest (nx := 49) rfl rfl rfl rfl ?_
      refine ev_inV2 f_X11_busiest (nx := 52) (lo2 := [(0, .ref 0), (1, .int w13)]) rfl rfl rfl rfl f_X11_answer (hI.wf.s rfl) rfl rfl rfl rfl rfl ?_
      refine ev_loc f_X11_answer (nx := 1) rfl rfl rfl rfl ?_
      refine ev_ic f_X11_answer (nx := 2) (v := 0) rfl (by decide) rfl ?_
      refine ev_putIT f_X11_answer (nx := 5) rfl (hI.wf.s rfl) rfl rfl rfl (hI.put0 (hI.wf.s rfl) rfl rfl) (hX.upI rfl) (fun g19 e19 hI hX => ?_)
      refine ev_loc f_X11_answer (nx := 6) rfl rfl rfl rfl ?_
      refine ev_retK1 f_X11_answer rfl rfl rfl ?_
      exact ev_ret f_X11_busiest rfl rfl rfl ⟨_, _, _, rfl, hI, hX, ⟨_, rfl, (Int.le_trans (by decide : ((-1):Int) ≤ 0) l18), u13, (show (w13.toInt = -1 → (g19 0 0).toInt = 6) ∧ (w13.toInt ≠ -1 → (g19 0 0).toInt = 0) from ⟨fun h => (by have ffs : (g19 0 0).toInt = 0 := (congrArg Int32.toInt (by rw [e19]; exact x_up2_at _ _ _ _ : g19 0 0 = 0)).trans (by decide); omega), fun h => (by have ffs : (g19 0 0).toInt = 0 := (congrArg Int32.toInt (by rw [e19]; exact x_up2_at _ _ _ _ : g19 0 0 = 0)).trans (by decide); omega)⟩)⟩⟩
noncomputable def wl_f_keep : List (Nat × Nat) := [(0, 0), (45, 4), (45, 5), (45, 6), (45, 7), (45, 8), (45, 9), (45, 10), (45, 11), (45, 12), (45, 13), (45, 14), (45, 15), (46, 0), (47, 9999), (48, 9999), (49, 9999), (50, 9999), (51, 9999), (52, 0), (53, 9999), (54, 9999), (55, 9999), (56, 9999), (57, 9999), (58, 9999), (59, 9999), (60, 9999)]
noncomputable def Q_f_keep (gi : Nat → Nat → Int32) (gl : Nat → Nat → Int64) (gr : Nat → Nat → Value) (ar1 : Int32) : Int32 → (Nat → Nat → Int32) → (Nat → Nat → Int64) → (Nat → Nat → Value) → Prop := fun (v : Int32) (gi2 : Nat → Nat → Int32) (gl2 : Nat → Nat → Int64) (gr2 : Nat → Nat → Value) => (¬ (-1 ≤ ar1.toInt ∧ ar1.toInt ≤ 9999) → (gi2 0 0).toInt = 1 ∧ (gi2 45 15).toInt = (gi 45 15).toInt) ∧ ((-1 ≤ ar1.toInt ∧ ar1.toInt ≤ 9999) → (¬ gr 0 7 ≠ .null → (gi2 0 0).toInt = 6 ∧ (gi2 45 15).toInt = (gi 45 15).toInt) ∧ (gr 0 7 ≠ .null → (gi2 0 0).toInt = 0 ∧ (gi2 45 15).toInt = 1))
theorem c_f_keep {X : x_Ext} {d : Nat} {sh : List (Nat ⊕ (Nat × Nat))} {gi : Nat → Nat → Int32} {gl : Nat → Nat → Int64} {gr : Nat → Nat → Value} (hI : t_I sh gi gr) (ar1 : Int32) : x_Me X (d + 6) n_X11_keep [.ref 0, .int ar1] (sh, gi, gl, gr) (t_PI wl_f_keep sh gi gl gr (-2147483648) 2147483647 (Q_f_keep gi gl gr ar1)) := by
  have hX : t_X wl_f_keep sh gi gl gr gi gl gr := t_X.rf
  refine me_i f_X11_keep (hI.wf.s rfl) rfl rfl rfl ?_
  refine ev_loc f_X11_keep (nx := 1) rfl rfl rfl rfl ?_
  refine ev_ic f_X11_keep (nx := 2) (v := -1) rfl (by decide) rfl ?_
  refine ev_if f_X11_keep (t1 := 12) (t2 := 5) rfl rfl rfl (fun h3 => ?_) (fun h3 => ?_)
  · have u4 : ar1.toInt ≤ (-2) := t_ltu h3 (by decide : ((-1):Int32).toInt ≤ ((-1):Int)) rfl
    refine ev_loc f_X11_keep (nx := 13) rfl rfl rfl rfl ?_
    refine ev_ic f_X11_keep (nx := 14) (v := 1) rfl (by decide) rfl ?_
    refine ev_inV2 f_X11_keep (nx := 17) (lo2 := [(0, .ref 0), (1, .int 1)]) rfl rfl rfl rfl f_X11_refuse (hI.wf.s rfl) rfl rfl rfl rfl rfl ?_
    refine ev_loc f_X11_refuse (nx := 1) rfl rfl rfl rfl ?_
    refine ev_loc f_X11_refuse (nx := 2) rfl rfl rfl rfl ?_
    refine ev_putIT f_X11_refuse (nx := 5) rfl (hI.wf.s rfl) rfl rfl rfl (hI.put0 (hI.wf.s rfl) rfl rfl) (hX.upI rfl) (fun g5 e5 hI hX => ?_)
    refine ev_ic f_X11_refuse (nx := 6) (v := -1) rfl (by decide) rfl ?_
    refine ev_retK1 f_X11_refuse rfl rfl rfl ?_
    exact ev_ret f_X11_keep rfl rfl rfl ⟨_, _, _, rfl, hI, hX, ⟨_, rfl, (Int.le_trans (by decide : ((-2147483648):Int) ≤ (-1)) (by decide : ((-1):Int) ≤ ((-1):Int32).toInt)), (Int.le_trans (by decide : ((-1):Int32).toInt ≤ ((-1):Int)) (by decide : ((-1):Int) ≤ 2147483647)), (show (¬ (-1 ≤ ar1.toInt ∧ ar1.toInt ≤ 9999) → (g5 0 0).toInt = 1 ∧ (g5 45 15).toInt = (gi 45 15).toInt) ∧ ((-1 ≤ ar1.toInt ∧ ar1.toInt ≤ 9999) → (¬ gr 0 7 ≠ .null → (g5 0 0).toInt = 6 ∧ (g5 45 15).toInt = (gi 45 15).toInt) ∧ (gr 0 7 ≠ .null → (g5 0 0).toInt = 0 ∧ (g5 45 15).toInt = 1)) from ⟨fun h => (by have ffs : (g5 0 0).toInt = 1 := (congrArg Int32.toInt (by rw [e5]; exact x_up2_at _ _ _ _ : g5 0 0 = 1)).trans (by decide); have ff5 : (g5 45 15).toInt = (gi 45 15).toInt := congrArg Int32.toInt ((by rw [e5]; exact x_up2_off (Or.inr (by decide)) : g5 45 15 = gi 45 15).trans rfl); omega), fun h => ⟨fun h2 => (by have ffs : (g5 0 0).toInt = 1 := (congrArg Int32.toInt (by rw [e5]; exact x_up2_at _ _ _ _ : g5 0 0 = 1)).trans (by decide); have ff5 : (g5 45 15).toInt = (gi 45 15).toInt := congrArg Int32.toInt ((by rw [e5]; exact x_up2_off (Or.inr (by decide)) : g5 45 15 = gi 45 15).trans rfl); omega), fun h2 => (by have ffs : (g5 0 0).toInt = 1 := (congrArg Int32.toInt (by rw [e5]; exact x_up2_at _ _ _ _ : g5 0 0 = 1)).trans (by decide); have ff5 : (g5 45 15).toInt = (gi 45 15).toInt := congrArg Int32.toInt ((by rw [e5]; exact x_up2_off (Or.inr (by decide)) : g5 45 15 = gi 45 15).trans rfl); omega)⟩⟩)⟩⟩
  · have l6 : (-1) ≤ ar1.toInt := t_lel (t_nlt h3) (by decide : ((-1):Int) ≤ ((-1):Int32).toInt)
    refine ev_loc f_X11_keep (nx := 6) rfl rfl rfl rfl ?_
    refine ev_sp f_X11_keep (nx := 9) (v := 9999) rfl (by decide) rfl ?_
    refine ev_if f_X11_keep (t1 := 18) (t2 := 12) rfl rfl rfl (fun h7 => ?_) (fun h7 => ?_)
    · have u8 : ar1.toInt ≤ 9999 := t_leu h7 (by decide : (9999:Int32).toInt ≤ (9999:Int))
      refine ev_loc f_X11_keep (nx := 19) rfl rfl rfl rfl ?_
      rcases hI.2.2.2.1.2.1 with e9 | ⟨a9, e9, p9⟩
      · refine ev_getR f_X11_keep (nx := 22) rfl (hI.wf.s rfl) rfl rfl e9 rfl rfl ?_
        refine ev_jmp f_X11_keep (nx := 25) rfl rfl rfl ?_
        refine ev_loc f_X11_keep (nx := 26) rfl rfl rfl rfl ?_
        refine ev_bp f_X11_keep (nx := 28) (v := 6) rfl (by decide) rfl ?_
        refine ev_inV2 f_X11_keep (nx := 31) (lo2 := [(0, .ref 0), (1, .int 6)]) rfl rfl rfl rfl f_X11_refuse (hI.wf.s rfl) rfl rfl rfl rfl rfl ?_
        refine ev_loc f_X11_refuse (nx := 1) rfl rfl rfl rfl ?_
        refine ev_loc f_X11_refuse (nx := 2) rfl rfl rfl rfl ?_
        refine ev_putIT f_X11_refuse (nx := 5) rfl (hI.wf.s rfl) rfl rfl rfl (hI.put0 (hI.wf.s rfl) rfl rfl) (hX.upI rfl) (fun g10 e10 hI hX => ?_)
        refine ev_ic f_X11_refuse (nx := 6) (v := -1) rfl (by decide) rfl ?_
        refine ev_retK1 f_X11_refuse rfl rfl rfl ?_
        exact ev_ret f_X11_keep rfl rfl rfl ⟨_, _, _, rfl, hI, hX, ⟨_, rfl, (Int.le_trans (by decide : ((-2147483648):Int) ≤ (-1)) (by decide : ((-1):Int) ≤ ((-1):Int32).toInt)), (Int.le_trans (by decide : ((-1):Int32).toInt ≤ ((-1):Int)) (by decide : ((-1):Int) ≤ 2147483647)), (show (¬ (-1 ≤ ar1.toInt ∧ ar1.toInt ≤ 9999) → (g10 0 0).toInt = 1 ∧ (g10 45 15).toInt = (gi 45 15).toInt) ∧ ((-1 ≤ ar1.toInt ∧ ar1.toInt ≤ 9999) → (¬ gr 0 7 ≠ .null → (g10 0 0).toInt = 6 ∧ (g10 45 15).toInt = (gi 45 15).toInt) ∧ (gr 0 7 ≠ .null → (g10 0 0).toInt = 0 ∧ (g10 45 15).toInt = 1)) from ⟨fun h => (by have ffs : (g10 0 0).toInt = 6 := (congrArg Int32.toInt (by rw [e10]; exact x_up2_at _ _ _ _ : g10 0 0 = 6)).trans (by decide); have ff5 : (g10 45 15).toInt = (gi 45 15).toInt := congrArg Int32.toInt ((by rw [e10]; exact x_up2_off (Or.inr (by decide)) : g10 45 15 = gi 45 15).trans rfl); omega), fun h => ⟨fun h2 => (by have ffs : (g10 0 0).toInt = 6 := (congrArg Int32.toInt (by rw [e10]; exact x_up2_at _ _ _ _ : g10 0 0 = 6)).trans (by decide); have ff5 : (g10 45 15).toInt = (gi 45 15).toInt := congrArg Int32.toInt ((by rw [e10]; exact x_up2_off (Or.inr (by decide)) : g10 45 15 = gi 45 15).trans rfl); omega), fun h2 => absurd ((hX.1 0 7 rfl).2.2.symm.trans e9) h2⟩⟩)⟩⟩
      · refine ev_getR f_X11_keep (nx := 22) rfl (hI.wf.s rfl) rfl rfl e9 rfl rfl ?_
        refine ev_jmp f_X11_keep (nx := 32) rfl rfl rfl ?_
        refine ev_loc f_X11_keep (nx := 33) rfl rfl rfl rfl ?_
        refine ev_getR f_X11_keep (nx := 36) rfl (hI.wf.s rfl) rfl rfl (hI.wf.r rfl) rfl rfl ?_
        refine ev_loc f_X11_keep (nx := 37) rfl rfl rfl rfl ?_
        obtain ⟨a11, e11, p11⟩ := hI.2.2.2.1.1
        refine ev_getR f_X11_keep (nx := 40) rfl (hI.wf.s rfl) rfl rfl e11 rfl rfl ?_
        refine ev_loc f_X11_keep (nx := 41) rfl rfl rfl rfl ?_
        refine ev_getR f_X11_keep (nx := 44) (v := .ref a9) rfl (hI.wf.s rfl) rfl rfl e9 rfl rfl ?_
        refine ev_loc f_X11_keep (nx := 45) rfl rfl rfl rfl ?_
        refine ev_c0 f_X11_keep (nx := 48) (r := []) rfl rfl rfl rfl rfl rfl rfl (c_spendDay hI (a11) p11 (a9) p9 (ar1)) rfl hX rfl (fun gi12 gl12 gr12 hI hX hC12 => ?_)
        replace p9 := p9.ext hC12.2
        replace p11 := p11.ext hC12.2
        refine ev_loc f_X11_keep (nx := 49) rfl rfl rfl rfl ?_
        refine ev_getR f_X11_keep (nx := 52) rfl (hI.wf.s rfl) rfl rfl (hI.wf.r rfl) rfl rfl ?_
        refine ev_qN f_X11_keep (nx := 55) (r := []) rfl rfl rfl rfl rfl rfl rfl (c_f_tellDay hI ) rfl hX rfl (fun gi13 gl13 gr13 hI hX hC13 q13 => ?_)
        have q13 : (gi13 45 15).toInt = 1 := q13
        replace p9 := p9.ext hC13.2
        replace p11 := p11.ext hC13.2
        refine ev_loc f_X11_keep (nx := 56) rfl rfl rfl rfl ?_
        refine ev_loc f_X11_keep (nx := 57) rfl rfl rfl rfl ?_
        refine ev_getR f_X11_keep (nx := 60) rfl (hI.wf.s rfl) rfl rfl (hI.wf.r rfl) rfl rfl ?_
        refine ev_getI f_X11_keep (nx := 63) rfl (hI.wf.s rfl) rfl rfl rfl ?_
        refine ev_inV2 f_X11_keep (nx := 66) (lo2 := [(0, .ref 0), (1, .int (gi13 45 11))]) rfl rfl rfl rfl f_X11_answer (hI.wf.s rfl) rfl rfl rfl rfl rfl ?_
        refine ev_loc f_X11_answer (nx := 1) rfl rfl rfl rfl ?_
        refine ev_ic f_X11_answer (nx := 2) (v := 0) rfl (by decide) rfl ?_
        refine ev_putIT f_X11_answer (nx := 5) rfl (hI.wf.s rfl) rfl rfl rfl (hI.put0 (hI.wf.s rfl) rfl rfl) (hX.upI rfl) (fun g15 e15 hI hX => ?_)
        refine ev_loc f_X11_answer (nx := 6) rfl rfl rfl rfl ?_
        refine ev_retK1 f_X11_answer rfl rfl rfl ?_
        exact ev_ret f_X11_keep rfl rfl rfl ⟨_, _, _, rfl, hI, hX, ⟨_, rfl, (t_lo (gi13 45 11)), (t_hi (gi13 45 11)), (show (¬ (-1 ≤ ar1.toInt ∧ ar1.toInt ≤ 9999) → (g15 0 0).toInt = 1 ∧ (g15 45 15).toInt = (gi 45 15).toInt) ∧ ((-1 ≤ ar1.toInt ∧ ar1.toInt ≤ 9999) → (¬ gr 0 7 ≠ .null → (g15 0 0).toInt = 6 ∧ (g15 45 15).toInt = (gi 45 15).toInt) ∧ (gr 0 7 ≠ .null → (g15 0 0).toInt = 0 ∧ (g15 45 15).toInt = 1)) from ⟨fun h => (by have ffs : (g15 0 0).toInt = 0 := (congrArg Int32.toInt (by rw [e15]; exact x_up2_at _ _ _ _ : g15 0 0 = 0)).trans (by decide); have ff5 : (g15 45 15).toInt = (gi13 45 15).toInt := congrArg Int32.toInt ((by rw [e15]; exact x_up2_off (Or.inr (by decide)) : g15 45 15 = gi13 45 15).trans rfl); omega), fun h => ⟨fun h2 => absurd (fun hh => (by have h9 := ((hX.1 0 7 rfl).2.2.symm.trans ((hC13.1 0 7 rfl).2.2.trans ((hC12.1 0 7 rfl).2.2.trans e9))).symm.trans hh; cases h9)) h2, fun h2 => (by have ffs : (g15 0 0).toInt = 0 := (congrArg Int32.toInt (by rw [e15]; exact x_up2_at _ _ _ _ : g15 0 0 = 0)).trans (by decide); have ff5 : (g15 45 15).toInt = (gi13 45 15).toInt := congrArg Int32.toInt ((by rw [e15]; exact x_up2_off (Or.inr (by decide)) : g15 45 15 = gi13 45 15).trans rfl); omega)⟩⟩)⟩⟩
    · have l16 : 10000 ≤ ar1.toInt := t_ltl (t_nle h7) (by decide : (9999:Int) ≤ (9999:Int32).toInt) rfl
      refine ev_loc f_X11_keep (nx := 13) rfl rfl rfl rfl ?_
      refine ev_ic f_X11_keep (nx := 14) (v := 1) rfl (by decide) rfl ?_
      refine ev_inV2 f_X11_keep (nx := 17) (lo2 := [(0, .ref 0), (1, .int 1)]) rfl rfl rfl rfl f_X11_refuse (hI.wf.s rfl) rfl rfl rfl rfl rfl ?_
      refine ev_loc f_X11_refuse (nx := 1) rfl rfl rfl rfl ?_
      refine ev_loc f_X11_refuse (nx := 2) rfl rfl rfl rfl ?_
      refine ev_putIT f_X11_refuse (nx := 5) rfl (hI.wf.s rfl) rfl rfl rfl (hI.put0 (hI.wf.s rfl) rfl rfl) (hX.upI rfl) (fun g17 e17 hI hX => ?_)
      refine ev_ic f_X11_refuse (nx := 6) (v := -1) rfl (by decide) rfl ?_
      refine ev_retK1 f_X11_refuse rfl rfl rfl ?_
      exact ev_ret f_X11_keep rfl rfl rfl ⟨_, _, _, rfl, hI, hX, ⟨_, rfl, (Int.le_trans (by decide : ((-2147483648):Int) ≤ (-1)) (by decide : ((-1):Int) ≤ ((-1):Int32).toInt)), (Int.le_trans (by decide : ((-1):Int32).toInt ≤ ((-1):Int)) (by decide : ((-1):Int) ≤ 2147483647)), (show (¬ (-1 ≤ ar1.toInt ∧ ar1.toInt ≤ 9999) → (g17 0 0).toInt = 1 ∧ (g17 45 15).toInt = (gi 45 15).toInt) ∧ ((-1 ≤ ar1.toInt ∧ ar1.toInt ≤ 9999) → (¬ gr 0 7 ≠ .null → (g17 0 0).toInt = 6 ∧ (g17 45 15).toInt = (gi 45 15).toInt) ∧ (gr 0 7 ≠ .null → (g17 0 0).toInt = 0 ∧ (g17 45 15).toInt = 1)) from ⟨fun h => (by have ffs : (g17 0 0).toInt = 1 := (congrArg Int32.toInt (by rw [e17]; exact x_up2_at _ _ _ _ : g17 0 0 = 1)).trans (by decide); have ff5 : (g17 45 15).toInt = (gi 45 15).toInt := congrArg Int32.toInt ((by rw [e17]; exact x_up2_off (Or.inr (by decide)) : g17 45 15 = gi 45 15).trans rfl); omega), fun h => ⟨fun h2 => (by have ffs : (g17 0 0).toInt = 1 := (congrArg Int32.toInt (by rw [e17]; exact x_up2_at _ _ _ _ : g17 0 0 = 1)).trans (by decide); have ff5 : (g17 45 15).toInt = (gi 45 15).toInt := congrArg Int32.toInt ((by rw [e17]; exact x_up2_off (Or.inr (by decide)) : g17 45 15 = gi 45 15).trans rfl); omega), fun h2 => (by have ffs : (g17 0 0).toInt = 1 := (congrArg Int32.toInt (by rw [e17]; exact x_up2_at _ _ _ _ : g17 0 0 = 1)).trans (by decide); have ff5 : (g17 45 15).toInt = (gi 45 15).toInt := congrArg Int32.toInt ((by rw [e17]; exact x_up2_off (Or.inr (by decide)) : g17 45 15 = gi 45 15).trans rfl); omega)⟩⟩)⟩⟩
noncomputable def wl_f_kept : List (Nat × Nat) := [(0, 0)]
noncomputable def Q_f_kept (gi : Nat → Nat → Int32) (gl : Nat → Nat → Int64) (gr : Nat → Nat → Value) (ar1 : Int32) : Int32 → (Nat → Nat → Int32) → (Nat → Nat → Int64) → (Nat → Nat → Value) → Prop := fun (v : Int32) (gi2 : Nat → Nat → Int32) (gl2 : Nat → Nat → Int64) (gr2 : Nat → Nat → Value) => (¬ (0 ≤ ar1.toInt ∧ ar1.toInt ≤ 4) → (gi2 0 0).toInt = 1) ∧ ((0 ≤ ar1.toInt ∧ ar1.toInt ≤ 4) → ((gi 45 15).toInt = 0 → (gi2 0 0).toInt = 6) ∧ ((gi 45 15).toInt ≠ 0 → (gi2 0 0).toInt = 0))
theorem c_f_kept {X : x_Ext} {d : Nat} {sh : List (Nat ⊕ (Nat × Nat))} {gi : Nat → Nat → Int32} {gl : Nat → Nat → Int64} {gr : Nat → Nat → Value} (hI : t_I sh gi gr) (ar1 : Int32) : x_Me X (d + 2) n_X11_kept [.ref 0, .int ar1] (sh, gi, gl, gr) (t_PI wl_f_kept sh gi gl gr (-2147483648) 2147483647 (Q_f_kept gi gl gr ar1)) := by
  have hX : t_X wl_f_kept sh gi gl gr gi gl gr := t_X.rf
  refine me_i f_X11_kept (hI.wf.s rfl) rfl rfl rfl ?_
  refine ev_loc f_X11_kept (nx := 1) rfl rfl rfl rfl ?_
  refine ev_if f_X11_kept (t1 := 16) (t2 := 4) rfl rfl rfl (fun h3 => ?_) (fun h3 => ?_)
  · have u4 : ar1.toInt ≤ (-1) := t_ltu h3 (by decide : (0:Int32).toInt ≤ (0:Int)) rfl
    refine ev_loc f_X11_kept (nx := 17) rfl rfl rfl rfl ?_
    refine ev_ic f_X11_kept (nx := 18) (v := 1) rfl (by decide) rfl ?_
    refine ev_inV2 f_X11_kept (nx := 21) (lo2 := [(0, .ref 0), (1, .int 1)]) rfl rfl rfl rfl f_X11_refuse (hI.wf.s rfl) rfl rfl rfl rfl rfl ?_
    refine ev_loc f_X11_refuse (nx := 1) rfl rfl rfl rfl ?_
    refine ev_loc f_X11_refuse (nx := 2) rfl rfl rfl rfl ?_
    refine ev_putIT f_X11_refuse (nx := 5) rfl (hI.wf.s rfl) rfl rfl rfl (hI.put0 (hI.wf.s rfl) rfl rfl) (hX.upI rfl) (fun g5 e5 hI hX => ?_)
    refine ev_ic f_X11_refuse (nx := 6) (v := -1) rfl (by decide) rfl ?_
    refine ev_retK1 f_X11_refuse rfl rfl rfl ?_
    exact ev_ret f_X11_kept rfl rfl rfl ⟨_, _, _, rfl, hI, hX, ⟨_, rfl, (Int.le_trans (by decide : ((-2147483648):Int) ≤ (-1)) (by decide : ((-1):Int) ≤ ((-1):Int32).toInt)), (Int.le_trans (by decide : ((-1):Int32).toInt ≤ ((-1):Int)) (by decide : ((-1):Int) ≤ 2147483647)), (show (¬ (0 ≤ ar1.toInt ∧ ar1.toInt ≤ 4) → (g5 0 0).toInt = 1) ∧ ((0 ≤ ar1.toInt ∧ ar1.toInt ≤ 4) → ((gi 45 15).toInt = 0 → (g5 0 0).toInt = 6) ∧ ((gi 45 15).toInt ≠ 0 → (g5 0 0).toInt = 0)) from ⟨fun h => (by have ffs : (g5 0 0).toInt = 1 := (congrArg Int32.toInt (by rw [e5]; exact x_up2_at _ _ _ _ : g5 0 0 = 1)).trans (by decide); omega), fun h => ⟨fun h2 => (by have ffs : (g5 0 0).toInt = 1 := (congrArg Int32.toInt (by rw [e5]; exact x_up2_at _ _ _ _ : g5 0 0 = 1)).trans (by decide); omega), fun h2 => (by have ffs : (g5 0 0).toInt = 1 := (congrArg Int32.toInt (by rw [e5]; exact x_up2_at _ _ _ _ : g5 0 0 = 1)).trans (by decide); omega)⟩⟩)⟩⟩
  · have l6 : 0 ≤ ar1.toInt := t_lel (t_nlt h3) (by decide : (0:Int) ≤ (0:Int32).toInt)
    refine ev_loc f_X11_kept (nx := 5) rfl rfl rfl rfl ?_
    refine ev_loc f_X11_kept (nx := 6) rfl rfl rfl rfl ?_
    refine ev_getR f_X11_kept (nx := 9) rfl (hI.wf.s rfl) rfl rfl (hI.wf.r rfl) rfl rfl ?_
    refine ev_getR f_X11_kept (nx := 12) rfl (hI.wf.s rfl) rfl rfl (hI.wf.r rfl) rfl rfl ?_
    refine ev_alenv f_X11_kept (nx := 13) (w := 5) rfl (hI.wf.s rfl) rfl (by decide) rfl ?_
    refine ev_if f_X11_kept (t1 := 22) (t2 := 16) rfl rfl rfl (fun h7 => ?_) (fun h7 => ?_)
    · have u8 : ar1.toInt ≤ 4 := t_ltu h7 (by decide : (5:Int32).toInt ≤ (5:Int)) rfl
      refine ev_loc f_X11_kept (nx := 23) rfl rfl rfl rfl ?_
      refine ev_getR f_X11_kept (nx := 26) rfl (hI.wf.s rfl) rfl rfl (hI.wf.r rfl) rfl rfl ?_
      refine ev_gvI f_X11_kept (nx := 29) (w := (gi 45 15)) rfl (hI.wf.s rfl) rfl rfl rfl rfl ?_
      refine ev_if f_X11_kept (t1 := 48) (t2 := 32) rfl rfl rfl (fun h9 => ?_) (fun h9 => ?_)
      · have u10 : (gi 45 15).toInt ≤ 0 := t_equ h9 (by decide : (0:Int32).toInt ≤ (0:Int))
        have l11 : 0 ≤ (gi 45 15).toInt := t_eql h9 (by decide : (0:Int) ≤ (0:Int32).toInt)
        refine ev_loc f_X11_kept (nx := 49) rfl rfl rfl rfl ?_
        refine ev_bp f_X11_kept (nx := 51) (v := 6) rfl (by decide) rfl ?_
        refine ev_inV2 f_X11_kept (nx := 54) (lo2 := [(0, .ref 0), (1, .int 6)]) rfl rfl rfl rfl f_X11_refuse (hI.wf.s rfl) rfl rfl rfl rfl rfl ?_
        refine ev_loc f_X11_refuse (nx := 1) rfl rfl rfl rfl ?_
        refine ev_loc f_X11_refuse (nx := 2) rfl rfl rfl rfl ?_
        refine ev_putIT f_X11_refuse (nx := 5) rfl (hI.wf.s rfl) rfl rfl rfl (hI.put0 (hI.wf.s rfl) rfl rfl) (hX.upI rfl) (fun g12 e12 hI hX => ?_)
        refine ev_ic f_X11_refuse (nx := 6) (v := -1) rfl (by decide) rfl ?_
        refine ev_retK1 f_X11_refuse rfl rfl rfl ?_
        exact ev_ret f_X11_kept rfl rfl rfl ⟨_, _, _, rfl, hI, hX, ⟨_, rfl, (Int.le_trans (by decide : ((-2147483648):Int) ≤ (-1)) (by decide : ((-1):Int) ≤ ((-1):Int32).toInt)), (Int.le_trans (by decide : ((-1):Int32).toInt ≤ ((-1):Int)) (by decide : ((-1):Int) ≤ 2147483647)), (show (¬ (0 ≤ ar1.toInt ∧ ar1.toInt ≤ 4) → (g12 0 0).toInt = 1) ∧ ((0 ≤ ar1.toInt ∧ ar1.toInt ≤ 4) → ((gi 45 15).toInt = 0 → (g12 0 0).toInt = 6) ∧ ((gi 45 15).toInt ≠ 0 → (g12 0 0).toInt = 0)) from ⟨fun h => (by have ffs : (g12 0 0).toInt = 6 := (congrArg Int32.toInt (by rw [e12]; exact x_up2_at _ _ _ _ : g12 0 0 = 6)).trans (by decide); omega), fun h => ⟨fun h2 => (by have ffs : (g12 0 0).toInt = 6 := (congrArg Int32.toInt (by rw [e12]; exact x_up2_at _ _ _ _ : g12 0 0 = 6)).trans (by decide); omega), fun h2 => (by have ffs : (g12 0 0).toInt = 6 := (congrArg Int32.toInt (by rw [e12]; exact x_up2_at _ _ _ _ : g12 0 0 = 6)).trans (by decide); omega)⟩⟩)⟩⟩
      · have r13 : (gi 45 15).toInt ≠ 0 := fun e => h9 (Int32.toInt_inj.mp (e.trans (by decide : (0:Int) = (0 : Int32).toInt)))
        refine ev_loc f_X11_kept (nx := 33) rfl rfl rfl rfl ?_
        refine ev_loc f_X11_kept (nx := 34) rfl rfl rfl rfl ?_
        refine ev_getR f_X11_kept (nx := 37) rfl (hI.wf.s rfl) rfl rfl (hI.wf.r rfl) rfl rfl ?_
        refine ev_getR f_X11_kept (nx := 40) rfl (hI.wf.s rfl) rfl rfl (hI.wf.r rfl) rfl rfl ?_
        refine ev_loc f_X11_kept (nx := 41) rfl rfl rfl rfl ?_
        refine ev_ialdT f_X11_kept (nx := 42) rfl (hI.wf.s rfl) l6 (by decide) u8 (by decide) rfl (fun w14 e14 => ?_)
        refine ev_inV2 f_X11_kept (nx := 45) (lo2 := [(0, .ref 0), (1, .int w14)]) rfl rfl rfl rfl f_X11_answer (hI.wf.s rfl) rfl rfl rfl rfl rfl ?_
        refine ev_loc f_X11_answer (nx := 1) rfl rfl rfl rfl ?_
        refine ev_ic f_X11_answer (nx := 2) (v := 0) rfl (by decide) rfl ?_
        refine ev_putIT f_X11_answer (nx := 5) rfl (hI.wf.s rfl) rfl rfl rfl (hI.put0 (hI.wf.s rfl) rfl rfl) (hX.upI rfl) (fun g15 e15 hI hX => ?_)
        refine ev_loc f_X11_answer (nx := 6) rfl rfl rfl rfl ?_
        refine ev_retK1 f_X11_answer rfl rfl rfl ?_
        refine ev_jmp f_X11_kept (nx := 54) rfl rfl rfl ?_
        exact ev_ret f_X11_kept rfl rfl rfl ⟨_, _, _, rfl, hI, hX, ⟨_, rfl, (t_lo w14), (t_hi w14), (show (¬ (0 ≤ ar1.toInt ∧ ar1.toInt ≤ 4) → (g15 0 0).toInt = 1) ∧ ((0 ≤ ar1.toInt ∧ ar1.toInt ≤ 4) → ((gi 45 15).toInt = 0 → (g15 0 0).toInt = 6) ∧ ((gi 45 15).toInt ≠ 0 → (g15 0 0).toInt = 0)) from ⟨fun h => (by have ffs : (g15 0 0).toInt = 0 := (congrArg Int32.toInt (by rw [e15]; exact x_up2_at _ _ _ _ : g15 0 0 = 0)).trans (by decide); omega), fun h => ⟨fun h2 => (by have ffs : (g15 0 0).toInt = 0 := (congrArg Int32.toInt (by rw [e15]; exact x_up2_at _ _ _ _ : g15 0 0 = 0)).trans (by decide); omega), fun h2 => (by have ffs : (g15 0 0).toInt = 0 := (congrArg Int32.toInt (by rw [e15]; exact x_up2_at _ _ _ _ : g15 0 0 = 0)).trans (by decide); omega)⟩⟩)⟩⟩
    · have l16 : 5 ≤ ar1.toInt := t_lel (t_nlt h7) (by decide : (5:Int) ≤ (5:Int32).toInt)
      refine ev_loc f_X11_kept (nx := 17) rfl rfl rfl rfl ?_
      refine ev_ic f_X11_kept (nx := 18) (v := 1) rfl (by decide) rfl ?_
      refine ev_inV2 f_X11_kept (nx := 21) (lo2 := [(0, .ref 0), (1, .int 1)]) rfl rfl rfl rfl f_X11_refuse (hI.wf.s rfl) rfl rfl rfl rfl rfl ?_
      refine ev_loc f_X11_refuse (nx := 1) rfl rfl rfl rfl ?_
      refine ev_loc f_X11_refuse (nx := 2) rfl rfl rfl rfl ?_
      refine ev_putIT f_X11_refuse (nx := 5) rfl (hI.wf.s rfl) rfl rfl rfl (hI.put0 (hI.wf.s rfl) rfl rfl) (hX.upI rfl) (fun g17 e17 hI hX => ?_)
      refine ev_ic f_X11_refuse (nx := 6) (v := -1) rfl (by decide) rfl ?_
      refine ev_retK1 f_X11_refuse rfl rfl rfl ?_
      exact ev_ret f_X11_kept rfl rfl rfl ⟨_, _, _, rfl, hI, hX, ⟨_, rfl, (Int.le_trans (by decide : ((-2147483648):Int) ≤ (-1)) (by decide : ((-1):Int) ≤ ((-1):Int32).toInt)), (Int.le_trans (by decide : ((-1):Int32).toInt ≤ ((-1):Int)) (by decide : ((-1):Int) ≤ 2147483647)), (show (¬ (0 ≤ ar1.toInt ∧ ar1.toInt ≤ 4) → (g17 0 0).toInt = 1) ∧ ((0 ≤ ar1.toInt ∧ ar1.toInt ≤ 4) → ((gi 45 15).toInt = 0 → (g17 0 0).toInt = 6) ∧ ((gi 45 15).toInt ≠ 0 → (g17 0 0).toInt = 0)) from ⟨fun h => (by have ffs : (g17 0 0).toInt = 1 := (congrArg Int32.toInt (by rw [e17]; exact x_up2_at _ _ _ _ : g17 0 0 = 1)).trans (by decide); omega), fun h => ⟨fun h2 => (by have ffs : (g17 0 0).toInt = 1 := (congrArg Int32.toInt (by rw [e17]; exact x_up2_at _ _ _ _ : g17 0 0 = 1)).trans (by decide); omega), fun h2 => (by have ffs : (g17 0 0).toInt = 1 := (congrArg Int32.toInt (by rw [e17]; exact x_up2_at _ _ _ _ : g17 0 0 = 1)).trans (by decide); omega)⟩⟩)⟩⟩
noncomputable def wl_f_odds : List (Nat × Nat) := [(0, 0), (0, 1), (0, 2), (45, 4), (45, 5), (45, 6), (45, 7), (45, 8), (45, 9), (45, 10), (45, 11), (45, 12), (45, 13), (45, 14), (46, 0), (47, 9999), (48, 9999), (49, 9999), (50, 9999), (51, 9999), (52, 0), (53, 9999), (54, 9999), (55, 9999), (56, 9999), (57, 9999), (58, 9999), (59, 9999)]
noncomputable def Q_f_odds (gi : Nat → Nat → Int32) (gl : Nat → Nat → Int64) (gr : Nat → Nat → Value) (ar1 : Int32) (ar2 : Int32) : Int32 → (Nat → Nat → Int32) → (Nat → Nat → Int64) → (Nat → Nat → Value) → Prop := fun (v : Int32) (gi2 : Nat → Nat → Int32) (gl2 : Nat → Nat → Int64) (gr2 : Nat → Nat → Value) => (¬ (0 ≤ ar1.toInt ∧ ar1.toInt ≤ 9999 ∧ 1 ≤ ar2.toInt ∧ ar2.toInt ≤ 20 ∧ ar1.toInt + ar2.toInt ≤ 10000) → (gi2 0 0).toInt = 1) ∧ ((0 ≤ ar1.toInt ∧ ar1.toInt ≤ 9999 ∧ 1 ≤ ar2.toInt ∧ ar2.toInt ≤ 20 ∧ ar1.toInt + ar2.toInt ≤ 10000) → (¬ gr 0 7 ≠ .null → (gi2 0 0).toInt = 6) ∧ (gr 0 7 ≠ .null → (gi2 0 0).toInt = 0))
theorem c_f_odds {X : x_Ext} {d : Nat} {sh : List (Nat ⊕ (Nat × Nat))} {gi : Nat → Nat → Int32} {gl : Nat → Nat → Int64} {gr : Nat → Nat → Value} (hI : t_I sh gi gr) (ar1 : Int32) (ar2 : Int32) : x_Me X (d + 6) n_X11_odds [.ref 0, .int ar1, .int ar2] (sh, gi, gl, gr) (t_PI wl_f_odds sh gi gl gr 0 1 (Q_f_odds gi gl gr ar1 ar2)) := by
  have hX : t_X wl_f_odds sh gi gl gr gi gl gr := t_X.rf
  refine me_i f_X11_odds (hI.wf.s rfl) rfl rfl rfl ?_
  refine ev_loc f_X11_odds (nx := 1) rfl rfl rfl rfl ?_
  refine ev_loc f_X11_odds (nx := 2) rfl rfl rfl rfl ?_
  refine ev_loc f_X11_odds (nx := 3) rfl rfl rfl rfl ?_
  refine ev_inV3 f_X11_odds (nx := 6) (lo2 := [(0, .ref 0), (1, .int ar1), (2, .int ar2)]) rfl rfl rfl rfl f_X11_wrongSeeds (hI.wf.s rfl) rfl rfl rfl rfl rfl ?_
  refine ev_loc f_X11_wrongSeeds (nx := 1) rfl rfl rfl rfl ?_
  refine ev_if f_X11_wrongSeeds (t1 := 33) (t2 := 4) rfl rfl rfl (fun h2 => ?_) (fun h2 => ?_)
  · have u3 : ar1.toInt ≤ (-1) := t_ltu h2 (by decide : (0:Int32).toInt ≤ (0:Int)) rfl
    refine ev_ic f_X11_wrongSeeds (nx := 34) (v := 1) rfl (by decide) rfl ?_
    refine ev_retK1 f_X11_wrongSeeds rfl rfl rfl ?_
    refine ev_loc f_X11_odds (nx := 7) (lo' := [(3, .int 1), (0, .ref 0), (1, .int ar1), (2, .int ar2)]) rfl rfl rfl rfl ?_
    refine ev_loc f_X11_odds (nx := 8) rfl rfl rfl rfl ?_
    refine ev_f f_X11_odds (t1 := 17) (t2 := 11) rfl rfl rfl (by decide) ?_
    refine ev_loc f_X11_odds (nx := 12) rfl rfl rfl rfl ?_
    refine ev_loc f_X11_odds (nx := 13) rfl rfl rfl rfl ?_
    refine ev_inV2 f_X11_odds (nx := 16) (lo2 := [(0, .ref 0), (1, .int 1)]) rfl rfl rfl rfl f_X11_deny (hI.wf.s rfl) rfl rfl rfl rfl rfl ?_
    refine ev_loc f_X11_deny (nx := 1) rfl rfl rfl rfl ?_
    refine ev_loc f_X11_deny (nx := 2) rfl rfl rfl rfl ?_
    refine ev_putIT f_X11_deny (nx := 5) rfl (hI.wf.s rfl) rfl rfl rfl (hI.put0 (hI.wf.s rfl) rfl rfl) (hX.upI rfl) (fun g4 e4 hI hX => ?_)
    refine ev_ic f_X11_deny (nx := 6) (v := 0) rfl (by decide) rfl ?_
    refine ev_retK1 f_X11_deny rfl rfl rfl ?_
    exact ev_ret f_X11_odds rfl rfl rfl ⟨_, _, _, rfl, hI, hX, ⟨_, rfl, (by decide : (0:Int) ≤ (0:Int32).toInt), (Int.le_trans (by decide : (0:Int32).toInt ≤ (0:Int)) (by decide : (0:Int) ≤ 1)), (show (¬ (0 ≤ ar1.toInt ∧ ar1.toInt ≤ 9999 ∧ 1 ≤ ar2.toInt ∧ ar2.toInt ≤ 20 ∧ ar1.toInt + ar2.toInt ≤ 10000) → (g4 0 0).toInt = 1) ∧ ((0 ≤ ar1.toInt ∧ ar1.toInt ≤ 9999 ∧ 1 ≤ ar2.toInt ∧ ar2.toInt ≤ 20 ∧ ar1.toInt + ar2.toInt ≤ 10000) → (¬ gr 0 7 ≠ .null → (g4 0 0).toInt = 6) ∧ (gr 0 7 ≠ .null → (g4 0 0).toInt = 0)) from ⟨fun h => (by have ffs : (g4 0 0).toInt = 1 := (congrArg Int32.toInt (by rw [e4]; exact x_up2_at _ _ _ _ : g4 0 0 = 1)).trans (by decide); omega), fun h => ⟨fun h2 => (by have ffs : (g4 0 0).toInt = 1 := (congrArg Int32.toInt (by rw [e4]; exact x_up2_at _ _ _ _ : g4 0 0 = 1)).trans (by decide); omega), fun h2 => (by have ffs : (g4 0 0).toInt = 1 := (congrArg Int32.toInt (by rw [e4]; exact x_up2_at _ _ _ _ : g4 0 0 = 1)).trans (by decide); omega)⟩⟩)⟩⟩
  · have l5 : 0 ≤ ar1.toInt := t_lel (t_nlt h2) (by decide : (0:Int) ≤ (0:Int32).toInt)
    refine ev_loc f_X11_wrongSeeds (nx := 5) rfl rfl rfl rfl ?_
    refine ev_sp f_X11_wrongSeeds (nx := 8) (v := 9999) rfl (by decide) rfl ?_
    refine ev_if f_X11_wrongSeeds (t1 := 33) (t2 := 11) rfl rfl rfl (fun h6 => ?_) (fun h6 => ?_)
    · have l7 : 10000 ≤ ar1.toInt := t_ltl h6 (by decide : (9999:Int) ≤ (9999:Int32).toInt) rfl
      refine ev_ic f_X11_wrongSeeds (nx := 34) (v := 1) rfl (by decide) rfl ?_
      refine ev_retK1 f_X11_wrongSeeds rfl rfl rfl ?_
      refine ev_loc f_X11_odds (nx := 7) (lo' := [(3, .int 1), (0, .ref 0), (1, .int ar1), (2, .int ar2)]) rfl rfl rfl rfl ?_
      refine ev_loc f_X11_odds (nx := 8) rfl rfl rfl rfl ?_
      refine ev_f f_X11_odds (t1 := 17) (t2 := 11) rfl rfl rfl (by decide) ?_
      refine ev_loc f_X11_odds (nx := 12) rfl rfl rfl rfl ?_
      refine ev_loc f_X11_odds (nx := 13) rfl rfl rfl rfl ?_
      refine ev_inV2 f_X11_odds (nx := 16) (lo2 := [(0, .ref 0), (1, .int 1)]) rfl rfl rfl rfl f_X11_deny (hI.wf.s rfl) rfl rfl rfl rfl rfl ?_
      refine ev_loc f_X11_deny (nx := 1) rfl rfl rfl rfl ?_
      refine ev_loc f_X11_deny (nx := 2) rfl rfl rfl rfl ?_
      refine ev_putIT f_X11_deny (nx := 5) rfl (hI.wf.s rfl) rfl rfl rfl (hI.put0 (hI.wf.s rfl) rfl rfl) (hX.upI rfl) (fun g8 e8 hI hX => ?_)
      refine ev_ic f_X11_deny (nx := 6) (v := 0) rfl (by decide) rfl ?_
      refine ev_retK1 f_X11_deny rfl rfl rfl ?_
      exact ev_ret f_X11_odds rfl rfl rfl ⟨_, _, _, rfl, hI, hX, ⟨_, rfl, (by decide : (0:Int) ≤ (0:Int32).toInt), (Int.le_trans (by decide : (0:Int32).toInt ≤ (0:Int)) (by decide : (0:Int) ≤ 1)), (show (¬ (0 ≤ ar1.toInt ∧ ar1.toInt ≤ 9999 ∧ 1 ≤ ar2.toInt ∧ ar2.toInt ≤ 20 ∧ ar1.toInt + ar2.toInt ≤ 10000) → (g8 0 0).toInt = 1) ∧ ((0 ≤ ar1.toInt ∧ ar1.toInt ≤ 9999 ∧ 1 ≤ ar2.toInt ∧ ar2.toInt ≤ 20 ∧ ar1.toInt + ar2.toInt ≤ 10000) → (¬ gr 0 7 ≠ .null → (g8 0 0).toInt = 6) ∧ (gr 0 7 ≠ .null → (g8 0 0).toInt = 0)) from ⟨fun h => (by have ffs : (g8 0 0).toInt = 1 := (congrArg Int32.toInt (by rw [e8]; exact x_up2_at _ _ _ _ : g8 0 0 = 1)).trans (by decide); omega), fun h => ⟨fun h2 => (by have ffs : (g8 0 0).toInt = 1 := (congrArg Int32.toInt (by rw [e8]; exact x_up2_at _ _ _ _ : g8 0 0 = 1)).trans (by decide); omega), fun h2 => (by have ffs : (g8 0 0).toInt = 1 := (congrArg Int32.toInt (by rw [e8]; exact x_up2_at _ _ _ _ : g8 0 0 = 1)).trans (by decide); omega)⟩⟩)⟩⟩
    · have u9 : ar1.toInt ≤ 9999 := t_leu (t_nlt h6) (by decide : (9999:Int32).toInt ≤ (9999:Int))
      refine ev_loc f_X11_wrongSeeds (nx := 12) rfl rfl rfl rfl ?_
      refine ev_ic f_X11_wrongSeeds (nx := 13) (v := 1) rfl (by decide) rfl ?_
      refine ev_if f_X11_wrongSeeds (t1 := 33) (t2 := 16) rfl rfl rfl (fun h10 => ?_) (fun h10 => ?_)
      · have u11 : ar2.toInt ≤ 0 := t_ltu h10 (by decide : (1:Int32).toInt ≤ (1:Int)) rfl
        refine ev_ic f_X11_wrongSeeds (nx := 34) (v := 1) rfl (by decide) rfl ?_
        refine ev_retK1 f_X11_wrongSeeds rfl rfl rfl ?_
        refine ev_loc f_X11_odds (nx := 7) (lo' := [(3, .int 1), (0, .ref 0), (1, .int ar1), (2, .int ar2)]) rfl rfl rfl rfl ?_
        refine ev_loc f_X11_odds (nx := 8) rfl rfl rfl rfl ?_
        refine ev_f f_X11_odds (t1 := 17) (t2 := 11) rfl rfl rfl (by decide) ?_
        refine ev_loc f_X11_odds (nx := 12) rfl rfl rfl rfl ?_
        refine ev_loc f_X11_odds (nx := 13) rfl rfl rfl rfl ?_
        refine ev_inV2 f_X11_odds (nx := 16) (lo2 := [(0, .ref 0), (1, .int 1)]) rfl rfl rfl rfl f_X11_deny (hI.wf.s rfl) rfl rfl rfl rfl rfl ?_
        refine ev_loc f_X11_deny (nx := 1) rfl rfl rfl rfl ?_
        refine ev_loc f_X11_deny (nx := 2) rfl rfl rfl rfl ?_
        refine ev_putIT f_X11_deny (nx := 5) rfl (hI.wf.s rfl) rfl rfl rfl (hI.put0 (hI.wf.s rfl) rfl rfl) (hX.upI rfl) (fun g12 e12 hI hX => ?_)
        refine ev_ic f_X11_deny (nx := 6) (v := 0) rfl (by decide) rfl ?_
        refine ev_retK1 f_X11_deny rfl rfl rfl ?_
        exact ev_ret f_X11_odds rfl rfl rfl ⟨_, _, _, rfl, hI, hX, ⟨_, rfl, (by decide : (0:Int) ≤ (0:Int32).toInt), (Int.le_trans (by decide : (0:Int32).toInt ≤ (0:Int)) (by decide : (0:Int) ≤ 1)), (show (¬ (0 ≤ ar1.toInt ∧ ar1.toInt ≤ 9999 ∧ 1 ≤ ar2.toInt ∧ ar2.toInt ≤ 20 ∧ ar1.toInt + ar2.toInt ≤ 10000) → (g12 0 0).toInt = 1) ∧ ((0 ≤ ar1.toInt ∧ ar1.toInt ≤ 9999 ∧ 1 ≤ ar2.toInt ∧ ar2.toInt ≤ 20 ∧ ar1.toInt + ar2.toInt ≤ 10000) → (¬ gr 0 7 ≠ .null → (g12 0 0).toInt = 6) ∧ (gr 0 7 ≠ .null → (g12 0 0).toInt = 0)) from ⟨fun h => (by have ffs : (g12 0 0).toInt = 1 := (congrArg Int32.toInt (by rw [e12]; exact x_up2_at _ _ _ _ : g12 0 0 = 1)).trans (by decide); omega), fun h => ⟨fun h2 => (by have ffs : (g12 0 0).toInt = 1 := (congrArg Int32.toInt (by rw [e12]; exact x_up2_at _ _ _ _ : g12 0 0 = 1)).trans (by decide); omega), fun h2 => (by have ffs : (g12 0 0).toInt = 1 := (congrArg Int32.toInt (by rw [e12]; exact x_up2_at _ _ _ _ : g12 0 0 = 1)).trans (by decide); omega)⟩⟩)⟩⟩
      · have l13 : 1 ≤ ar2.toInt := t_lel (t_nlt h10) (by decide : (1:Int) ≤ (1:Int32).toInt)
        refine ev_loc f_X11_wrongSeeds (nx := 17) rfl rfl rfl rfl ?_
        refine ev_bp f_X11_wrongSeeds (nx := 19) (v := 20) rfl (by decide) rfl ?_
        refine ev_if f_X11_wrongSeeds (t1 := 33) (t2 := 22) rfl rfl rfl (fun h14 => ?_) (fun h14 => ?_)
        · have l15 : 21 ≤ ar2.toInt := t_ltl h14 (by decide : (20:Int) ≤ (20:Int32).toInt) rfl
          refine ev_ic f_X11_wrongSeeds (nx := 34) (v := 1) rfl (by decide) rfl ?_
          refine ev_retK1 f_X11_wrongSeeds rfl rfl rfl ?_
          refine ev_loc f_X11_odds (nx := 7) (lo' := [(3, .int 1), (0, .ref 0), (1, .int ar1), (2, .int ar2)]) rfl rfl rfl rfl ?_
          refine ev_loc f_X11_odds (nx := 8) rfl rfl rfl rfl ?_
          refine ev_f f_X11_odds (t1 := 17) (t2 := 11) rfl rfl rfl (by decide) ?_
          refine ev_loc f_X11_odds (nx := 12) rfl rfl rfl rfl ?_
          refine ev_loc f_X11_odds (nx := 13) rfl rfl rfl rfl ?_
          refine ev_inV2 f_X11_odds (nx := 16) (lo2 := [(0, .ref 0), (1, .int 1)]) rfl rfl rfl rfl f_X11_deny (hI.wf.s rfl) rfl rfl rfl rfl rfl ?_
          refine ev_loc f_X11_deny (nx := 1) rfl rfl rfl rfl ?_
          refine ev_loc f_X11_deny (nx := 2) rfl rfl rfl rfl ?_
          refine ev_putIT f_X11_deny (nx := 5) rfl (hI.wf.s rfl) rfl rfl rfl (hI.put0 (hI.wf.s rfl) rfl rfl) (hX.upI rfl) (fun g16 e16 hI hX => ?_)
          refine ev_ic f_X11_deny (nx := 6) (v := 0) rfl (by decide) rfl ?_
          refine ev_retK1 f_X11_deny rfl rfl rfl ?_
          exact ev_ret f_X11_odds rfl rfl rfl ⟨_, _, _, rfl, hI, hX, ⟨_, rfl, (by decide : (0:Int) ≤ (0:Int32).toInt), (Int.le_trans (by decide : (0:Int32).toInt ≤ (0:Int)) (by decide : (0:Int) ≤ 1)), (show (¬ (0 ≤ ar1.toInt ∧ ar1.toInt ≤ 9999 ∧ 1 ≤ ar2.toInt ∧ ar2.toInt ≤ 20 ∧ ar1.toInt + ar2.toInt ≤ 10000) → (g16 0 0).toInt = 1) ∧ ((0 ≤ ar1.toInt ∧ ar1.toInt ≤ 9999 ∧ 1 ≤ ar2.toInt ∧ ar2.toInt ≤ 20 ∧ ar1.toInt + ar2.toInt ≤ 10000) → (¬ gr 0 7 ≠ .null → (g16 0 0).toInt = 6) ∧ (gr 0 7 ≠ .null → (g16 0 0).toInt = 0)) from ⟨fun h => (by have ffs : (g16 0 0).toInt = 1 := (congrArg Int32.toInt (by rw [e16]; exact x_up2_at _ _ _ _ : g16 0 0 = 1)).trans (by decide); omega), fun h => ⟨fun h2 => (by have ffs : (g16 0 0).toInt = 1 := (congrArg Int32.toInt (by rw [e16]; exact x_up2_at _ _ _ _ : g16 0 0 = 1)).trans (by decide); omega), fun h2 => (by have ffs : (g16 0 0).toInt = 1 := (congrArg Int32.toInt (by rw [e16]; exact x_up2_at _ _ _ _ : g16 0 0 = 1)).trans (by decide); omega)⟩⟩)⟩⟩
        · have u17 : ar2.toInt ≤ 20 := t_leu (t_nlt h14) (by decide : (20:Int32).toInt ≤ (20:Int))
          refine ev_loc f_X11_wrongSeeds (nx := 23) rfl rfl rfl rfl ?_
          refine ev_loc f_X11_wrongSeeds (nx := 24) rfl rfl rfl rfl ?_
          refine ev_addR f_X11_wrongSeeds (nx := 25) (l := 1) (u := 10019) rfl l5 u9 l13 u17 rfl rfl (by decide) (by decide) rfl (fun z18 e18 l18 u18 => ?_)
          refine ev_ic f_X11_wrongSeeds (nx := 26) (v := 1) rfl (by decide) rfl ?_
          refine ev_subC f_X11_wrongSeeds (nx := 27) (c := 1) (l := 0) (u := 10018) rfl (by decide) l18 u18 rfl rfl (by decide) (by decide) rfl (fun z19 e19 l19 u19 => ?_)
          refine ev_sp f_X11_wrongSeeds (nx := 30) (v := 9999) rfl (by decide) rfl ?_
          refine ev_if f_X11_wrongSeeds (t1 := 35) (t2 := 33) rfl rfl rfl (fun h20 => ?_) (fun h20 => ?_)
          · have u21 : z19.toInt ≤ 9999 := t_leu h20 (by decide : (9999:Int32).toInt ≤ (9999:Int))
            refine ev_loc f_X11_wrongSeeds (nx := 36) rfl rfl rfl rfl ?_
            rcases hI.2.2.2.1.2.1 with e22 | ⟨a22, e22, p22⟩
            · refine ev_getR f_X11_wrongSeeds (nx := 39) rfl (hI.wf.s rfl) rfl rfl e22 rfl rfl ?_
              refine ev_jmp f_X11_wrongSeeds (nx := 42) rfl rfl rfl ?_
              refine ev_bp f_X11_wrongSeeds (nx := 44) (v := 6) rfl (by decide) rfl ?_
              refine ev_jmp f_X11_wrongSeeds (nx := 48) rfl rfl rfl ?_
              refine ev_retK1 f_X11_wrongSeeds rfl rfl rfl ?_
              refine ev_loc f_X11_odds (nx := 7) (lo' := [(3, .int 6), (0, .ref 0), (1, .int ar1), (2, .int ar2)]) rfl rfl rfl rfl ?_
              refine ev_loc f_X11_odds (nx := 8) rfl rfl rfl rfl ?_
              refine ev_f f_X11_odds (t1 := 17) (t2 := 11) rfl rfl rfl (by decide) ?_
              refine ev_loc f_X11_odds (nx := 12) rfl rfl rfl rfl ?_
              refine ev_loc f_X11_odds (nx := 13) rfl rfl rfl rfl ?_
              refine ev_inV2 f_X11_odds (nx := 16) (lo2 := [(0, .ref 0), (1, .int 6)]) rfl rfl rfl rfl f_X11_deny (hI.wf.s rfl) rfl rfl rfl rfl rfl ?_
              refine ev_loc f_X11_deny (nx := 1) rfl rfl rfl rfl ?_
              refine ev_loc f_X11_deny (nx := 2) rfl rfl rfl rfl ?_
              refine ev_putIT f_X11_deny (nx := 5) rfl (hI.wf.s rfl) rfl rfl rfl (hI.put0 (hI.wf.s rfl) rfl rfl) (hX.upI rfl) (fun g23 e23 hI hX => ?_)
              refine ev_ic f_X11_deny (nx := 6) (v := 0) rfl (by decide) rfl ?_
              refine ev_retK1 f_X11_deny rfl rfl rfl ?_
              exact ev_ret f_X11_odds rfl rfl rfl ⟨_, _, _, rfl, hI, hX, ⟨_, rfl, (by decide : (0:Int) ≤ (0:Int32).toInt), (Int.le_trans (by decide : (0:Int32).toInt ≤ (0:Int)) (by decide : (0:Int) ≤ 1)), (show (¬ (0 ≤ ar1.toInt ∧ ar1.toInt ≤ 9999 ∧ 1 ≤ ar2.toInt ∧ ar2.toInt ≤ 20 ∧ ar1.toInt + ar2.toInt ≤ 10000) → (g23 0 0).toInt = 1) ∧ ((0 ≤ ar1.toInt ∧ ar1.toInt ≤ 9999 ∧ 1 ≤ ar2.toInt ∧ ar2.toInt ≤ 20 ∧ ar1.toInt + ar2.toInt ≤ 10000) → (¬ gr 0 7 ≠ .null → (g23 0 0).toInt = 6) ∧ (gr 0 7 ≠ .null → (g23 0 0).toInt = 0)) from ⟨fun h => (by have ffs : (g23 0 0).toInt = 6 := (congrArg Int32.toInt (by rw [e23]; exact x_up2_at _ _ _ _ : g23 0 0 = 6)).trans (by decide); omega), fun h => ⟨fun h2 => (by have ffs : (g23 0 0).toInt = 6 := (congrArg Int32.toInt (by rw [e23]; exact x_up2_at _ _ _ _ : g23 0 0 = 6)).trans (by decide); omega), fun h2 => absurd ((hX.1 0 7 rfl).2.2.symm.trans e22) h2⟩⟩)⟩⟩
            · refine ev_getR f_X11_wrongSeeds (nx := 39) rfl (hI.wf.s rfl) rfl rfl e22 rfl rfl ?_
              refine ev_jmp f_X11_wrongSeeds (nx := 47) rfl rfl rfl ?_
              refine ev_ic f_X11_wrongSeeds (nx := 48) (v := 0) rfl (by decide) rfl ?_
              refine ev_retK1 f_X11_wrongSeeds rfl rfl rfl ?_
              refine ev_loc f_X11_odds (nx := 7) (lo' := [(3, .int 0), (0, .ref 0), (1, .int ar1), (2, .int ar2)]) rfl rfl rfl rfl ?_
              refine ev_loc f_X11_odds (nx := 8) rfl rfl rfl rfl ?_
              refine ev_t f_X11_odds (t1 := 17) (t2 := 11) rfl rfl rfl (by decide) ?_
              refine ev_ic f_X11_odds (nx := 18) (v := 0) rfl (by decide) rfl ?_
              refine ev_loc f_X11_odds (nx := 20) (lo' := [(4, .int 0), (3, .int 0), (0, .ref 0), (1, .int ar1), (2, .int ar2)]) rfl rfl rfl rfl ?_
              refine ev_ic f_X11_odds (nx := 21) (v := 0) rfl (by decide) rfl ?_
              refine ev_loc f_X11_odds (nx := 23) (lo' := [(5, .int 0), (4, .int 0), (3, .int 0), (0, .ref 0), (1, .int ar1), (2, .int ar2)]) rfl rfl rfl rfl ?_
              have L24 : ∀ (m24 : Nat) (gi24 : Nat → Nat → Int32) (gl24 : Nat → Nat → Int64) (gr24 : Nat → Nat → Value) (y24_5 : Int32) (y24_4 : Int32), t_I sh gi24 gr24 → t_X wl_f_odds sh gi gl gr gi24 gl24 gr24 → t_Ru sh gr24 a22 → 0 ≤ y24_5.toInt → y24_5.toInt ≤ 20 → gi24 0 0 = (gi 0 0) → gr24 0 7 = .ref a22 → (20 - y24_5.toInt).toNat = m24 → x_Ev X (d + 6) n_X11_odds 23 [(5, .int y24_5), (4, .int y24_4), (3, .int 0), (0, .ref 0), (1, .int ar1), (2, .int ar2)] [] (sh, gi24, gl24, gr24) (t_PI wl_f_odds sh gi gl gr 0 1 (Q_f_odds gi gl gr ar1 ar2)) := by
                intro m24
                induction m24 using Nat.strongRecOn with
                | _ m24 ih24 =>
                intro gi24 gl24 gr24 y24_5 y24_4 hI hX p22 l24_5 u24_5 c24_0 c24_1 hm24
                refine ev_loc f_X11_odds (nx := 25) rfl rfl rfl rfl ?_
                refine ev_loc f_X11_odds (nx := 26) rfl rfl rfl rfl ?_
                refine ev_if f_X11_odds (t1 := 77) (t2 := 29) rfl rfl rfl (fun h25 => ?_) (fun h25 => ?_)
                · have r26 : ar2.toInt ≤ y24_5.toInt := Int32.le_iff_toInt_le.mp h25
                  have l27 : 1 ≤ y24_5.toInt := t_lel h25 l13
                  refine ev_loc f_X11_odds (nx := 78) rfl rfl rfl rfl ?_
                  refine ev_loc f_X11_odds (nx := 80) rfl rfl rfl rfl ?_
                  refine ev_loc f_X11_odds (nx := 81) rfl rfl rfl rfl ?_
                  refine ev_c0 f_X11_odds (nx := 84) (r := []) rfl rfl rfl rfl rfl rfl rfl (c_tellFraction hI (y24_4) (ar2)) rfl hX rfl (fun gi28 gl28 gr28 hI hX hC28 => ?_)
                  replace p22 := p22.ext hC28.2
                  refine ev_loc f_X11_odds (nx := 85) rfl rfl rfl rfl ?_
                  refine ev_inV1 f_X11_odds (nx := 88) (lo2 := [(0, .ref 0)]) rfl rfl rfl rfl f_X11_grant (hI.wf.s rfl) rfl rfl rfl rfl rfl ?_
                  refine ev_loc f_X11_grant (nx := 1) rfl rfl rfl rfl ?_
                  refine ev_ic f_X11_grant (nx := 2) (v := 0) rfl (by decide) rfl ?_
                  refine ev_putIT f_X11_grant (nx := 5) rfl (hI.wf.s rfl) rfl rfl rfl (hI.put0 (hI.wf.s rfl) rfl rfl) (hX.upI rfl) (fun g29 e29 hI hX => ?_)
                  refine ev_ic f_X11_grant (nx := 6) (v := 1) rfl (by decide) rfl ?_
                  refine ev_retK1 f_X11_grant rfl rfl rfl ?_
                  exact ev_ret f_X11_odds rfl rfl rfl ⟨_, _, _, rfl, hI, hX, ⟨_, rfl, (Int.le_trans (by decide : (0:Int) ≤ 1) (by decide : (1:Int) ≤ (1:Int32).toInt)), (by decide : (1:Int32).toInt ≤ (1:Int)), (show (¬ (0 ≤ ar1.toInt ∧ ar1.toInt ≤ 9999 ∧ 1 ≤ ar2.toInt ∧ ar2.toInt ≤ 20 ∧ ar1.toInt + ar2.toInt ≤ 10000) → (g29 0 0).toInt = 1) ∧ ((0 ≤ ar1.toInt ∧ ar1.toInt ≤ 9999 ∧ 1 ≤ ar2.toInt ∧ ar2.toInt ≤ 20 ∧ ar1.toInt + ar2.toInt ≤ 10000) → (¬ gr 0 7 ≠ .null → (g29 0 0).toInt = 6) ∧ (gr 0 7 ≠ .null → (g29 0 0).toInt = 0)) from ⟨fun h => (by have ffs : (g29 0 0).toInt = 0 := (congrArg Int32.toInt (by rw [e29]; exact x_up2_at _ _ _ _ : g29 0 0 = 0)).trans (by decide); omega), fun h => ⟨fun h2 => absurd (fun hh => (by have h9 := ((hX.1 0 7 rfl).2.2.symm.trans ((hC28.1 0 7 rfl).2.2.trans c24_1)).symm.trans hh; cases h9)) h2, fun h2 => (by have ffs : (g29 0 0).toInt = 0 := (congrArg Int32.toInt (by rw [e29]; exact x_up2_at _ _ _ _ : g29 0 0 = 0)).trans (by decide); omega)⟩⟩)⟩⟩
                · have r30 : y24_5.toInt < ar2.toInt := Int32.lt_iff_toInt_lt.mp (t_nle h25)
                  have u31 : y24_5.toInt ≤ 19 := t_ltu (t_nle h25) u17 rfl
                  refine ev_loc f_X11_odds (nx := 30) rfl rfl rfl rfl ?_
                  refine ev_getR f_X11_odds (nx := 33) rfl (hI.wf.s rfl) rfl rfl (hI.wf.r rfl) rfl rfl ?_
                  refine ev_loc f_X11_odds (nx := 34) rfl rfl rfl rfl ?_
                  obtain ⟨a32, e32, p32⟩ := hI.2.2.2.1.1
                  refine ev_getR f_X11_odds (nx := 37) rfl (hI.wf.s rfl) rfl rfl e32 rfl rfl ?_
                  refine ev_loc f_X11_odds (nx := 38) rfl rfl rfl rfl ?_
                  refine ev_getR f_X11_odds (nx := 41) (v := .ref a22) rfl (hI.wf.s rfl) rfl rfl c24_1 rfl rfl ?_
                  refine ev_loc f_X11_odds (nx := 42) rfl rfl rfl rfl ?_
                  refine ev_loc f_X11_odds (nx := 44) rfl rfl rfl rfl ?_
                  refine ev_addR f_X11_odds (nx := 45) (l := 0) (u := 10018) rfl l5 u9 l24_5 u31 rfl rfl (by decide) (by decide) rfl (fun z33 e33 l33 u33 => ?_)
                  refine ev_c0 f_X11_odds (nx := 48) (r := []) rfl rfl rfl rfl rfl rfl rfl (c_spendDay hI (a32) p32 (a22) p22 (z33)) rfl hX rfl (fun gi34 gl34 gr34 hI hX hC34 => ?_)
                  replace p22 := p22.ext hC34.2
                  replace p32 := p32.ext hC34.2
                  refine ev_loc f_X11_odds (nx := 49) rfl rfl rfl rfl ?_
                  refine ev_getR f_X11_odds (nx := 52) rfl (hI.wf.s rfl) rfl rfl (hI.wf.r rfl) rfl rfl ?_
                  refine ev_getI f_X11_odds (nx := 55) rfl (hI.wf.s rfl) rfl rfl rfl ?_
                  refine ev_if f_X11_odds (t1 := 58) (t2 := 71) rfl rfl rfl (fun h35 => ?_) (fun h35 => ?_)
                  · have u36 : (gi34 45 12).toInt ≤ 0 := t_equ h35 (by decide : (0:Int32).toInt ≤ (0:Int))
                    have l37 : 0 ≤ (gi34 45 12).toInt := t_eql h35 (by decide : (0:Int) ≤ (0:Int32).toInt)
                    refine ev_loc f_X11_odds (nx := 59) rfl rfl rfl rfl ?_
                    refine ev_getR f_X11_odds (nx := 62) rfl (hI.wf.s rfl) rfl rfl (hI.wf.r rfl) rfl rfl ?_
                    refine ev_cI f_X11_odds (nx := 65) (r := []) rfl rfl rfl rfl rfl rfl rfl (c_left hI ) rfl hX rfl (fun w38 gi38 gl38 gr38 l38 u38 hI hX hC38 => ?_)
                    replace p22 := p22.ext hC38.2
                    replace p32 := p32.ext hC38.2
                    refine ev_if f_X11_odds (t1 := 68) (t2 := 71) rfl rfl rfl (fun h39 => ?_) (fun h39 => ?_)
                    · have u40 : w38.toInt ≤ 0 := t_equ h39 (by decide : (0:Int32).toInt ≤ (0:Int))
                      have l41 : 0 ≤ w38.toInt := t_eql h39 (by decide : (0:Int) ≤ (0:Int32).toInt)
                      refine ev_incN f_X11_odds (nx := 71) rfl rfl (by decide) rfl (fun z42 => ?_)
                      refine ev_incR f_X11_odds (nx := 74) (c := 1) (l := 1) (u := 20) rfl rfl (by decide) (by decide) l24_5 u31 rfl rfl (by decide) (by decide) rfl (fun z43 e43 l43 u43 => ?_)
                      refine ev_jmp f_X11_odds (nx := 23) rfl rfl rfl ?_
                      refine ev_sub (lo := [(5, .int z43), (4, .int z42), (3, .int 0), (0, .ref 0), (1, .int ar1), (2, .int ar2)]) rfl (t_sc rfl (t_sc rfl (t_sc rfl (t_sc rfl (t_sc rfl (t_sc rfl t_sn)))))) ?_
                      exact ih24 _ (by omega) gi38 gl38 gr38 (z43) (z42) hI hX p22 (Int.le_trans (by decide : (0:Int) ≤ 1) l43) u43 ((hC38.1 0 0 rfl).1.trans ((hC34.1 0 0 rfl).1.trans c24_0)) ((hC38.1 0 7 rfl).2.2.trans ((hC34.1 0 7 rfl).2.2.trans c24_1)) rfl
                    · have r44 : w38.toInt ≠ 0 := fun e => h39 (Int32.toInt_inj.mp (e.trans (by decide : (0:Int) = (0 : Int32).toInt)))
                      refine ev_incR f_X11_odds (nx := 74) (c := 1) (l := 1) (u := 20) rfl rfl (by decide) (by decide) l24_5 u31 rfl rfl (by decide) (by decide) rfl (fun z45 e45 l45 u45 => ?_)
                      refine ev_jmp f_X11_odds (nx := 23) rfl rfl rfl ?_
                      refine ev_sub (lo := [(5, .int z45), (4, .int y24_4), (3, .int 0), (0, .ref 0), (1, .int ar1), (2, .int ar2)]) rfl (t_sc rfl (t_sc rfl (t_sc rfl (t_sc rfl (t_sc rfl (t_sc rfl t_sn)))))) ?_
                      exact ih24 _ (by omega) gi38 gl38 gr38 (z45) (y24_4) hI hX p22 (Int.le_trans (by decide : (0:Int) ≤ 1) l45) u45 ((hC38.1 0 0 rfl).1.trans ((hC34.1 0 0 rfl).1.trans c24_0)) ((hC38.1 0 7 rfl).2.2.trans ((hC34.1 0 7 rfl).2.2.trans c24_1)) rfl
                  · have r46 : (gi34 45 12).toInt ≠ 0 := fun e => h35 (Int32.toInt_inj.mp (e.trans (by decide : (0:Int) = (0 : Int32).toInt)))
                    refine ev_incR f_X11_odds (nx := 74) (c := 1) (l := 1) (u := 20) rfl rfl (by decide) (by decide) l24_5 u31 rfl rfl (by decide) (by decide) rfl (fun z47 e47 l47 u47 => ?_)
                    refine ev_jmp f_X11_odds (nx := 23) rfl rfl rfl ?_
                    refine ev_sub (lo := [(5, .int z47), (4, .int y24_4), (3, .int 0), (0, .ref 0), (1, .int ar1), (2, .int ar2)]) rfl (t_sc rfl (t_sc rfl (t_sc rfl (t_sc rfl (t_sc rfl (t_sc rfl t_sn)))))) ?_
                    exact ih24 _ (by omega) gi34 gl34 gr34 (z47) (y24_4) hI hX p22 (Int.le_trans (by decide : (0:Int) ≤ 1) l47) u47 ((hC34.1 0 0 rfl).1.trans c24_0) ((hC34.1 0 7 rfl).2.2.trans c24_1) rfl
              refine ev_sub (lo := [(5, .int 0), (4, .int 0), (3, .int 0), (0, .ref 0), (1, .int ar1), (2, .int ar2)]) rfl (t_sc rfl (t_sc rfl (t_sc rfl (t_sc rfl (t_sc rfl (t_sc rfl t_sn)))))) ?_
              exact L24 _ gi gl gr (0) (0) hI hX p22 (by decide : (0:Int) ≤ (0:Int32).toInt) (Int.le_trans (by decide : (0:Int32).toInt ≤ (0:Int)) (by decide : (0:Int) ≤ 20)) rfl e22 rfl
          · have l48 : 10000 ≤ z19.toInt := t_ltl (t_nle h20) (by decide : (9999:Int) ≤ (9999:Int32).toInt) rfl
            refine ev_ic f_X11_wrongSeeds (nx := 34) (v := 1) rfl (by decide) rfl ?_
            refine ev_retK1 f_X11_wrongSeeds rfl rfl rfl ?_
            refine ev_loc f_X11_odds (nx := 7) (lo' := [(3, .int 1), (0, .ref 0), (1, .int ar1), (2, .int ar2)]) rfl rfl rfl rfl ?_
            refine ev_loc f_X11_odds (nx := 8) rfl rfl rfl rfl ?_
            refine ev_f f_X11_odds (t1 := 17) (t2 := 11) rfl rfl rfl (by decide) ?_
            refine ev_loc f_X11_odds (nx := 12) rfl rfl rfl rfl ?_
            refine ev_loc f_X11_odds (nx := 13) rfl rfl rfl rfl ?_
            refine ev_inV2 f_X11_odds (nx := 16) (lo2 := [(0, .ref 0), (1, .int 1)]) rfl rfl rfl rfl f_X11_deny (hI.wf.s rfl) rfl rfl rfl rfl rfl ?_
            refine ev_loc f_X11_deny (nx := 1) rfl rfl rfl rfl ?_
            refine ev_loc f_X11_deny (nx := 2) rfl rfl rfl rfl ?_
            refine ev_putIT f_X11_deny (nx := 5) rfl (hI.wf.s rfl) rfl rfl rfl (hI.put0 (hI.wf.s rfl) rfl rfl) (hX.upI rfl) (fun g49 e49 hI hX => ?_)
            refine ev_ic f_X11_deny (nx := 6) (v := 0) rfl (by decide) rfl ?_
            refine ev_retK1 f_X11_deny rfl rfl rfl ?_
            exact ev_ret f_X11_odds rfl rfl rfl ⟨_, _, _, rfl, hI, hX, ⟨_, rfl, (by decide : (0:Int) ≤ (0:Int32).toInt), (Int.le_trans (by decide : (0:Int32).toInt ≤ (0:Int)) (by decide : (0:Int) ≤ 1)), (show (¬ (0 ≤ ar1.toInt ∧ ar1.toInt ≤ 9999 ∧ 1 ≤ ar2.toInt ∧ ar2.toInt ≤ 20 ∧ ar1.toInt + ar2.toInt ≤ 10000) → (g49 0 0).toInt = 1) ∧ ((0 ≤ ar1.toInt ∧ ar1.toInt ≤ 9999 ∧ 1 ≤ ar2.toInt ∧ ar2.toInt ≤ 20 ∧ ar1.toInt + ar2.toInt ≤ 10000) → (¬ gr 0 7 ≠ .null → (g49 0 0).toInt = 6) ∧ (gr 0 7 ≠ .null → (g49 0 0).toInt = 0)) from ⟨fun h => (by have ffs : (g49 0 0).toInt = 1 := (congrArg Int32.toInt (by rw [e49]; exact x_up2_at _ _ _ _ : g49 0 0 = 1)).trans (by decide); omega), fun h => ⟨fun h2 => (by have ffs : (g49 0 0).toInt = 1 := (congrArg Int32.toInt (by rw [e49]; exact x_up2_at _ _ _ _ : g49 0 0 = 1)).trans (by decide); omega), fun h2 => (by have ffs : (g49 0 0).toInt = 1 := (congrArg Int32.toInt (by rw [e49]; exact x_up2_at _ _ _ _ : g49 0 0 = 1)).trans (by decide); omega)⟩⟩)⟩⟩
/-! ===== printed by riv.py: STATUS, the class ===== -/
noncomputable def wl_f_waits : List (Nat × Nat) := [(0, 0), (45, 4), (45, 5), (45, 6), (45, 7), (45, 8), (45, 9), (45, 10), (45, 11), (45, 12), (45, 13), (45, 14), (46, 0), (47, 9999), (48, 9999), (49, 9999), (50, 9999), (51, 9999), (52, 0), (53, 9999), (54, 9999), (55, 9999), (56, 9999), (57, 9999), (58, 9999), (59, 9999)]
noncomputable def Q_f_waits (gi : Nat → Nat → Int32) (gl : Nat → Nat → Int64) (gr : Nat → Nat → Value) (ar1 : Int32) (ar2 : Int32) : Int32 → (Nat → Nat → Int32) → (Nat → Nat → Int64) → (Nat → Nat → Value) → Prop := fun (v : Int32) (gi2 : Nat → Nat → Int32) (gl2 : Nat → Nat → Int64) (gr2 : Nat → Nat → Value) => (¬ (0 ≤ ar1.toInt ∧ ar1.toInt ≤ 9999 ∧ 1 ≤ ar2.toInt ∧ ar2.toInt ≤ 20 ∧ ar1.toInt + ar2.toInt ≤ 10000) → (gi2 0 0).toInt = 1) ∧ ((0 ≤ ar1.toInt ∧ ar1.toInt ≤ 9999 ∧ 1 ≤ ar2.toInt ∧ ar2.toInt ≤ 20 ∧ ar1.toInt + ar2.toInt ≤ 10000) → (¬ gr 0 7 ≠ .null → (gi2 0 0).toInt = 6) ∧ (gr 0 7 ≠ .null → (gi2 0 0).toInt = 0))
theorem c_f_waits {X : x_Ext} {d : Nat} {sh : List (Nat ⊕ (Nat × Nat))} {gi : Nat → Nat → Int32} {gl : Nat → Nat → Int64} {gr : Nat → Nat → Value} (hI : t_I sh gi gr) (ar1 : Int32) (ar2 : Int32) : x_Me X (d + 6) n_X11_waits [.ref 0, .int ar1, .int ar2] (sh, gi, gl, gr) (t_PI wl_f_waits sh gi gl gr (-2147483648) 2147483647 (Q_f_waits gi gl gr ar1 ar2)) := by
  have hX : t_X wl_f_waits sh gi gl gr gi gl gr := t_X.rf
  refine me_i f_X11_waits (hI.wf.s rfl) rfl rfl rfl ?_
  refine ev_loc f_X11_waits (nx := 1) rfl rfl rfl rfl ?_
  refine ev_loc f_X11_waits (nx := 2) rfl rfl rfl rfl ?_
  refine ev_loc f_X11_waits (nx := 3) rfl rfl rfl rfl ?_
  refine ev_inV3 f_X11_waits (nx := 6) (lo2 := [(0, .ref 0), (1, .int ar1), (2, .int ar2)]) rfl rfl rfl rfl f_X11_wrongSeeds (hI.wf.s rfl) rfl rfl rfl rfl rfl ?_
  refine ev_loc f_X11_wrongSeeds (nx := 1) rfl rfl rfl rfl ?_
  refine ev_if f_X11_wrongSeeds (t1 := 33) (t2 := 4) rfl rfl rfl (fun h2 => ?_) (fun h2 => ?_)
  · have u3 : ar1.toInt ≤ (-1) := t_ltu h2 (by decide : (0:Int32).toInt ≤ (0:Int)) rfl
    refine ev_ic f_X11_wrongSeeds (nx := 34) (v := 1) rfl (by decide) rfl ?_
    refine ev_retK1 f_X11_wrongSeeds rfl rfl rfl ?_
    refine ev_loc f_X11_waits (nx := 7) (lo' := [(3, .int 1), (0, .ref 0), (1, .int ar1), (2, .int ar2)]) rfl rfl rfl rfl ?_
    refine ev_loc f_X11_waits (nx := 8) rfl rfl rfl rfl ?_
    refine ev_f f_X11_waits (t1 := 17) (t2 := 11) rfl rfl rfl (by decide) ?_
    refine ev_loc f_X11_waits (nx := 12) rfl rfl rfl rfl ?_
    refine ev_loc f_X11_waits (nx := 13) rfl rfl rfl rfl ?_
    refine ev_inV2 f_X11_waits (nx := 16) (lo2 := [(0, .ref 0), (1, .int 1)]) rfl rfl rfl rfl f_X11_refuse (hI.wf.s rfl) rfl rfl rfl rfl rfl ?_
    refine ev_loc f_X11_refuse (nx := 1) rfl rfl rfl rfl ?_
    refine ev_loc f_X11_refuse (nx := 2) rfl rfl rfl rfl ?_
    refine ev_putIT f_X11_refuse (nx := 5) rfl (hI.wf.s rfl) rfl rfl rfl (hI.put0 (hI.wf.s rfl) rfl rfl) (hX.upI rfl) (fun g4 e4 hI hX => ?_)
    refine ev_ic f_X11_refuse (nx := 6) (v := -1) rfl (by decide) rfl ?_
    refine ev_retK1 f_X11_refuse rfl rfl rfl ?_
    exact ev_ret f_X11_waits rfl rfl rfl ⟨_, _, _, rfl, hI, hX, ⟨_, rfl, (Int.le_trans (by decide : ((-2147483648):Int) ≤ (-1)) (by decide : ((-1):Int) ≤ ((-1):Int32).toInt)), (Int.le_trans (by decide : ((-1):Int32).toInt ≤ ((-1):Int)) (by decide : ((-1):Int) ≤ 2147483647)), (show (¬ (0 ≤ ar1.toInt ∧ ar1.toInt ≤ 9999 ∧ 1 ≤ ar2.toInt ∧ ar2.toInt ≤ 20 ∧ ar1.toInt + ar2.toInt ≤ 10000) → (g4 0 0).toInt = 1) ∧ ((0 ≤ ar1.toInt ∧ ar1.toInt ≤ 9999 ∧ 1 ≤ ar2.toInt ∧ ar2.toInt ≤ 20 ∧ ar1.toInt + ar2.toInt ≤ 10000) → (¬ gr 0 7 ≠ .null → (g4 0 0).toInt = 6) ∧ (gr 0 7 ≠ .null → (g4 0 0).toInt = 0)) from ⟨fun h => (by have ffs : (g4 0 0).toInt = 1 := (congrArg Int32.toInt (by rw [e4]; exact x_up2_at _ _ _ _ : g4 0 0 = 1)).trans (by decide); omega), fun h => ⟨fun h2 => (by have ffs : (g4 0 0).toInt = 1 := (congrArg Int32.toInt (by rw [e4]; exact x_up2_at _ _ _ _ : g4 0 0 = 1)).trans (by decide); omega), fun h2 => (by have ffs : (g4 0 0).toInt = 1 := (congrArg Int32.toInt (by rw [e4]; exact x_up2_at _ _ _ _ : g4 0 0 = 1)).trans (by decide); omega)⟩⟩)⟩⟩
  · have l5 : 0 ≤ ar1.toInt := t_lel (t_nlt h2) (by decide : (0:Int) ≤ (0:Int32).toInt)
    refine ev_loc f_X11_wrongSeeds (nx := 5) rfl rfl rfl rfl ?_
    refine ev_sp f_X11_wrongSeeds (nx := 8) (v := 9999) rfl (by decide) rfl ?_
    refine ev_if f_X11_wrongSeeds (t1 := 33) (t2 := 11) rfl rfl rfl (fun h6 => ?_) (fun h6 => ?_)
    · have l7 : 10000 ≤ ar1.toInt := t_ltl h6 (by decide : (9999:Int) ≤ (9999:Int32).toInt) rfl
      refine ev_ic f_X11_wrongSeeds (nx := 34) (v := 1) rfl (by decide) rfl ?_
      refine ev_retK1 f_X11_wrongSeeds rfl rfl rfl ?_
      refine ev_loc f_X11_waits (nx := 7) (lo' := [(3, .int 1), (0, .ref 0), (1, .int ar1), (2, .int ar2)]) rfl rfl rfl rfl ?_
      refine ev_loc f_X11_waits (nx := 8) rfl rfl rfl rfl ?_
      refine ev_f f_X11_waits (t1 := 17) (t2 := 11) rfl rfl rfl (by decide) ?_
      refine ev_loc f_X11_waits (nx := 12) rfl rfl rfl rfl ?_
      refine ev_loc f_X11_waits (nx := 13) rfl rfl rfl rfl ?_
      refine ev_inV2 f_X11_waits (nx := 16) (lo2 := [(0, .ref 0), (1, .int 1)]) rfl rfl rfl rfl f_X11_refuse (hI.wf.s rfl) rfl rfl rfl rfl rfl ?_
      refine ev_loc f_X11_refuse (nx := 1) rfl rfl rfl rfl ?_
      refine ev_loc f_X11_refuse (nx := 2) rfl rfl rfl rfl ?_
      refine ev_putIT f_X11_refuse (nx := 5) rfl (hI.wf.s rfl) rfl rfl rfl (hI.put0 (hI.wf.s rfl) rfl rfl) (hX.upI rfl) (fun g8 e8 hI hX => ?_)
      refine ev_ic f_X11_refuse (nx := 6) (v := -1) rfl (by decide) rfl ?_
      refine ev_retK1 f_X11_refuse rfl rfl rfl ?_
      exact ev_ret f_X11_waits rfl rfl rfl ⟨_, _, _, rfl, hI, hX, ⟨_, rfl, (Int.le_trans (by decide : ((-2147483648):Int) ≤ (-1)) (by decide : ((-1):Int) ≤ ((-1):Int32).toInt)), (Int.le_trans (by decide : ((-1):Int32).toInt ≤ ((-1):Int)) (by decide : ((-1):Int) ≤ 2147483647)), (show (¬ (0 ≤ ar1.toInt ∧ ar1.toInt ≤ 9999 ∧ 1 ≤ ar2.toInt ∧ ar2.toInt ≤ 20 ∧ ar1.toInt + ar2.toInt ≤ 10000) → (g8 0 0).toInt = 1) ∧ ((0 ≤ ar1.toInt ∧ ar1.toInt ≤ 9999 ∧ 1 ≤ ar2.toInt ∧ ar2.toInt ≤ 20 ∧ ar1.toInt + ar2.toInt ≤ 10000) → (¬ gr 0 7 ≠ .null → (g8 0 0).toInt = 6) ∧ (gr 0 7 ≠ .null → (g8 0 0).toInt = 0)) from ⟨fun h => (by have ffs : (g8 0 0).toInt = 1 := (congrArg Int32.toInt (by rw [e8]; exact x_up2_at _ _ _ _ : g8 0 0 = 1)).trans (by decide); omega), fun h => ⟨fun h2 => (by have ffs : (g8 0 0).toInt = 1 := (congrArg Int32.toInt (by rw [e8]; exact x_up2_at _ _ _ _ : g8 0 0 = 1)).trans (by decide); omega), fun h2 => (by have ffs : (g8 0 0).toInt = 1 := (congrArg Int32.toInt (by rw [e8]; exact x_up2_at _ _ _ _ : g8 0 0 = 1)).trans (by decide); omega)⟩⟩)⟩⟩
    · have u9 : ar1.toInt ≤ 9999 := t_leu (t_nlt h6) (by decide : (9999:Int32).toInt ≤ (9999:Int))
      refine ev_loc f_X11_wrongSeeds (nx := 12) rfl rfl rfl rfl ?_
      refine ev_ic f_X11_wrongSeeds (nx := 13) (v := 1) rfl (by decide) rfl ?_
      refine ev_if f_X11_wrongSeeds (t1 := 33) (t2 := 16) rfl rfl rfl (fun h10 => ?_) (fun h10 => ?_)
      · have u11 : ar2.toInt ≤ 0 := t_ltu h10 (by decide : (1:Int32).toInt ≤ (1:Int)) rfl
        refine ev_ic f_X11_wrongSeeds (nx := 34) (v := 1) rfl (by decide) rfl ?_
        refine ev_retK1 f_X11_wrongSeeds rfl rfl rfl ?_
        refine ev_loc f_X11_waits (nx := 7) (lo' := [(3, .int 1), (0, .ref 0), (1, .int ar1), (2, .int ar2)]) rfl rfl rfl rfl ?_
        refine ev_loc f_X11_waits (nx := 8) rfl rfl rfl rfl ?_
        refine ev_f f_X11_waits (t1 := 17) (t2 := 11) rfl rfl rfl (by decide) ?_
        refine ev_loc f_X11_waits (nx := 12) rfl rfl rfl rfl ?_
        refine ev_loc f_X11_waits (nx := 13) rfl rfl rfl rfl ?_
        refine ev_inV2 f_X11_waits (nx := 16) (lo2 := [(0, .ref 0), (1, .int 1)]) rfl rfl rfl rfl f_X11_refuse (hI.wf.s rfl) rfl rfl rfl rfl rfl ?_
        refine ev_loc f_X11_refuse (nx := 1) rfl rfl rfl rfl ?_
        refine ev_loc f_X11_refuse (nx := 2) rfl rfl rfl rfl ?_
        refine ev_putIT f_X11_refuse (nx := 5) rfl (hI.wf.s rfl) rfl rfl rfl (hI.put0 (hI.wf.s rfl) rfl rfl) (hX.upI rfl) (fun g12 e12 hI hX => ?_)
        refine ev_ic f_X11_refuse (nx := 6) (v := -1) rfl (by decide) rfl ?_
        refine ev_retK1 f_X11_refuse rfl rfl rfl ?_
        exact ev_ret f_X11_waits rfl rfl rfl ⟨_, _, _, rfl, hI, hX, ⟨_, rfl, (Int.le_trans (by decide : ((-2147483648):Int) ≤ (-1)) (by decide : ((-1):Int) ≤ ((-1):Int32).toInt)), (Int.le_trans (by decide : ((-1):Int32).toInt ≤ ((-1):Int)) (by decide : ((-1):Int) ≤ 2147483647)), (show (¬ (0 ≤ ar1.toInt ∧ ar1.toInt ≤ 9999 ∧ 1 ≤ ar2.toInt ∧ ar2.toInt ≤ 20 ∧ ar1.toInt + ar2.toInt ≤ 10000) → (g12 0 0).toInt = 1) ∧ ((0 ≤ ar1.toInt ∧ ar1.toInt ≤ 9999 ∧ 1 ≤ ar2.toInt ∧ ar2.toInt ≤ 20 ∧ ar1.toInt + ar2.toInt ≤ 10000) → (¬ gr 0 7 ≠ .null → (g12 0 0).toInt = 6) ∧ (gr 0 7 ≠ .null → (g12 0 0).toInt = 0)) from ⟨fun h => (by have ffs : (g12 0 0).toInt = 1 := (congrArg Int32.toInt (by rw [e12]; exact x_up2_at _ _ _ _ : g12 0 0 = 1)).trans (by decide); omega), fun h => ⟨fun h2 => (by have ffs : (g12 0 0).toInt = 1 := (congrArg Int32.toInt (by rw [e12]; exact x_up2_at _ _ _ _ : g12 0 0 = 1)).trans (by decide); omega), fun h2 => (by have ffs : (g12 0 0).toInt = 1 := (congrArg Int32.toInt (by rw [e12]; exact x_up2_at _ _ _ _ : g12 0 0 = 1)).trans (by decide); omega)⟩⟩)⟩⟩
      · have l13 : 1 ≤ ar2.toInt := t_lel (t_nlt h10) (by decide : (1:Int) ≤ (1:Int32).toInt)
        refine ev_loc f_X11_wrongSeeds (nx := 17) rfl rfl rfl rfl ?_
        refine ev_bp f_X11_wrongSeeds (nx := 19) (v := 20) rfl (by decide) rfl ?_
        refine ev_if f_X11_wrongSeeds (t1 := 33) (t2 := 22) rfl rfl rfl (fun h14 => ?_) (fun h14 => ?_)
        · have l15 : 21 ≤ ar2.toInt := t_ltl h14 (by decide : (20:Int) ≤ (20:Int32).toInt) rfl
          refine ev_ic f_X11_wrongSeeds (nx := 34) (v := 1) rfl (by decide) rfl ?_
          refine ev_retK1 f_X11_wrongSeeds rfl rfl rfl ?_
          refine ev_loc f_X11_waits (nx := 7) (lo' := [(3, .int 1), (0, .ref 0), (1, .int ar1), (2, .int ar2)]) rfl rfl rfl rfl ?_
          refine ev_loc f_X11_waits (nx := 8) rfl rfl rfl rfl ?_
          refine ev_f f_X11_waits (t1 := 17) (t2 := 11) rfl rfl rfl (by decide) ?_
          refine ev_loc f_X11_waits (nx := 12) rfl rfl rfl rfl ?_
          refine ev_loc f_X11_waits (nx := 13) rfl rfl rfl rfl ?_
          refine ev_inV2 f_X11_waits (nx := 16) (lo2 := [(0, .ref 0), (1, .int 1)]) rfl rfl rfl rfl f_X11_refuse (hI.wf.s rfl) rfl rfl rfl rfl rfl ?_
          refine ev_loc f_X11_refuse (nx := 1) rfl rfl rfl rfl ?_
          refine ev_loc f_X11_refuse (nx := 2) rfl rfl rfl rfl ?_
          refine ev_putIT f_X11_refuse (nx := 5) rfl (hI.wf.s rfl) rfl rfl rfl (hI.put0 (hI.wf.s rfl) rfl rfl) (hX.upI rfl) (fun g16 e16 hI hX => ?_)
          refine ev_ic f_X11_refuse (nx := 6) (v := -1) rfl (by decide) rfl ?_
          refine ev_retK1 f_X11_refuse rfl rfl rfl ?_
          exact ev_ret f_X11_waits rfl rfl rfl ⟨_, _, _, rfl, hI, hX, ⟨_, rfl, (Int.le_trans (by decide : ((-2147483648):Int) ≤ (-1)) (by decide : ((-1):Int) ≤ ((-1):Int32).toInt)), (Int.le_trans (by decide : ((-1):Int32).toInt ≤ ((-1):Int)) (by decide : ((-1):Int) ≤ 2147483647)), (show (¬ (0 ≤ ar1.toInt ∧ ar1.toInt ≤ 9999 ∧ 1 ≤ ar2.toInt ∧ ar2.toInt ≤ 20 ∧ ar1.toInt + ar2.toInt ≤ 10000) → (g16 0 0).toInt = 1) ∧ ((0 ≤ ar1.toInt ∧ ar1.toInt ≤ 9999 ∧ 1 ≤ ar2.toInt ∧ ar2.toInt ≤ 20 ∧ ar1.toInt + ar2.toInt ≤ 10000) → (¬ gr 0 7 ≠ .null → (g16 0 0).toInt = 6) ∧ (gr 0 7 ≠ .null → (g16 0 0).toInt = 0)) from ⟨fun h => (by have ffs : (g16 0 0).toInt = 1 := (congrArg Int32.toInt (by rw [e16]; exact x_up2_at _ _ _ _ : g16 0 0 = 1)).trans (by decide); omega), fun h => ⟨fun h2 => (by have ffs : (g16 0 0).toInt = 1 := (congrArg Int32.toInt (by rw [e16]; exact x_up2_at _ _ _ _ : g16 0 0 = 1)).trans (by decide); omega), fun h2 => (by have ffs : (g16 0 0).toInt = 1 := (congrArg Int32.toInt (by rw [e16]; exact x_up2_at _ _ _ _ : g16 0 0 = 1)).trans (by decide); omega)⟩⟩)⟩⟩
        · have u17 : ar2.toInt ≤ 20 := t_leu (t_nlt h14) (by decide : (20:Int32).toInt ≤ (20:Int))
          refine ev_loc f_X11_wrongSeeds (nx := 23) rfl rfl rfl rfl ?_
          refine ev_loc f_X11_wrongSeeds (nx := 24) rfl rfl rfl rfl ?_
          refine ev_addR f_X11_wrongSeeds (nx := 25) (l := 1) (u := 10019) rfl l5 u9 l13 u17 rfl rfl (by decide) (by decide) rfl (fun z18 e18 l18 u18 => ?_)
          refine ev_ic f_X11_wrongSeeds (nx := 26) (v := 1) rfl (by decide) rfl ?_
          refine ev_subC f_X11_wrongSeeds (nx := 27) (c := 1) (l := 0) (u := 10018) rfl (by decide) l18 u18 rfl rfl (by decide) (by decide) rfl (fun z19 e19 l19 u19 => ?_)
          refine ev_sp f_X11_wrongSeeds (nx := 30) (v := 9999) rfl (by decide) rfl ?_
          refine ev_if f_X11_wrongSeeds (t1 := 35) (t2 := 33) rfl rfl rfl (fun h20 => ?_) (fun h20 => ?_)
          · have u21 : z19.toInt ≤ 9999 := t_leu h20 (by decide : (9999:Int32).toInt ≤ (9999:Int))
            refine ev_loc f_X11_wrongSeeds (nx := 36) rfl rfl rfl rfl ?_
            rcases hI.2.2.2.1.2.1 with e22 | ⟨a22, e22, p22⟩
            · refine ev_getR f_X11_wrongSeeds (nx := 39) rfl (hI.wf.s rfl) rfl rfl e22 rfl rfl ?_
              refine ev_jmp f_X11_wrongSeeds (nx := 42) rfl rfl rfl ?_
              refine ev_bp f_X11_wrongSeeds (nx := 44) (v := 6) rfl (by decide) rfl ?_
              refine ev_jmp f_X11_wrongSeeds (nx := 48) rfl rfl rfl ?_
              refine ev_retK1 f_X11_wrongSeeds rfl rfl rfl ?_
              refine ev_loc f_X11_waits (nx := 7) (lo' := [(3, .int 6), (0, .ref 0), (1, .int ar1), (2, .int ar2)]) rfl rfl rfl rfl ?_
              refine ev_loc f_X11_waits (nx := 8) rfl rfl rfl rfl ?_
              refine ev_f f_X11_waits (t1 := 17) (t2 := 11) rfl rfl rfl (by decide) ?_
              refine ev_loc f_X11_waits (nx := 12) rfl rfl rfl rfl ?_
              refine ev_loc f_X11_waits (nx := 13) rfl rfl rfl rfl ?_
              refine ev_inV2 f_X11_waits (nx := 16) (lo2 := [(0, .ref 0), (1, .int 6)]) rfl rfl rfl rfl f_X11_refuse (hI.wf.s rfl) rfl rfl rfl rfl rfl ?_
              refine ev_loc f_X11_refuse (nx := 1) rfl rfl rfl rfl ?_
              refine ev_loc f_X11_refuse (nx := 2) rfl rfl rfl rfl ?_
              refine ev_putIT f_X11_refuse (nx := 5) rfl (hI.wf.s rfl) rfl rfl rfl (hI.put0 (hI.wf.s rfl) rfl rfl) (hX.upI rfl) (fun g23 e23 hI hX => ?_)
              refine ev_ic f_X11_refuse (nx := 6) (v := -1) rfl (by decide) rfl ?_
              refine ev_retK1 f_X11_refuse rfl rfl rfl ?_
              exact ev_ret f_X11_waits rfl rfl rfl ⟨_, _, _, rfl, hI, hX, ⟨_, rfl, (Int.le_trans (by decide : ((-2147483648):Int) ≤ (-1)) (by decide : ((-1):Int) ≤ ((-1):Int32).toInt)), (Int.le_trans (by decide : ((-1):Int32).toInt ≤ ((-1):Int)) (by decide : ((-1):Int) ≤ 2147483647)), (show (¬ (0 ≤ ar1.toInt ∧ ar1.toInt ≤ 9999 ∧ 1 ≤ ar2.toInt ∧ ar2.toInt ≤ 20 ∧ ar1.toInt + ar2.toInt ≤ 10000) → (g23 0 0).toInt = 1) ∧ ((0 ≤ ar1.toInt ∧ ar1.toInt ≤ 9999 ∧ 1 ≤ ar2.toInt ∧ ar2.toInt ≤ 20 ∧ ar1.toInt + ar2.toInt ≤ 10000) → (¬ gr 0 7 ≠ .null → (g23 0 0).toInt = 6) ∧ (gr 0 7 ≠ .null → (g23 0 0).toInt = 0)) from ⟨fun h => (by have ffs : (g23 0 0).toInt = 6 := (congrArg Int32.toInt (by rw [e23]; exact x_up2_at _ _ _ _ : g23 0 0 = 6)).trans (by decide); omega), fun h => ⟨fun h2 => (by have ffs : (g23 0 0).toInt = 6 := (congrArg Int32.toInt (by rw [e23]; exact x_up2_at _ _ _ _ : g23 0 0 = 6)).trans (by decide); omega), fun h2 => absurd ((hX.1 0 7 rfl).2.2.symm.trans e22) h2⟩⟩)⟩⟩
            · refine ev_getR f_X11_wrongSeeds (nx := 39) rfl (hI.wf.s rfl) rfl rfl e22 rfl rfl ?_
              refine ev_jmp f_X11_wrongSeeds (nx := 47) rfl rfl rfl ?_
              refine ev_ic f_X11_wrongSeeds (nx := 48) (v := 0) rfl (by decide) rfl ?_
              refine ev_retK1 f_X11_wrongSeeds rfl rfl rfl ?_
              refine ev_loc f_X11_waits (nx := 7) (lo' := [(3, .int 0), (0, .ref 0), (1, .int ar1), (2, .int ar2)]) rfl rfl rfl rfl ?_
              refine ev_loc f_X11_waits (nx := 8) rfl rfl rfl rfl ?_
              refine ev_t f_X11_waits (t1 := 17) (t2 := 11) rfl rfl rfl (by decide) ?_
              refine ev_ic f_X11_waits (nx := 18) (v := 0) rfl (by decide) rfl ?_
              refine ev_loc f_X11_waits (nx := 20) (lo' := [(4, .int 0), (3, .int 0), (0, .ref 0), (1, .int ar1), (2, .int ar2)]) rfl rfl rfl rfl ?_
              refine ev_ic f_X11_waits (nx := 21) (v := 0) rfl (by decide) rfl ?_
              refine ev_loc f_X11_waits (nx := 23) (lo' := [(5, .int 0), (4, .int 0), (3, .int 0), (0, .ref 0), (1, .int ar1), (2, .int ar2)]) rfl rfl rfl rfl ?_
              have L24 : ∀ (m24 : Nat) (gi24 : Nat → Nat → Int32) (gl24 : Nat → Nat → Int64) (gr24 : Nat → Nat → Value) (y24_5 : Int32) (y24_4 : Int32), t_I sh gi24 gr24 → t_X wl_f_waits sh gi gl gr gi24 gl24 gr24 → t_Ru sh gr24 a22 → 0 ≤ y24_5.toInt → y24_5.toInt ≤ 20 → gi24 0 0 = (gi 0 0) → gr24 0 7 = .ref a22 → (20 - y24_5.toInt).toNat = m24 → x_Ev X (d + 6) n_X11_waits 23 [(5, .int y24_5), (4, .int y24_4), (3, .int 0), (0, .ref 0), (1, .int ar1), (2, .int ar2)] [] (sh, gi24, gl24, gr24) (t_PI wl_f_waits sh gi gl gr (-2147483648) 2147483647 (Q_f_waits gi gl gr ar1 ar2)) := by
                intro m24
                induction m24 using Nat.strongRecOn with
                | _ m24 ih24 =>
                intro gi24 gl24 gr24 y24_5 y24_4 hI hX p22 l24_5 u24_5 c24_0 c24_1 hm24
                refine ev_loc f_X11_waits (nx := 25) rfl rfl rfl rfl ?_
                refine ev_loc f_X11_waits (nx := 26) rfl rfl rfl rfl ?_
                refine ev_if f_X11_waits (t1 := 66) (t2 := 29) rfl rfl rfl (fun h25 => ?_) (fun h25 => ?_)
                · have r26 : ar2.toInt ≤ y24_5.toInt := Int32.le_iff_toInt_le.mp h25
                  have l27 : 1 ≤ y24_5.toInt := t_lel h25 l13
                  refine ev_loc f_X11_waits (nx := 67) rfl rfl rfl rfl ?_
                  refine ev_loc f_X11_waits (nx := 69) rfl rfl rfl rfl ?_
                  refine ev_inV2 f_X11_waits (nx := 72) (lo2 := [(0, .ref 0), (1, .int y24_4)]) rfl rfl rfl rfl f_X11_answer (hI.wf.s rfl) rfl rfl rfl rfl rfl ?_
                  refine ev_loc f_X11_answer (nx := 1) rfl rfl rfl rfl ?_
                  refine ev_ic f_X11_answer (nx := 2) (v := 0) rfl (by decide) rfl ?_
                  refine ev_putIT f_X11_answer (nx := 5) rfl (hI.wf.s rfl) rfl rfl rfl (hI.put0 (hI.wf.s rfl) rfl rfl) (hX.upI rfl) (fun g28 e28 hI hX => ?_)
                  refine ev_loc f_X11_answer (nx := 6) rfl rfl rfl rfl ?_
                  refine ev_retK1 f_X11_answer rfl rfl rfl ?_
                  exact ev_ret f_X11_waits rfl rfl rfl ⟨_, _, _, rfl, hI, hX, ⟨_, rfl, (t_lo y24_4), (t_hi y24_4), (show (¬ (0 ≤ ar1.toInt ∧ ar1.toInt ≤ 9999 ∧ 1 ≤ ar2.toInt ∧ ar2.toInt ≤ 20 ∧ ar1.toInt + ar2.toInt ≤ 10000) → (g28 0 0).toInt = 1) ∧ ((0 ≤ ar1.toInt ∧ ar1.toInt ≤ 9999 ∧ 1 ≤ ar2.toInt ∧ ar2.toInt ≤ 20 ∧ ar1.toInt + ar2.toInt ≤ 10000) → (¬ gr 0 7 ≠ .null → (g28 0 0).toInt = 6) ∧ (gr 0 7 ≠ .null → (g28 0 0).toInt = 0)) from ⟨fun h => (by have ffs : (g28 0 0).toInt = 0 := (congrArg Int32.toInt (by rw [e28]; exact x_up2_at _ _ _ _ : g28 0 0 = 0)).trans (by decide); omega), fun h => ⟨fun h2 => absurd (fun hh => (by have h9 := ((hX.1 0 7 rfl).2.2.symm.trans c24_1).symm.trans hh; cases h9)) h2, fun h2 => (by have ffs : (g28 0 0).toInt = 0 := (congrArg Int32.toInt (by rw [e28]; exact x_up2_at _ _ _ _ : g28 0 0 = 0)).trans (by decide); omega)⟩⟩)⟩⟩
                · have r29 : y24_5.toInt < ar2.toInt := Int32.lt_iff_toInt_lt.mp (t_nle h25)
                  have u30 : y24_5.toInt ≤ 19 := t_ltu (t_nle h25) u17 rfl
                  refine ev_loc f_X11_waits (nx := 30) rfl rfl rfl rfl ?_
                  refine ev_getR f_X11_waits (nx := 33) rfl (hI.wf.s rfl) rfl rfl (hI.wf.r rfl) rfl rfl ?_
                  refine ev_loc f_X11_waits (nx := 34) rfl rfl rfl rfl ?_
                  obtain ⟨a31, e31, p31⟩ := hI.2.2.2.1.1
                  refine ev_getR f_X11_waits (nx := 37) rfl (hI.wf.s rfl) rfl rfl e31 rfl rfl ?_
                  refine ev_loc f_X11_waits (nx := 38) rfl rfl rfl rfl ?_
                  refine ev_getR f_X11_waits (nx := 41) (v := .ref a22) rfl (hI.wf.s rfl) rfl rfl c24_1 rfl rfl ?_
                  refine ev_loc f_X11_waits (nx := 42) rfl rfl rfl rfl ?_
                  refine ev_loc f_X11_waits (nx := 44) rfl rfl rfl rfl ?_
                  refine ev_addR f_X11_waits (nx := 45) (l := 0) (u := 10018) rfl l5 u9 l24_5 u30 rfl rfl (by decide) (by decide) rfl (fun z32 e32 l32 u32 => ?_)
                  refine ev_c0 f_X11_waits (nx := 48) (r := []) rfl rfl rfl rfl rfl rfl rfl (c_spendDay hI (a31) p31 (a22) p22 (z32)) rfl hX rfl (fun gi33 gl33 gr33 hI hX hC33 => ?_)
                  replace p22 := p22.ext hC33.2
                  replace p31 := p31.ext hC33.2
                  refine ev_loc f_X11_waits (nx := 50) rfl rfl rfl rfl ?_
                  refine ev_loc f_X11_waits (nx := 51) rfl rfl rfl rfl ?_
                  refine ev_getR f_X11_waits (nx := 54) rfl (hI.wf.s rfl) rfl rfl (hI.wf.r rfl) rfl rfl ?_
                  refine ev_getI f_X11_waits (nx := 57) rfl (hI.wf.s rfl) rfl rfl rfl ?_
                  refine ev_anyI f_X11_waits (nx := 58) rfl rfl rfl rfl (fun z34 => ?_)
                  refine ev_loc f_X11_waits (nx := 60) (lo' := [(4, .int z34), (5, .int y24_5), (3, .int 0), (0, .ref 0), (1, .int ar1), (2, .int ar2)]) rfl rfl rfl rfl ?_
                  refine ev_incR f_X11_waits (nx := 63) (c := 1) (l := 1) (u := 20) rfl rfl (by decide) (by decide) l24_5 u30 rfl rfl (by decide) (by decide) rfl (fun z35 e35 l35 u35 => ?_)
                  refine ev_jmp f_X11_waits (nx := 23) rfl rfl rfl ?_
                  refine ev_sub (lo := [(5, .int z35), (4, .int z34), (3, .int 0), (0, .ref 0), (1, .int ar1), (2, .int ar2)]) rfl (t_sc rfl (t_sc rfl (t_sc rfl (t_sc rfl (t_sc rfl (t_sc rfl t_sn)))))) ?_
                  exact ih24 _ (by omega) gi33 gl33 gr33 (z35) (z34) hI hX p22 (Int.le_trans (by decide : (0:Int) ≤ 1) l35) u35 ((hC33.1 0 0 rfl).1.trans c24_0) ((hC33.1 0 7 rfl).2.2.trans c24_1) rfl
              refine ev_sub (lo := [(5, .int 0), (4, .int 0), (3, .int 0), (0, .ref 0), (1, .int ar1), (2, .int ar2)]) rfl (t_sc rfl (t_sc rfl (t_sc rfl (t_sc rfl (t_sc rfl (t_sc rfl t_sn)))))) ?_
              exact L24 _ gi gl gr (0) (0) hI hX p22 (by decide : (0:Int) ≤ (0:Int32).toInt) (Int.le_trans (by decide : (0:Int32).toInt ≤ (0:Int)) (by decide : (0:Int) ≤ 20)) rfl e22 rfl
          · have l36 : 10000 ≤ z19.toInt := t_ltl (t_nle h20) (by decide : (9999:Int) ≤ (9999:Int32).toInt) rfl
            refine ev_ic f_X11_wrongSeeds (nx := 34) (v := 1) rfl (by decide) rfl ?_
            refine ev_retK1 f_X11_wrongSeeds rfl rfl rfl ?_
            refine ev_loc f_X11_waits (nx := 7) (lo' := [(3, .int 1), (0, .ref 0), (1, .int ar1), (2, .int ar2)]) rfl rfl rfl rfl ?_
            refine ev_loc f_X11_waits (nx := 8) rfl rfl rfl rfl ?_
            refine ev_f f_X11_waits (t1 := 17) (t2 := 11) rfl rfl rfl (by decide) ?_
            refine ev_loc f_X11_waits (nx := 12) rfl rfl rfl rfl ?_
            refine ev_loc f_X11_waits (nx := 13) rfl rfl rfl rfl ?_
            refine ev_inV2 f_X11_waits (nx := 16) (lo2 := [(0, .ref 0), (1, .int 1)]) rfl rfl rfl rfl f_X11_refuse (hI.wf.s rfl) rfl rfl rfl rfl rfl ?_
            refine ev_loc f_X11_refuse (nx := 1) rfl rfl rfl rfl ?_
            refine ev_loc f_X11_refuse (nx := 2) rfl rfl rfl rfl ?_
            refine ev_putIT f_X11_refuse (nx := 5) rfl (hI.wf.s rfl) rfl rfl rfl (hI.put0 (hI.wf.s rfl) rfl rfl) (hX.upI rfl) (fun g37 e37 hI hX => ?_)
            refine ev_ic f_X11_refuse (nx := 6) (v := -1) rfl (by decide) rfl ?_
            refine ev_retK1 f_X11_refuse rfl rfl rfl ?_
            exact ev_ret f_X11_waits rfl rfl rfl ⟨_, _, _, rfl, hI, hX, ⟨_, rfl, (Int.le_trans (by decide : ((-2147483648):Int) ≤ (-1)) (by decide : ((-1):Int) ≤ ((-1):Int32).toInt)), (Int.le_trans (by decide : ((-1):Int32).toInt ≤ ((-1):Int)) (by decide : ((-1):Int) ≤ 2147483647)), (show (¬ (0 ≤ ar1.toInt ∧ ar1.toInt ≤ 9999 ∧ 1 ≤ ar2.toInt ∧ ar2.toInt ≤ 20 ∧ ar1.toInt + ar2.toInt ≤ 10000) → (g37 0 0).toInt = 1) ∧ ((0 ≤ ar1.toInt ∧ ar1.toInt ≤ 9999 ∧ 1 ≤ ar2.toInt ∧ ar2.toInt ≤ 20 ∧ ar1.toInt + ar2.toInt ≤ 10000) → (¬ gr 0 7 ≠ .null → (g37 0 0).toInt = 6) ∧ (gr 0 7 ≠ .null → (g37 0 0).toInt = 0)) from ⟨fun h => (by have ffs : (g37 0 0).toInt = 1 := (congrArg Int32.toInt (by rw [e37]; exact x_up2_at _ _ _ _ : g37 0 0 = 1)).trans (by decide); omega), fun h => ⟨fun h2 => (by have ffs : (g37 0 0).toInt = 1 := (congrArg Int32.toInt (by rw [e37]; exact x_up2_at _ _ _ _ : g37 0 0 = 1)).trans (by decide); omega), fun h2 => (by have ffs : (g37 0 0).toInt = 1 := (congrArg Int32.toInt (by rw [e37]; exact x_up2_at _ _ _ _ : g37 0 0 = 1)).trans (by decide); omega)⟩⟩)⟩⟩
noncomputable def wl_f_mark : List (Nat × Nat) := [(0, 0), (0, 12), (19, 9999), (20, 9999)]
noncomputable def Q_f_mark (gi : Nat → Nat → Int32) (gl : Nat → Nat → Int64) (gr : Nat → Nat → Value) : Int32 → (Nat → Nat → Int32) → (Nat → Nat → Int64) → (Nat → Nat → Value) → Prop := fun (v : Int32) (gi2 : Nat → Nat → Int32) (gl2 : Nat → Nat → Int64) (gr2 : Nat → Nat → Value) => (v.toInt = -1 → (gi2 0 0).toInt = 4) ∧ (v.toInt ≠ -1 → (gi2 0 0).toInt = 0)
theorem c_f_mark {X : x_Ext} {d : Nat} {sh : List (Nat ⊕ (Nat × Nat))} {gi : Nat → Nat → Int32} {gl : Nat → Nat → Int64} {gr : Nat → Nat → Value} (hI : t_I sh gi gr) : x_Me X (d + 2) n_X11_mark [.ref 0] (sh, gi, gl, gr) (t_PI wl_f_mark sh gi gl gr (-1) 3 (Q_f_mark gi gl gr)) := by
  have hX : t_X wl_f_mark sh gi gl gr gi gl gr := t_X.rf
  refine me_i f_X11_mark (hI.wf.s rfl) rfl rfl rfl ?_
  refine ev_loc f_X11_mark (nx := 1) rfl rfl rfl rfl ?_
  refine ev_getI f_X11_mark (nx := 4) rfl (hI.wf.s rfl) rfl rfl rfl ?_
  obtain ⟨l2, u2⟩ := hI.b (hI.wf.s (k := 0) rfl) (t_bdK rfl : t_bd 10 12 = some (0, 3))
  refine ev_ic f_X11_mark (nx := 5) (v := 3) rfl (by decide) rfl ?_
  refine ev_if f_X11_mark (t1 := 14) (t2 := 8) rfl rfl rfl (fun h3 => ?_) (fun h3 => ?_)
  · have u4 : (gi 0 12).toInt ≤ 2 := t_ltu h3 (by decide : (3:Int32).toInt ≤ (3:Int)) rfl
    refine ev_loc f_X11_mark (nx := 15) rfl rfl rfl rfl ?_
    refine ev_getR f_X11_mark (nx := 18) rfl (hI.wf.s rfl) rfl rfl (hI.wf.r rfl) rfl rfl ?_
    refine ev_loc f_X11_mark (nx := 19) rfl rfl rfl rfl ?_
    refine ev_gvI f_X11_mark (nx := 22) (w := (gi 0 12)) rfl (hI.wf.s rfl) rfl rfl rfl rfl ?_
    refine ev_loc f_X11_mark (nx := 23) rfl rfl rfl rfl ?_
    obtain ⟨a5, e5, p5⟩ := hI.2.2.2.1.1
    refine ev_getR f_X11_mark (nx := 26) rfl (hI.wf.s rfl) rfl rfl e5 rfl rfl ?_
    have hE6 := t_eqf_upA (gr := gr) (j := ((gi 0 12) : Int32).toNatClampNeg) (v := .ref a5) (hI.wf.s (k := 19) rfl)
    have hT6 := t_mk19 hI (m := ((gi 0 12) : Int32).toNatClampNeg) (v := .ref a5) (Or.inr ⟨_, rfl, p5⟩)
    replace p5 := p5.ext hE6
    refine ev_aastT f_X11_mark (nx := 27) rfl (hI.wf.s rfl) rfl p5.1 l2 (by decide) u4 (by decide) rfl hT6 (hX.upR (t_inA_ok rfl) hE6) (fun g6 e6 hI hX => ?_)
    rw [← e6] at p5
    refine ev_loc f_X11_mark (nx := 28) rfl rfl rfl rfl ?_
    refine ev_getR f_X11_mark (nx := 31) rfl (hI.wf.s rfl) rfl rfl (hI.wf.r rfl) rfl rfl ?_
    refine ev_loc f_X11_mark (nx := 32) rfl rfl rfl rfl ?_
    refine ev_gvI f_X11_mark (nx := 35) (w := (gi 0 12)) rfl (hI.wf.s rfl) rfl rfl rfl rfl ?_
    refine ev_loc f_X11_mark (nx := 36) rfl rfl rfl rfl ?_
    rcases hI.2.2.2.1.2.1 with e7 | ⟨a7, e7, p7⟩
    · refine ev_getR f_X11_mark (nx := 39) rfl (hI.wf.s rfl) rfl rfl e7 rfl rfl ?_
      have hE8 := t_eqf_upA (gr := g6) (j := ((gi 0 12) : Int32).toNatClampNeg) (v := .null) (hI.wf.s (k := 20) rfl)
      have hT8 := t_mk20 hI (m := ((gi 0 12) : Int32).toNatClampNeg) (v := .null) (Or.inl rfl)
      replace p5 := p5.ext hE8
      refine ev_aastN f_X11_mark (nx := 40) rfl (hI.wf.s rfl) rfl l2 (by decide) u4 (by decide) rfl hT8 (hX.upR (t_inA_ok rfl) hE8) (fun g8 e8 hI hX => ?_)
      rw [← e8] at p5
      refine ev_loc f_X11_mark (nx := 41) rfl rfl rfl rfl ?_
      refine ev_alu f_X11_mark (nx := 42) rfl rfl rfl rfl ?_
      refine ev_gvI f_X11_mark (nx := 45) (w := (gi 0 12)) rfl (hI.wf.s rfl) rfl rfl rfl rfl ?_
      refine ev_ic f_X11_mark (nx := 46) (v := 1) rfl (by decide) rfl ?_
      refine ev_addC f_X11_mark (nx := 47) (c := 1) (l := 1) (u := 3) rfl (by decide) l2 u4 rfl rfl (by decide) (by decide) rfl (fun z9 e9 l9 u9 => ?_)
      refine ev_putIT f_X11_mark (nx := 50) rfl (hI.wf.s rfl) rfl rfl rfl (hI.putB (hI.wf.s rfl) rfl rfl l9 (by decide) u9 (by decide)) (hX.upI rfl) (fun g10 e10 hI hX => ?_)
      refine ev_loc f_X11_mark (nx := 51) rfl rfl rfl rfl ?_
      refine ev_loc f_X11_mark (nx := 52) rfl rfl rfl rfl ?_
      refine ev_gvI f_X11_mark (nx := 55) (w := z9) rfl (hI.wf.s rfl) rfl rfl (by rw [e10]; exact x_up2_at _ _ _ _ : g10 0 12 = z9) rfl ?_
      refine ev_inV2 f_X11_mark (nx := 58) (lo2 := [(0, .ref 0), (1, .int z9)]) rfl rfl rfl rfl f_X11_answer (hI.wf.s rfl) rfl rfl rfl rfl rfl ?_
      refine ev_loc f_X11_answer (nx := 1) rfl rfl rfl rfl ?_
      refine ev_ic f_X11_answer (nx := 2) (v := 0) rfl (by decide) rfl ?_
      refine ev_putIT f_X11_answer (nx := 5) rfl (hI.wf.s rfl) rfl rfl rfl (hI.put0 (hI.wf.s rfl) rfl rfl) (hX.upI rfl) (fun g11 e11 hI hX => ?_)
      refine ev_loc f_X11_answer (nx := 6) rfl rfl rfl rfl ?_
      refine ev_retK1 f_X11_answer rfl rfl rfl ?_
      exact ev_ret f_X11_mark rfl rfl rfl ⟨_, _, _, rfl, hI, hX, ⟨_, rfl, (Int.le_trans (by decide : ((-1):Int) ≤ 1) l9), u9, (show (z9.toInt = -1 → (g11 0 0).toInt = 4) ∧ (z9.toInt ≠ -1 → (g11 0 0).toInt = 0) from ⟨fun h => (by have ffs : (g11 0 0).toInt = 0 := (congrArg Int32.toInt (by rw [e11]; exact x_up2_at _ _ _ _ : g11 0 0 = 0)).trans (by decide); omega), fun h => (by have ffs : (g11 0 0).toInt = 0 := (congrArg Int32.toInt (by rw [e11]; exact x_up2_at _ _ _ _ : g11 0 0 = 0)).trans (by decide); omega)⟩)⟩⟩
    · refine ev_getR f_X11_mark (nx := 39) rfl (hI.wf.s rfl) rfl rfl e7 rfl rfl ?_
      have hE12 := t_eqf_upA (gr := g6) (j := ((gi 0 12) : Int32).toNatClampNeg) (v := .ref a7) (hI.wf.s (k := 20) rfl)
      have hT12 := t_mk20 hI (m := ((gi 0 12) : Int32).toNatClampNeg) (v := .ref a7) (Or.inr ⟨_, rfl, p7⟩)
      replace p5 := p5.ext hE12
      replace p7 := p7.ext hE12
      refine ev_aastT f_X11_mark (nx := 40) rfl (hI.wf.s rfl) rfl p7.1 l2 (by decide) u4 (by decide) rfl hT12 (hX.upR (t_inA_ok rfl) hE12) (fun g12 e12 hI hX => ?_)
      rw [← e12] at p5
      rw [← e12] at p7
      refine ev_loc f_X11_mark (nx := 41) rfl rfl rfl rfl ?_
      refine ev_alu f_X11_mark (nx := 42) rfl rfl rfl rfl ?_
      refine ev_gvI f_X11_mark (nx := 45) (w := (gi 0 12)) rfl (hI.wf.s rfl) rfl rfl rfl rfl ?_
      refine ev_ic f_X11_mark (nx := 46) (v := 1) rfl (by decide) rfl ?_
      refine ev_addC f_X11_mark (nx := 47) (c := 1) (l := 1) (u := 3) rfl (by decide) l2 u4 rfl rfl (by decide) (by decide) rfl (fun z13 e13 l13 u13 => ?_)
      refine ev_putIT f_X11_mark (nx := 50) rfl (hI.wf.s rfl) rfl rfl rfl (hI.putB (hI.wf.s rfl) rfl rfl l13 (by decide) u13 (by decide)) (hX.upI rfl) (fun g14 e14 hI hX => ?_)
      refine ev_loc f_X11_mark (nx := 51) rfl rfl rfl rfl ?_
      refine ev_loc f_X11_mark (nx := 52) rfl rfl rfl rfl ?_
      refine ev_gvI f_X11_mark (nx := 55) (w := z13) rfl (hI.wf.s rfl) rfl rfl (by rw [e14]; exact x_up2_at _ _ _ _ : g14 0 12 = z13) rfl ?_
      refine ev_inV2 f_X11_mark (nx := 58) (lo2 := [(0, .ref 0), (1, .int z13)]) rfl rfl rfl rfl f_X11_answer (hI.wf.s rfl) rfl rfl rfl rfl rfl ?_
      refine ev_loc f_X11_answer (nx := 1) rfl rfl rfl rfl ?_
      refine ev_ic f_X11_answer (nx := 2) (v := 0) rfl (by decide) rfl ?_
      refine ev_putIT f_X11_answer (nx := 5) rfl (hI.wf.s rfl) rfl rfl rfl (hI.put0 (hI.wf.s rfl) rfl rfl) (hX.upI rfl) (fun g15 e15 hI hX => ?_)
      refine ev_loc f_X11_answer (nx := 6) rfl rfl rfl rfl ?_
      refine ev_retK1 f_X11_answer rfl rfl rfl ?_
      exact ev_ret f_X11_mark rfl rfl rfl ⟨_, _, _, rfl, hI, hX, ⟨_, rfl, (Int.le_trans (by decide : ((-1):Int) ≤ 1) l13), u13, (show (z13.toInt = -1 → (g15 0 0).toInt = 4) ∧ (z13.toInt ≠ -1 → (g15 0 0).toInt = 0) from ⟨fun h => (by have ffs : (g15 0 0).toInt = 0 := (congrArg Int32.toInt (by rw [e15]; exact x_up2_at _ _ _ _ : g15 0 0 = 0)).trans (by decide); omega), fun h => (by have ffs : (g15 0 0).toInt = 0 := (congrArg Int32.toInt (by rw [e15]; exact x_up2_at _ _ _ _ : g15 0 0 = 0)).trans (by decide); omega)⟩)⟩⟩
  · have l16 : 3 ≤ (gi 0 12).toInt := t_lel (t_nlt h3) (by decide : (3:Int) ≤ (3:Int32).toInt)
    refine ev_loc f_X11_mark (nx := 9) rfl rfl rfl rfl ?_
    refine ev_ic f_X11_mark (nx := 10) (v := 4) rfl (by decide) rfl ?_
    refine ev_inV2 f_X11_mark (nx := 13) (lo2 := [(0, .ref 0), (1, .int 4)]) rfl rfl rfl rfl f_X11_refuse (hI.wf.s rfl) rfl rfl rfl rfl rfl ?_
    refine ev_loc f_X11_refuse (nx := 1) rfl rfl rfl rfl ?_
    refine ev_loc f_X11_refuse (nx := 2) rfl rfl rfl rfl ?_
    refine ev_putIT f_X11_refuse (nx := 5) rfl (hI.wf.s rfl) rfl rfl rfl (hI.put0 (hI.wf.s rfl) rfl rfl) (hX.upI rfl) (fun g17 e17 hI hX => ?_)
    refine ev_ic f_X11_refuse (nx := 6) (v := -1) rfl (by decide) rfl ?_
    refine ev_retK1 f_X11_refuse rfl rfl rfl ?_
    exact ev_ret f_X11_mark rfl rfl rfl ⟨_, _, _, rfl, hI, hX, ⟨_, rfl, (by decide : ((-1):Int) ≤ ((-1):Int32).toInt), (Int.le_trans (by decide : ((-1):Int32).toInt ≤ ((-1):Int)) (by decide : ((-1):Int) ≤ 3)), (show (((-1) : Int) = -1 → (g17 0 0).toInt = 4) ∧ (((-1) : Int) ≠ -1 → (g17 0 0).toInt = 0) from ⟨fun h => (by have ffs : (g17 0 0).toInt = 4 := (congrArg Int32.toInt (by rw [e17]; exact x_up2_at _ _ _ _ : g17 0 0 = 4)).trans (by decide); omega), fun h => (by have ffs : (g17 0 0).toInt = 4 := (congrArg Int32.toInt (by rw [e17]; exact x_up2_at _ _ _ _ : g17 0 0 = 4)).trans (by decide); omega)⟩)⟩⟩
noncomputable def wl_f_back : List (Nat × Nat) := [(0, 0), (0, 6), (0, 7), (0, 12)]
noncomputable def Q_f_back (gi : Nat → Nat → Int32) (gl : Nat → Nat → Int64) (gr : Nat → Nat → Value) : Int32 → (Nat → Nat → Int32) → (Nat → Nat → Int64) → (Nat → Nat → Value) → Prop := fun (v : Int32) (gi2 : Nat → Nat → Int32) (gl2 : Nat → Nat → Int64) (gr2 : Nat → Nat → Value) => (v.toInt = -1 → (gi2 0 0).toInt = 6) ∧ (v.toInt ≠ -1 → (gi2 0 0).toInt = 0)
theorem c_f_back {X : x_Ext} {d : Nat} {sh : List (Nat ⊕ (Nat × Nat))} {gi : Nat → Nat → Int32} {gl : Nat → Nat → Int64} {gr : Nat → Nat → Value} (hI : t_I sh gi gr) : x_Me X (d + 2) n_X11_back [.ref 0] (sh, gi, gl, gr) (t_PI wl_f_back sh gi gl gr (-1) 2 (Q_f_back gi gl gr)) := by
  have hX : t_X wl_f_back sh gi gl gr gi gl gr := t_X.rf
  refine me_i f_X11_back (hI.wf.s rfl) rfl rfl rfl ?_
  refine ev_loc f_X11_back (nx := 1) rfl rfl rfl rfl ?_
  refine ev_getI f_X11_back (nx := 4) rfl (hI.wf.s rfl) rfl rfl rfl ?_
  obtain ⟨l2, u2⟩ := hI.b (hI.wf.s (k := 0) rfl) (t_bdK rfl : t_bd 10 12 = some (0, 3))
  refine ev_ic f_X11_back (nx := 5) (v := 1) rfl (by decide) rfl ?_
  refine ev_if f_X11_back (t1 := 22) (t2 := 8) rfl rfl rfl (fun h3 => ?_) (fun h3 => ?_)
  · have u4 : (gi 0 12).toInt ≤ 0 := t_ltu h3 (by decide : (1:Int32).toInt ≤ (1:Int)) rfl
    refine ev_loc f_X11_back (nx := 23) rfl rfl rfl rfl ?_
    refine ev_bp f_X11_back (nx := 25) (v := 6) rfl (by decide) rfl ?_
    refine ev_inV2 f_X11_back (nx := 28) (lo2 := [(0, .ref 0), (1, .int 6)]) rfl rfl rfl rfl f_X11_refuse (hI.wf.s rfl) rfl rfl rfl rfl rfl ?_
    refine ev_loc f_X11_refuse (nx := 1) rfl rfl rfl rfl ?_
    refine ev_loc f_X11_refuse (nx := 2) rfl rfl rfl rfl ?_
    refine ev_putIT f_X11_refuse (nx := 5) rfl (hI.wf.s rfl) rfl rfl rfl (hI.put0 (hI.wf.s rfl) rfl rfl) (hX.upI rfl) (fun g5 e5 hI hX => ?_)
    refine ev_ic f_X11_refuse (nx := 6) (v := -1) rfl (by decide) rfl ?_
    refine ev_retK1 f_X11_refuse rfl rfl rfl ?_
    exact ev_ret f_X11_back rfl rfl rfl ⟨_, _, _, rfl, hI, hX, ⟨_, rfl, (by decide : ((-1):Int) ≤ ((-1):Int32).toInt), (Int.le_trans (by decide : ((-1):Int32).toInt ≤ ((-1):Int)) (by decide : ((-1):Int) ≤ 2)), (show (((-1) : Int) = -1 → (g5 0 0).toInt = 6) ∧ (((-1) : Int) ≠ -1 → (g5 0 0).toInt = 0) from ⟨fun h => (by have ffs : (g5 0 0).toInt = 6 := (congrArg Int32.toInt (by rw [e5]; exact x_up2_at _ _ _ _ : g5 0 0 = 6)).trans (by decide); omega), fun h => (by have ffs : (g5 0 0).toInt = 6 := (congrArg Int32.toInt (by rw [e5]; exact x_up2_at _ _ _ _ : g5 0 0 = 6)).trans (by decide); omega)⟩)⟩⟩
  · have l6 : 1 ≤ (gi 0 12).toInt := t_lel (t_nlt h3) (by decide : (1:Int) ≤ (1:Int32).toInt)
    refine ev_loc f_X11_back (nx := 9) rfl rfl rfl rfl ?_
    refine ev_getR f_X11_back (nx := 12) rfl (hI.wf.s rfl) rfl rfl (hI.wf.r rfl) rfl rfl ?_
    refine ev_loc f_X11_back (nx := 13) rfl rfl rfl rfl ?_
    refine ev_gvI f_X11_back (nx := 16) (w := (gi 0 12)) rfl (hI.wf.s rfl) rfl rfl rfl rfl ?_
    refine ev_ic f_X11_back (nx := 17) (v := 1) rfl (by decide) rfl ?_
    refine ev_subC f_X11_back (nx := 18) (c := 1) (l := 0) (u := 2) rfl (by decide) l6 u2 rfl rfl (by decide) (by decide) rfl (fun z7 e7 l7 u7 => ?_)
    rcases hI.2.2.2.1.2.2.1 z7.toNatClampNeg (t_idx (n := 3) l7 (by decide) u7 (by decide)).2 with e8 | ⟨a8, e8, p8⟩
    · refine ev_aald f_X11_back (nx := 19) rfl (hI.wf.s rfl) rfl (t_idx (n := 3) l7 (by decide) u7 (by decide)).1 (t_idx (n := 3) l7 (by decide) u7 (by decide)).2 e8 rfl rfl ?_
      refine ev_jmp f_X11_back (nx := 22) rfl rfl rfl ?_
      refine ev_loc f_X11_back (nx := 23) rfl rfl rfl rfl ?_
      refine ev_bp f_X11_back (nx := 25) (v := 6) rfl (by decide) rfl ?_
      refine ev_inV2 f_X11_back (nx := 28) (lo2 := [(0, .ref 0), (1, .int 6)]) rfl rfl rfl rfl f_X11_refuse (hI.wf.s rfl) rfl rfl rfl rfl rfl ?_
      refine ev_loc f_X11_refuse (nx := 1) rfl rfl rfl rfl ?_
      refine ev_loc f_X11_refuse (nx := 2) rfl rfl rfl rfl ?_
      refine ev_putIT f_X11_refuse (nx := 5) rfl (hI.wf.s rfl) rfl rfl rfl (hI.put0 (hI.wf.s rfl) rfl rfl) (hX.upI rfl) (fun g9 e9 hI hX => ?_)
      refine ev_ic f_X11_refuse (nx := 6) (v := -1) rfl (by decide) rfl ?_
      refine ev_retK1 f_X11_refuse rfl rfl rfl ?_
      exact ev_ret f_X11_back rfl rfl rfl ⟨_, _, _, rfl, hI, hX, ⟨_, rfl, (by decide : ((-1):Int) ≤ ((-1):Int32).toInt), (Int.le_trans (by decide : ((-1):Int32).toInt ≤ ((-1):Int)) (by decide : ((-1):Int) ≤ 2)), (show (((-1) : Int) = -1 → (g9 0 0).toInt = 6) ∧ (((-1) : Int) ≠ -1 → (g9 0 0).toInt = 0) from ⟨fun h => (by have ffs : (g9 0 0).toInt = 6 := (congrArg Int32.toInt (by rw [e9]; exact x_up2_at _ _ _ _ : g9 0 0 = 6)).trans (by decide); omega), fun h => (by have ffs : (g9 0 0).toInt = 6 := (congrArg Int32.toInt (by rw [e9]; exact x_up2_at _ _ _ _ : g9 0 0 = 6)).trans (by decide); omega)⟩)⟩⟩
    · refine ev_aald f_X11_back (nx := 19) rfl (hI.wf.s rfl) rfl (t_idx (n := 3) l7 (by decide) u7 (by decide)).1 (t_idx (n := 3) l7 (by decide) u7 (by decide)).2 e8 rfl rfl ?_
      refine ev_jmp f_X11_back (nx := 29) rfl rfl rfl ?_
      refine ev_loc f_X11_back (nx := 30) rfl rfl rfl rfl ?_
      refine ev_alu f_X11_back (nx := 31) rfl rfl rfl rfl ?_
      refine ev_gvI f_X11_back (nx := 34) (w := (gi 0 12)) rfl (hI.wf.s rfl) rfl rfl rfl rfl ?_
      refine ev_ic f_X11_back (nx := 35) (v := 1) rfl (by decide) rfl ?_
      refine ev_subC f_X11_back (nx := 36) (c := 1) (l := 0) (u := 2) rfl (by decide) l6 u2 rfl rfl (by decide) (by decide) rfl (fun z10 e10 l10 u10 => ?_)
      refine ev_putIT f_X11_back (nx := 39) rfl (hI.wf.s rfl) rfl rfl rfl (hI.putB (hI.wf.s rfl) rfl rfl l10 (by decide) u10 (by decide)) (hX.upI rfl) (fun g11 e11 hI hX => ?_)
      refine ev_loc f_X11_back (nx := 40) rfl rfl rfl rfl ?_
      refine ev_loc f_X11_back (nx := 41) rfl rfl rfl rfl ?_
      refine ev_getR f_X11_back (nx := 44) rfl (hI.wf.s rfl) rfl rfl (hI.wf.r rfl) rfl rfl ?_
      refine ev_loc f_X11_back (nx := 45) rfl rfl rfl rfl ?_
      refine ev_gvI f_X11_back (nx := 48) (w := z10) rfl (hI.wf.s rfl) rfl rfl (by rw [e11]; exact x_up2_at _ _ _ _ : g11 0 12 = z10) rfl ?_
      refine ev_aald f_X11_back (nx := 49) (v := .ref a8) rfl (hI.wf.s rfl) rfl (t_idx (n := 3) l10 (by decide) u10 (by decide)).1 (t_idx (n := 3) l10 (by decide) u10 (by decide)).2 (by rw [t_ceq (by omega : z10.toInt = z7.toInt)]; exact e8) rfl rfl ?_
      have hE13 := t_eqf_up (gr := gr) (j := 6) (v := .ref a8) (hI.wf.s (k := 0) rfl) rfl
      have hT13 := t_putRiver hI p8
      replace p8 := p8.ext hE13
      refine ev_putRT f_X11_back (nx := 52) rfl (hI.wf.s rfl) rfl rfl rfl rfl hT13 (hX.upR rfl hE13) (fun g13 e13 hI hX => ?_)
      rw [← e13] at p8
      refine ev_loc f_X11_back (nx := 53) rfl rfl rfl rfl ?_
      refine ev_loc f_X11_back (nx := 54) rfl rfl rfl rfl ?_
      refine ev_getR f_X11_back (nx := 57) rfl (hI.wf.s rfl) rfl rfl (hI.wf.r rfl) rfl rfl ?_
      refine ev_loc f_X11_back (nx := 58) rfl rfl rfl rfl ?_
      refine ev_gvI f_X11_back (nx := 61) (w := z10) rfl (hI.wf.s rfl) rfl rfl (by rw [e11]; exact x_up2_at _ _ _ _ : g11 0 12 = z10) rfl ?_
      rcases hI.2.2.2.1.2.2.2.1 z10.toNatClampNeg (t_idx (n := 3) l10 (by decide) u10 (by decide)).2 with e14 | ⟨a14, e14, p14⟩
      · refine ev_aald f_X11_back (nx := 62) rfl (hI.wf.s rfl) rfl (t_idx (n := 3) l10 (by decide) u10 (by decide)).1 (t_idx (n := 3) l10 (by decide) u10 (by decide)).2 e14 rfl rfl ?_
        have hE15 := t_eqf_up (gr := g13) (j := 7) (v := .null) (hI.wf.s (k := 0) rfl) rfl
        have hT15 := t_putRules hI (v := .null) (Or.inl rfl)
        replace p8 := p8.ext hE15
        refine ev_putRT f_X11_back (nx := 65) rfl (hI.wf.s rfl) rfl rfl rfl rfl hT15 (hX.upR rfl hE15) (fun g15 e15 hI hX => ?_)
        rw [← e15] at p8
        refine ev_loc f_X11_back (nx := 66) rfl rfl rfl rfl ?_
        refine ev_loc f_X11_back (nx := 67) rfl rfl rfl rfl ?_
        refine ev_gvI f_X11_back (nx := 70) (w := z10) rfl (hI.wf.s rfl) rfl rfl (by rw [e11]; exact x_up2_at _ _ _ _ : g11 0 12 = z10) rfl ?_
        refine ev_inV2 f_X11_back (nx := 73) (lo2 := [(0, .ref 0), (1, .int z10)]) rfl rfl rfl rfl f_X11_answer (hI.wf.s rfl) rfl rfl rfl rfl rfl ?_
        refine ev_loc f_X11_answer (nx := 1) rfl rfl rfl rfl ?_
        refine ev_ic f_X11_answer (nx := 2) (v := 0) rfl (by decide) rfl ?_
        refine ev_putIT f_X11_answer (nx := 5) rfl (hI.wf.s rfl) rfl rfl rfl (hI.put0 (hI.wf.s rfl) rfl rfl) (hX.upI rfl) (fun g16 e16 hI hX => ?_)
        refine ev_loc f_X11_answer (nx := 6) rfl rfl rfl rfl ?_
        refine ev_retK1 f_X11_answer rfl rfl rfl ?_
        exact ev_ret f_X11_back rfl rfl rfl ⟨_, _, _, rfl, hI, hX, ⟨_, rfl, (Int.le_trans (by decide : ((-1):Int) ≤ 0) l10), u10, (show (z10.toInt = -1 → (g16 0 0).toInt = 6) ∧ (z10.toInt ≠ -1 → (g16 0 0).toInt = 0) from ⟨fun h => (by have ffs : (g16 0 0).toInt = 0 := (congrArg Int32.toInt (by rw [e16]; exact x_up2_at _ _ _ _ : g16 0 0 = 0)).trans (by decide); omega), fun h => (by have ffs : (g16 0 0).toInt = 0 := (congrArg Int32.toInt (by rw [e16]; exact x_up2_at _ _ _ _ : g16 0 0 = 0)).trans (by decide); omega)⟩)⟩⟩
      · refine ev_aald f_X11_back (nx := 62) rfl (hI.wf.s rfl) rfl (t_idx (n := 3) l10 (by decide) u10 (by decide)).1 (t_idx (n := 3) l10 (by decide) u10 (by decide)).2 e14 rfl rfl ?_
        have hE17 := t_eqf_up (gr := g13) (j := 7) (v := .ref a14) (hI.wf.s (k := 0) rfl) rfl
        have hT17 := t_putRules hI (v := .ref a14) (Or.inr ⟨_, rfl, p14⟩)
        replace p8 := p8.ext hE17
        replace p14 := p14.ext hE17
        refine ev_putRT f_X11_back (nx := 65) rfl (hI.wf.s rfl) rfl rfl rfl rfl hT17 (hX.upR rfl hE17) (fun g17 e17 hI hX => ?_)
        rw [← e17] at p8
        rw [← e17] at p14
        refine ev_loc f_X11_back (nx := 66) rfl rfl rfl rfl ?_
        refine ev_loc f_X11_back (nx := 67) rfl rfl rfl rfl ?_
        refine ev_gvI f_X11_back (nx := 70) (w := z10) rfl (hI.wf.s rfl) rfl rfl (by rw [e11]; exact x_up2_at _ _ _ _ : g11 0 12 = z10) rfl ?_
        refine ev_inV2 f_X11_back (nx := 73) (lo2 := [(0, .ref 0), (1, .int z10)]) rfl rfl rfl rfl f_X11_answer (hI.wf.s rfl) rfl rfl rfl rfl rfl ?_
        refine ev_loc f_X11_answer (nx := 1) rfl rfl rfl rfl ?_
        refine ev_ic f_X11_answer (nx := 2) (v := 0) rfl (by decide) rfl ?_
        refine ev_putIT f_X11_answer (nx := 5) rfl (hI.wf.s rfl) rfl rfl rfl (hI.put0 (hI.wf.s rfl) rfl rfl) (hX.upI rfl) (fun g18 e18 hI hX => ?_)
        refine ev_loc f_X11_answer (nx := 6) rfl rfl rfl rfl ?_
        refine ev_retK1 f_X11_answer rfl rfl rfl ?_
        exact ev_ret f_X11_back rfl rfl rfl ⟨_, _, _, rfl, hI, hX, ⟨_, rfl, (Int.le_trans (by decide : ((-1):Int) ≤ 0) l10), u10, (show (z10.toInt = -1 → (g18 0 0).toInt = 6) ∧ (z10.toInt ≠ -1 → (g18 0 0).toInt = 0) from ⟨fun h => (by have ffs : (g18 0 0).toInt = 0 := (congrArg Int32.toInt (by rw [e18]; exact x_up2_at _ _ _ _ : g18 0 0 = 0)).trans (by decide); omega), fun h => (by have ffs : (g18 0 0).toInt = 0 := (congrArg Int32.toInt (by rw [e18]; exact x_up2_at _ _ _ _ : g18 0 0 = 0)).trans (by decide); omega)⟩)⟩⟩
noncomputable def wl_f_write : List (Nat × Nat) := [(0, 0), (62, 9999), (64, 9999), (66, 9999), (68, 9999)]
noncomputable def Q_f_write (gi : Nat → Nat → Int32) (gl : Nat → Nat → Int64) (gr : Nat → Nat → Value) (ar1 : Int32) (ar2 : Int32) (ar3 : Int64) : Int32 → (Nat → Nat → Int32) → (Nat → Nat → Int64) → (Nat → Nat → Value) → Prop := fun (v : Int32) (gi2 : Nat → Nat → Int32) (gl2 : Nat → Nat → Int64) (gr2 : Nat → Nat → Value) => (¬ (0 ≤ ar1.toInt ∧ ar1.toInt ≤ 3) → (gi2 0 0).toInt = 1) ∧ (∀ A R : Nat, gr 1 ar1.toNatClampNeg = .ref A → gr A 0 = .ref R → (0 ≤ ar1.toInt ∧ ar1.toInt ≤ 3) → ((gi A 2).toInt = -1 → (gi2 0 0).toInt = 2) ∧ ((gi A 2).toInt ≠ -1 → ¬ (0 ≤ ar2.toInt ∧ ar2.toInt < (gi A 2).toInt) → (gi2 0 0).toInt = 3) ∧ ((0 ≤ ar2.toInt ∧ ar2.toInt < (gi A 2).toInt) → (gi2 0 0).toInt = 0))
theorem c_f_write {X : x_Ext} {d : Nat} {sh : List (Nat ⊕ (Nat × Nat))} {gi : Nat → Nat → Int32} {gl : Nat → Nat → Int64} {gr : Nat → Nat → Value} (hI : t_I sh gi gr) (ar1 : Int32) (ar2 : Int32) (ar3 : Int64) : x_Me X (d + 3) n_X11_write [.ref 0, .int ar1, .int ar2, .long ar3] (sh, gi, gl, gr) (t_PI wl_f_write sh gi gl gr 0 1 (Q_f_write gi gl gr ar1 ar2 ar3)) := by
  have hX : t_X wl_f_write sh gi gl gr gi gl gr := t_X.rf
  refine me_i f_X11_write (hI.wf.s rfl) rfl rfl rfl ?_
  refine ev_loc f_X11_write (nx := 1) rfl rfl rfl rfl ?_
  refine ev_loc f_X11_write (nx := 2) rfl rfl rfl rfl ?_
  refine ev_loc f_X11_write (nx := 3) rfl rfl rfl rfl ?_
  refine ev_inV3 f_X11_write (nx := 6) (lo2 := [(0, .ref 0), (1, .int ar1), (2, .int ar2)]) rfl rfl rfl rfl f_X11_wrongPlace (hI.wf.s rfl) rfl rfl rfl rfl rfl ?_
  refine ev_loc f_X11_wrongPlace (nx := 1) rfl rfl rfl rfl ?_
  refine ev_loc f_X11_wrongPlace (nx := 2) rfl rfl rfl rfl ?_
  refine ev_inV2 f_X11_wrongPlace (nx := 5) (lo2 := [(0, .ref 0), (1, .int ar1)]) rfl rfl rfl rfl f_X11_isTray (hI.wf.s rfl) rfl rfl rfl rfl rfl ?_
  refine ev_loc f_X11_isTray (nx := 1) rfl rfl rfl rfl ?_
  refine ev_if f_X11_isTray (t1 := 26) (t2 := 4) rfl rfl rfl (fun h2 => ?_) (fun h2 => ?_)
  · have u3 : ar1.toInt ≤ (-1) := t_ltu h2 (by decide : (0:Int32).toInt ≤ (0:Int)) rfl
    refine ev_ic f_X11_isTray (nx := 27) (v := 0) rfl (by decide) rfl ?_
    refine ev_retK1 f_X11_isTray rfl rfl rfl ?_
    refine ev_t f_X11_wrongPlace (t1 := 8) (t2 := 10) rfl rfl rfl (by decide) ?_
    refine ev_ic f_X11_wrongPlace (nx := 9) (v := 1) rfl (by decide) rfl ?_
    refine ev_retK1 f_X11_wrongPlace rfl rfl rfl ?_
    refine ev_loc f_X11_write (nx := 8) (lo' := [(5, .int 1), (0, .ref 0), (1, .int ar1), (2, .int ar2), (3, .long ar3)]) rfl rfl rfl rfl ?_
    refine ev_loc f_X11_write (nx := 10) rfl rfl rfl rfl ?_
    refine ev_f f_X11_write (t1 := 20) (t2 := 13) rfl rfl rfl (by decide) ?_
    refine ev_loc f_X11_write (nx := 14) rfl rfl rfl rfl ?_
    refine ev_loc f_X11_write (nx := 16) rfl rfl rfl rfl ?_
    refine ev_inV2 f_X11_write (nx := 19) (lo2 := [(0, .ref 0), (1, .int 1)]) rfl rfl rfl rfl f_X11_deny (hI.wf.s rfl) rfl rfl rfl rfl rfl ?_
    refine ev_loc f_X11_deny (nx := 1) rfl rfl rfl rfl ?_
    refine ev_loc f_X11_deny (nx := 2) rfl rfl rfl rfl ?_
    refine ev_putIT f_X11_deny (nx := 5) rfl (hI.wf.s rfl) rfl rfl rfl (hI.put0 (hI.wf.s rfl) rfl rfl) (hX.upI rfl) (fun g4 e4 hI hX => ?_)
    refine ev_ic f_X11_deny (nx := 6) (v := 0) rfl (by decide) rfl ?_
    refine ev_retK1 f_X11_deny rfl rfl rfl ?_
    exact ev_ret f_X11_write rfl rfl rfl ⟨_, _, _, rfl, hI, hX, ⟨_, rfl, (by decide : (0:Int) ≤ (0:Int32).toInt), (Int.le_trans (by decide : (0:Int32).toInt ≤ (0:Int)) (by decide : (0:Int) ≤ 1)), (show (¬ (0 ≤ ar1.toInt ∧ ar1.toInt ≤ 3) → (g4 0 0).toInt = 1) ∧ (∀ A R : Nat, gr 1 ar1.toNatClampNeg = .ref A → gr A 0 = .ref R → (0 ≤ ar1.toInt ∧ ar1.toInt ≤ 3) → ((gi A 2).toInt = -1 → (g4 0 0).toInt = 2) ∧ ((gi A 2).toInt ≠ -1 → ¬ (0 ≤ ar2.toInt ∧ ar2.toInt < (gi A 2).toInt) → (g4 0 0).toInt = 3) ∧ ((0 ≤ ar2.toInt ∧ ar2.toInt < (gi A 2).toInt) → (g4 0 0).toInt = 0)) from (by have ffs : (g4 0 0).toInt = 1 := (congrArg Int32.toInt (by rw [e4]; exact x_up2_at _ _ _ _ : g4 0 0 = 1)).trans (by decide); refine ⟨fun h3 => by omega, fun A R hA hR hi1 => ?_⟩; refine ⟨fun h4 => ?_, fun h4 h5 => ?_, fun h4 => ?_⟩ <;> omega))⟩⟩
  · have l5 : 0 ≤ ar1.toInt := t_lel (t_nlt h2) (by decide : (0:Int) ≤ (0:Int32).toInt)
    refine ev_loc f_X11_isTray (nx := 5) rfl rfl rfl rfl ?_
    refine ev_loc f_X11_isTray (nx := 6) rfl rfl rfl rfl ?_
    refine ev_getR f_X11_isTray (nx := 9) rfl (hI.wf.s rfl) rfl rfl (hI.wf.r rfl) rfl rfl ?_
    refine ev_alenv f_X11_isTray (nx := 10) (w := 4) rfl (hI.wf.s rfl) rfl (by decide) rfl ?_
    refine ev_if f_X11_isTray (t1 := 26) (t2 := 13) rfl rfl rfl (fun h6 => ?_) (fun h6 => ?_)
    · have l7 : 4 ≤ ar1.toInt := t_lel h6 (by decide : (4:Int) ≤ (4:Int32).toInt)
      refine ev_ic f_X11_isTray (nx := 27) (v := 0) rfl (by decide) rfl ?_
      refine ev_retK1 f_X11_isTray rfl rfl rfl ?_
      refine ev_t f_X11_wrongPlace (t1 := 8) (t2 := 10) rfl rfl rfl (by decide) ?_
      refine ev_ic f_X11_wrongPlace (nx := 9) (v := 1) rfl (by decide) rfl ?_
      refine ev_retK1 f_X11_wrongPlace rfl rfl rfl ?_
      refine ev_loc f_X11_write (nx := 8) (lo' := [(5, .int 1), (0, .ref 0), (1, .int ar1), (2, .int ar2), (3, .long ar3)]) rfl rfl rfl rfl ?_
      refine ev_loc f_X11_write (nx := 10) rfl rfl rfl rfl ?_
      refine ev_f f_X11_write (t1 := 20) (t2 := 13) rfl rfl rfl (by decide) ?_
      refine ev_loc f_X11_write (nx := 14) rfl rfl rfl rfl ?_
      refine ev_loc f_X11_write (nx := 16) rfl rfl rfl rfl ?_
      refine ev_inV2 f_X11_write (nx := 19) (lo2 := [(0, .ref 0), (1, .int 1)]) rfl rfl rfl rfl f_X11_deny (hI.wf.s rfl) rfl rfl rfl rfl rfl ?_
      refine ev_loc f_X11_deny (nx := 1) rfl rfl rfl rfl ?_
      refine ev_loc f_X11_deny (nx := 2) rfl rfl rfl rfl ?_
      refine ev_putIT f_X11_deny (nx := 5) rfl (hI.wf.s rfl) rfl rfl rfl (hI.put0 (hI.wf.s rfl) rfl rfl) (hX.upI rfl) (fun g8 e8 hI hX => ?_)
      refine ev_ic f_X11_deny (nx := 6) (v := 0) rfl (by decide) rfl ?_
      refine ev_retK1 f_X11_deny rfl rfl rfl ?_
      exact ev_ret f_X11_write rfl rfl rfl ⟨_, _, _, rfl, hI, hX, ⟨_, rfl, (by decide : (0:Int) ≤ (0:Int32).toInt), (Int.le_trans (by decide : (0:Int32).toInt ≤ (0:Int)) (by decide : (0:Int) ≤ 1)), (show (¬ (0 ≤ ar1.toInt ∧ ar1.toInt ≤ 3) → (g8 0 0).toInt = 1) ∧ (∀ A R : Nat, gr 1 ar1.toNatClampNeg = .ref A → gr A 0 = .ref R → (0 ≤ ar1.toInt ∧ ar1.toInt ≤ 3) → ((gi A 2).toInt = -1 → (g8 0 0).toInt = 2) ∧ ((gi A 2).toInt ≠ -1 → ¬ (0 ≤ ar2.toInt ∧ ar2.toInt < (gi A 2).toInt) → (g8 0 0).toInt = 3) ∧ ((0 ≤ ar2.toInt ∧ ar2.toInt < (gi A 2).toInt) → (g8 0 0).toInt = 0)) from (by have ffs : (g8 0 0).toInt = 1 := (congrArg Int32.toInt (by rw [e8]; exact x_up2_at _ _ _ _ : g8 0 0 = 1)).trans (by decide); refine ⟨fun h3 => by omega, fun A R hA hR hi1 => ?_⟩; refine ⟨fun h4 => ?_, fun h4 h5 => ?_, fun h4 => ?_⟩ <;> omega))⟩⟩
    · have u9 : ar1.toInt ≤ 3 := t_ltu (t_nle h6) (by decide : (4:Int32).toInt ≤ (4:Int)) rfl
      refine ev_loc f_X11_isTray (nx := 14) rfl rfl rfl rfl ?_
      refine ev_getR f_X11_isTray (nx := 17) rfl (hI.wf.s rfl) rfl rfl (hI.wf.r rfl) rfl rfl ?_
      refine ev_loc f_X11_isTray (nx := 18) rfl rfl rfl rfl ?_
      obtain ⟨a10, e10, p10⟩ := t_tray hI.wf l5 (by decide) u9 (by decide)
      refine ev_aald f_X11_isTray (nx := 19) rfl (hI.wf.s rfl) rfl (t_idx (n := 4) l5 (by decide) u9 (by decide)).1 (t_idx (n := 4) l5 (by decide) u9 (by decide)).2 e10 rfl rfl ?_
      refine ev_jmp f_X11_isTray (nx := 22) rfl rfl rfl ?_
      refine ev_ic f_X11_isTray (nx := 23) (v := 1) rfl (by decide) rfl ?_
      refine ev_jmp f_X11_isTray (nx := 27) rfl rfl rfl ?_
      refine ev_retK1 f_X11_isTray rfl rfl rfl ?_
      refine ev_f f_X11_wrongPlace (t1 := 8) (t2 := 10) rfl rfl rfl (by decide) ?_
      refine ev_loc f_X11_wrongPlace (nx := 11) rfl rfl rfl rfl ?_
      refine ev_getR f_X11_wrongPlace (nx := 14) rfl (hI.wf.s rfl) rfl rfl (hI.wf.r rfl) rfl rfl ?_
      refine ev_loc f_X11_wrongPlace (nx := 15) rfl rfl rfl rfl ?_
      obtain ⟨a11, e11, p11⟩ := t_tray hI.wf l5 (by decide) u9 (by decide)
      refine ev_aald f_X11_wrongPlace (nx := 16) rfl (hI.wf.s rfl) rfl (t_idx (n := 4) l5 (by decide) u9 (by decide)).1 (t_idx (n := 4) l5 (by decide) u9 (by decide)).2 e11 rfl rfl ?_
      refine ev_inV1 f_X11_wrongPlace (nx := 19) (lo2 := [(0, .ref a11)]) rfl rfl rfl rfl f_X10_isMissing p11.1 rfl rfl rfl rfl rfl ?_
      refine ev_loc f_X10_isMissing (nx := 1) rfl rfl rfl rfl ?_
      refine ev_getI f_X10_isMissing (nx := 4) rfl p11.1 rfl rfl rfl ?_
      obtain ⟨l12, u12⟩ := hI.b p11.1 (t_bdK rfl : t_bd 9 2 = some ((-1), 60))
      refine ev_ic f_X10_isMissing (nx := 5) (v := -1) rfl (by decide) rfl ?_
      refine ev_if f_X10_isMissing (t1 := 8) (t2 := 12) rfl rfl rfl (fun h13 => ?_) (fun h13 => ?_)
      · have u14 : (gi a11 2).toInt ≤ (-1) := t_equ h13 (by decide : ((-1):Int32).toInt ≤ ((-1):Int))
        refine ev_ic f_X10_isMissing (nx := 9) (v := 1) rfl (by decide) rfl ?_
        refine ev_jmp f_X10_isMissing (nx := 13) rfl rfl rfl ?_
        refine ev_retK1 f_X10_isMissing rfl rfl rfl ?_
        refine ev_f f_X11_wrongPlace (t1 := 24) (t2 := 22) rfl rfl rfl (by decide) ?_
        refine ev_ic f_X11_wrongPlace (nx := 23) (v := 2) rfl (by decide) rfl ?_
        refine ev_retK1 f_X11_wrongPlace rfl rfl rfl ?_
        refine ev_loc f_X11_write (nx := 8) (lo' := [(5, .int 2), (0, .ref 0), (1, .int ar1), (2, .int ar2), (3, .long ar3)]) rfl rfl rfl rfl ?_
        refine ev_loc f_X11_write (nx := 10) rfl rfl rfl rfl ?_
        refine ev_f f_X11_write (t1 := 20) (t2 := 13) rfl rfl rfl (by decide) ?_
        refine ev_loc f_X11_write (nx := 14) rfl rfl rfl rfl ?_
        refine ev_loc f_X11_write (nx := 16) rfl rfl rfl rfl ?_
        refine ev_inV2 f_X11_write (nx := 19) (lo2 := [(0, .ref 0), (1, .int 2)]) rfl rfl rfl rfl f_X11_deny (hI.wf.s rfl) rfl rfl rfl rfl rfl ?_
        refine ev_loc f_X11_deny (nx := 1) rfl rfl rfl rfl ?_
        refine ev_loc f_X11_deny (nx := 2) rfl rfl rfl rfl ?_
        refine ev_putIT f_X11_deny (nx := 5) rfl (hI.wf.s rfl) rfl rfl rfl (hI.put0 (hI.wf.s rfl) rfl rfl) (hX.upI rfl) (fun g15 e15 hI hX => ?_)
        refine ev_ic f_X11_deny (nx := 6) (v := 0) rfl (by decide) rfl ?_
        refine ev_retK1 f_X11_deny rfl rfl rfl ?_
        exact ev_ret f_X11_write rfl rfl rfl ⟨_, _, _, rfl, hI, hX, ⟨_, rfl, (by decide : (0:Int) ≤ (0:Int32).toInt), (Int.le_trans (by decide : (0:Int32).toInt ≤ (0:Int)) (by decide : (0:Int) ≤ 1)), (show (¬ (0 ≤ ar1.toInt ∧ ar1.toInt ≤ 3) → (g15 0 0).toInt = 1) ∧ (∀ A R : Nat, gr 1 ar1.toNatClampNeg = .ref A → gr A 0 = .ref R → (0 ≤ ar1.toInt ∧ ar1.toInt ≤ 3) → ((gi A 2).toInt = -1 → (g15 0 0).toInt = 2) ∧ ((gi A 2).toInt ≠ -1 → ¬ (0 ≤ ar2.toInt ∧ ar2.toInt < (gi A 2).toInt) → (g15 0 0).toInt = 3) ∧ ((0 ≤ ar2.toInt ∧ ar2.toInt < (gi A 2).toInt) → (g15 0 0).toInt = 0)) from (by have ffs : (g15 0 0).toInt = 2 := (congrArg Int32.toInt (by rw [e15]; exact x_up2_at _ _ _ _ : g15 0 0 = 2)).trans (by decide); refine ⟨fun h3 => by omega, fun A R hA hR hi1 => ?_⟩; rw [e11] at hA; cases hA; have hh := e10.symm.trans e11; cases hh; refine ⟨fun h4 => ?_, fun h4 h5 => ?_, fun h4 => ?_⟩ <;> omega))⟩⟩
      · have r16 : (gi a11 2).toInt ≠ (-1) := fun e => h13 (Int32.toInt_inj.mp (e.trans (by decide : ((-1):Int) = ((-1) : Int32).toInt)))
        have l17 : 0 ≤ (gi a11 2).toInt := t_nel h13 l12 rfl rfl
        refine ev_ic f_X10_isMissing (nx := 13) (v := 0) rfl (by decide) rfl ?_
        refine ev_retK1 f_X10_isMissing rfl rfl rfl ?_
        refine ev_t f_X11_wrongPlace (t1 := 24) (t2 := 22) rfl rfl rfl (by decide) ?_
        refine ev_loc f_X11_wrongPlace (nx := 25) rfl rfl rfl rfl ?_
        refine ev_if f_X11_wrongPlace (t1 := 46) (t2 := 28) rfl rfl rfl (fun h18 => ?_) (fun h18 => ?_)
        · have u19 : ar2.toInt ≤ (-1) := t_ltu h18 (by decide : (0:Int32).toInt ≤ (0:Int)) rfl
          refine ev_ic f_X11_wrongPlace (nx := 47) (v := 3) rfl (by decide) rfl ?_
          refine ev_retK1 f_X11_wrongPlace rfl rfl rfl ?_
          refine ev_loc f_X11_write (nx := 8) (lo' := [(5, .int 3), (0, .ref 0), (1, .int ar1), (2, .int ar2), (3, .long ar3)]) rfl rfl rfl rfl ?_
          refine ev_loc f_X11_write (nx := 10) rfl rfl rfl rfl ?_
          refine ev_f f_X11_write (t1 := 20) (t2 := 13) rfl rfl rfl (by decide) ?_
          refine ev_loc f_X11_write (nx := 14) rfl rfl rfl rfl ?_
          refine ev_loc f_X11_write (nx := 16) rfl rfl rfl rfl ?_
          refine ev_inV2 f_X11_write (nx := 19) (lo2 := [(0, .ref 0), (1, .int 3)]) rfl rfl rfl rfl f_X11_deny (hI.wf.s rfl) rfl rfl rfl rfl rfl ?_
          refine ev_loc f_X11_deny (nx := 1) rfl rfl rfl rfl ?_
          refine ev_loc f_X11_deny (nx := 2) rfl rfl rfl rfl ?_
          refine ev_putIT f_X11_deny (nx := 5) rfl (hI.wf.s rfl) rfl rfl rfl (hI.put0 (hI.wf.s rfl) rfl rfl) (hX.upI rfl) (fun g20 e20 hI hX => ?_)
          refine ev_ic f_X11_deny (nx := 6) (v := 0) rfl (by decide) rfl ?_
          refine ev_retK1 f_X11_deny rfl rfl rfl ?_
          exact ev_ret f_X11_write rfl rfl rfl ⟨_, _, _, rfl, hI, hX, ⟨_, rfl, (by decide : (0:Int) ≤ (0:Int32).toInt), (Int.le_trans (by decide : (0:Int32).toInt ≤ (0:Int)) (by decide : (0:Int) ≤ 1)), (show (¬ (0 ≤ ar1.toInt ∧ ar1.toInt ≤ 3) → (g20 0 0).toInt = 1) ∧ (∀ A R : Nat, gr 1 ar1.toNatClampNeg = .ref A → gr A 0 = .ref R → (0 ≤ ar1.toInt ∧ ar1.toInt ≤ 3) → ((gi A 2).toInt = -1 → (g20 0 0).toInt = 2) ∧ ((gi A 2).toInt ≠ -1 → ¬ (0 ≤ ar2.toInt ∧ ar2.toInt < (gi A 2).toInt) → (g20 0 0).toInt = 3) ∧ ((0 ≤ ar2.toInt ∧ ar2.toInt < (gi A 2).toInt) → (g20 0 0).toInt = 0)) from (by have ffs : (g20 0 0).toInt = 3 := (congrArg Int32.toInt (by rw [e20]; exact x_up2_at _ _ _ _ : g20 0 0 = 3)).trans (by decide); refine ⟨fun h3 => by omega, fun A R hA hR hi1 => ?_⟩; rw [e11] at hA; cases hA; have hh := e10.symm.trans e11; cases hh; refine ⟨fun h4 => ?_, fun h4 h5 => ?_, fun h4 => ?_⟩ <;> omega))⟩⟩
        · have l21 : 0 ≤ ar2.toInt := t_lel (t_nlt h18) (by decide : (0:Int) ≤ (0:Int32).toInt)
          refine ev_loc f_X11_wrongPlace (nx := 29) rfl rfl rfl rfl ?_
          refine ev_getR f_X11_wrongPlace (nx := 32) rfl (hI.wf.s rfl) rfl rfl (hI.wf.r rfl) rfl rfl ?_
          refine ev_loc f_X11_wrongPlace (nx := 33) rfl rfl rfl rfl ?_
          obtain ⟨a22, e22, p22⟩ := t_tray hI.wf l5 (by decide) u9 (by decide)
          refine ev_aald f_X11_wrongPlace (nx := 34) rfl (hI.wf.s rfl) rfl (t_idx (n := 4) l5 (by decide) u9 (by decide)).1 (t_idx (n := 4) l5 (by decide) u9 (by decide)).2 e22 rfl rfl ?_
          refine ev_loc f_X11_wrongPlace (nx := 35) rfl rfl rfl rfl ?_
          refine ev_ic f_X11_wrongPlace (nx := 36) (v := 1) rfl (by decide) rfl ?_
          refine ev_inV3 f_X11_wrongPlace (nx := 39) (lo2 := [(0, .ref a22), (1, .int ar2), (2, .int 1)]) rfl rfl rfl rfl f_X10_hasStretch p22.1 rfl rfl rfl rfl rfl ?_
          refine ev_loc f_X10_hasStretch (nx := 1) rfl rfl rfl rfl ?_
          refine ev_loc f_X10_hasStretch (nx := 2) rfl rfl rfl rfl ?_
          refine ev_getI f_X10_hasStretch (nx := 5) rfl p22.1 rfl rfl rfl ?_
          obtain ⟨l23, u23⟩ := hI.b p22.1 (t_bdK rfl : t_bd 9 2 = some ((-1), 60))
          refine ev_if f_X10_hasStretch (t1 := 22) (t2 := 8) rfl rfl rfl (fun h24 => ?_) (fun h24 => ?_)
          · have r25 : (gi a22 2).toInt < ar2.toInt := Int32.lt_iff_toInt_lt.mp h24
            refine ev_ic f_X10_hasStretch (nx := 23) (v := 0) rfl (by decide) rfl ?_
            refine ev_retK1 f_X10_hasStretch rfl rfl rfl ?_
            refine ev_t f_X11_wrongPlace (t1 := 46) (t2 := 42) rfl rfl rfl (by decide) ?_
            refine ev_ic f_X11_wrongPlace (nx := 47) (v := 3) rfl (by decide) rfl ?_
            refine ev_retK1 f_X11_wrongPlace rfl rfl rfl ?_
            refine ev_loc f_X11_write (nx := 8) (lo' := [(5, .int 3), (0, .ref 0), (1, .int ar1), (2, .int ar2), (3, .long ar3)]) rfl rfl rfl rfl ?_
            refine ev_loc f_X11_write (nx := 10) rfl rfl rfl rfl ?_
            refine ev_f f_X11_write (t1 := 20) (t2 := 13) rfl rfl rfl (by decide) ?_
            refine ev_loc f_X11_write (nx := 14) rfl rfl rfl rfl ?_
            refine ev_loc f_X11_write (nx := 16) rfl rfl rfl rfl ?_
            refine ev_inV2 f_X11_write (nx := 19) (lo2 := [(0, .ref 0), (1, .int 3)]) rfl rfl rfl rfl f_X11_deny (hI.wf.s rfl) rfl rfl rfl rfl rfl ?_
            refine ev_loc f_X11_deny (nx := 1) rfl rfl rfl rfl ?_
            refine ev_loc f_X11_deny (nx := 2) rfl rfl rfl rfl ?_
            refine ev_putIT f_X11_deny (nx := 5) rfl (hI.wf.s rfl) rfl rfl rfl (hI.put0 (hI.wf.s rfl) rfl rfl) (hX.upI rfl) (fun g26 e26 hI hX => ?_)
            refine ev_ic f_X11_deny (nx := 6) (v := 0) rfl (by decide) rfl ?_
            refine ev_retK1 f_X11_deny rfl rfl rfl ?_
            exact ev_ret f_X11_write rfl rfl rfl ⟨_, _, _, rfl, hI, hX, ⟨_, rfl, (by decide : (0:Int) ≤ (0:Int32).toInt), (Int.le_trans (by decide : (0:Int32).toInt ≤ (0:Int)) (by decide : (0:Int) ≤ 1)), (show (¬ (0 ≤ ar1.toInt ∧ ar1.toInt ≤ 3) → (g26 0 0).toInt = 1) ∧ (∀ A R : Nat, gr 1 ar1.toNatClampNeg = .ref A → gr A 0 = .ref R → (0 ≤ ar1.toInt ∧ ar1.toInt ≤ 3) → ((gi A 2).toInt = -1 → (g26 0 0).toInt = 2) ∧ ((gi A 2).toInt ≠ -1 → ¬ (0 ≤ ar2.toInt ∧ ar2.toInt < (gi A 2).toInt) → (g26 0 0).toInt = 3) ∧ ((0 ≤ ar2.toInt ∧ ar2.toInt < (gi A 2).toInt) → (g26 0 0).toInt = 0)) from (by have ffs : (g26 0 0).toInt = 3 := (congrArg Int32.toInt (by rw [e26]; exact x_up2_at _ _ _ _ : g26 0 0 = 3)).trans (by decide); refine ⟨fun h3 => by omega, fun A R hA hR hi1 => ?_⟩; rw [e22] at hA; cases hA; have hh := e10.symm.trans e22; cases hh; have hh := e11.symm.trans e22; cases hh; refine ⟨fun h4 => ?_, fun h4 h5 => ?_, fun h4 => ?_⟩ <;> omega))⟩⟩
          · have r27 : ar2.toInt ≤ (gi a22 2).toInt := Int32.le_iff_toInt_le.mp (t_nlt h24)
            have u28 : ar2.toInt ≤ 60 := t_leu (t_nlt h24) u23
            have l29 : 0 ≤ (gi a22 2).toInt := t_lel (t_nlt h24) l21
            refine ev_loc f_X10_hasStretch (nx := 9) rfl rfl rfl rfl ?_
            refine ev_loc f_X10_hasStretch (nx := 10) rfl rfl rfl rfl ?_
            refine ev_gvI f_X10_hasStretch (nx := 13) (w := (gi a22 2)) rfl p22.1 rfl rfl rfl rfl ?_
            refine ev_loc f_X10_hasStretch (nx := 14) rfl rfl rfl rfl ?_
            refine ev_subR f_X10_hasStretch (nx := 15) (l := (-60)) (u := 60) rfl l29 u23 l21 u28 rfl rfl (by decide) (by decide) rfl (fun z30 e30 l30 u30 => ?_)
            refine ev_if f_X10_hasStretch (t1 := 22) (t2 := 18) rfl rfl rfl (fun h31 => ?_) (fun h31 => ?_)
            · have u32 : z30.toInt ≤ 0 := t_ltu h31 (by decide : (1:Int32).toInt ≤ (1:Int)) rfl
              refine ev_ic f_X10_hasStretch (nx := 23) (v := 0) rfl (by decide) rfl ?_
              refine ev_retK1 f_X10_hasStretch rfl rfl rfl ?_
              refine ev_t f_X11_wrongPlace (t1 := 46) (t2 := 42) rfl rfl rfl (by decide) ?_
              refine ev_ic f_X11_wrongPlace (nx := 47) (v := 3) rfl (by decide) rfl ?_
              refine ev_retK1 f_X11_wrongPlace rfl rfl rfl ?_
              refine ev_loc f_X11_write (nx := 8) (lo' := [(5, .int 3), (0, .ref 0), (1, .int ar1), (2, .int ar2), (3, .long ar3)]) rfl rfl rfl rfl ?_
              refine ev_loc f_X11_write (nx := 10) rfl rfl rfl rfl ?_
              refine ev_f f_X11_write (t1 := 20) (t2 := 13) rfl rfl rfl (by decide) ?_
              refine ev_loc f_X11_write (nx := 14) rfl rfl rfl rfl ?_
              refine ev_loc f_X11_write (nx := 16) rfl rfl rfl rfl ?_
              refine ev_inV2 f_X11_write (nx := 19) (lo2 := [(0, .ref 0), (1, .int 3)]) rfl rfl rfl rfl f_X11_deny (hI.wf.s rfl) rfl rfl rfl rfl rfl ?_
              refine ev_loc f_X11_deny (nx := 1) rfl rfl rfl rfl ?_
              refine ev_loc f_X11_deny (nx := 2) rfl rfl rfl rfl ?_
              refine ev_putIT f_X11_deny (nx := 5) rfl (hI.wf.s rfl) rfl rfl rfl (hI.put0 (hI.wf.s rfl) rfl rfl) (hX.upI rfl) (fun g33 e33 hI hX => ?_)
              refine ev_ic f_X11_deny (nx := 6) (v := 0) rfl (by decide) rfl ?_
              refine ev_retK1 f_X11_deny rfl rfl rfl ?_
              exact ev_ret f_X11_write rfl rfl rfl ⟨_, _, _, rfl, hI, hX, ⟨_, rfl, (by decide : (0:Int) ≤ (0:Int32).toInt), (Int.le_trans (by decide : (0:Int32).toInt ≤ (0:Int)) (by decide : (0:Int) ≤ 1)), (show (¬ (0 ≤ ar1.toInt ∧ ar1.toInt ≤ 3) → (g33 0 0).toInt = 1) ∧ (∀ A R : Nat, gr 1 ar1.toNatClampNeg = .ref A → gr A 0 = .ref R → (0 ≤ ar1.toInt ∧ ar1.toInt ≤ 3) → ((gi A 2).toInt = -1 → (g33 0 0).toInt = 2) ∧ ((gi A 2).toInt ≠ -1 → ¬ (0 ≤ ar2.toInt ∧ ar2.toInt < (gi A 2).toInt) → (g33 0 0).toInt = 3) ∧ ((0 ≤ ar2.toInt ∧ ar2.toInt < (gi A 2).toInt) → (g33 0 0).toInt = 0)) from (by have ffs : (g33 0 0).toInt = 3 := (congrArg Int32.toInt (by rw [e33]; exact x_up2_at _ _ _ _ : g33 0 0 = 3)).trans (by decide); refine ⟨fun h3 => by omega, fun A R hA hR hi1 => ?_⟩; rw [e22] at hA; cases hA; have hh := e10.symm.trans e22; cases hh; have hh := e11.symm.trans e22; cases hh; refine ⟨fun h4 => ?_, fun h4 h5 => ?_, fun h4 => ?_⟩ <;> omega))⟩⟩
            · have l34 : 1 ≤ z30.toInt := t_lel (t_nlt h31) (by decide : (1:Int) ≤ (1:Int32).toInt)
              have u35 : ar2.toInt ≤ 59 := by have := u23; omega
              refine ev_ic f_X10_hasStretch (nx := 19) (v := 1) rfl (by decide) rfl ?_
              refine ev_jmp f_X10_hasStretch (nx := 23) rfl rfl rfl ?_
              refine ev_retK1 f_X10_hasStretch rfl rfl rfl ?_
              refine ev_f f_X11_wrongPlace (t1 := 46) (t2 := 42) rfl rfl rfl (by decide) ?_
              refine ev_ic f_X11_wrongPlace (nx := 43) (v := 0) rfl (by decide) rfl ?_
              refine ev_jmp f_X11_wrongPlace (nx := 47) rfl rfl rfl ?_
              refine ev_retK1 f_X11_wrongPlace rfl rfl rfl ?_
              refine ev_loc f_X11_write (nx := 8) (lo' := [(5, .int 0), (0, .ref 0), (1, .int ar1), (2, .int ar2), (3, .long ar3)]) rfl rfl rfl rfl ?_
              refine ev_loc f_X11_write (nx := 10) rfl rfl rfl rfl ?_
              refine ev_t f_X11_write (t1 := 20) (t2 := 13) rfl rfl rfl (by decide) ?_
              refine ev_loc f_X11_write (nx := 21) rfl rfl rfl rfl ?_
              refine ev_getR f_X11_write (nx := 24) rfl (hI.wf.s rfl) rfl rfl (hI.wf.r rfl) rfl rfl ?_
              refine ev_loc f_X11_write (nx := 25) rfl rfl rfl rfl ?_
              obtain ⟨a36, e36, p36⟩ := t_tray hI.wf l5 (by decide) u9 (by decide)
              refine ev_aald f_X11_write (nx := 26) rfl (hI.wf.s rfl) rfl (t_idx (n := 4) l5 (by decide) u9 (by decide)).1 (t_idx (n := 4) l5 (by decide) u9 (by decide)).2 e36 rfl rfl ?_
              refine ev_loc f_X11_write (nx := 27) rfl rfl rfl rfl ?_
              refine ev_loc f_X11_write (nx := 28) rfl rfl rfl rfl ?_
              refine ev_inV3 f_X11_write (nx := 31) (lo2 := [(0, .ref a36), (1, .int ar2), (2, .long ar3)]) rfl rfl rfl rfl f_X10_put p36.1 rfl rfl rfl rfl rfl ?_
              refine ev_loc f_X10_put (nx := 1) rfl rfl rfl rfl ?_
              refine ev_f f_X10_put (t1 := 13) (t2 := 4) rfl rfl rfl (t_ltF (by decide : (0:Int32).toInt ≤ (0:Int)) l21 (by decide)) ?_
              refine ev_loc f_X10_put (nx := 5) rfl rfl rfl rfl ?_
              refine ev_loc f_X10_put (nx := 6) rfl rfl rfl rfl ?_
              have e37 := p36.2.1.1
              have s37 := p36.2.1.2
              refine ev_getR f_X10_put (nx := 9) rfl p36.1 rfl rfl e37 rfl rfl ?_
              refine ev_alenv f_X10_put (nx := 10) (w := 60) rfl s37 rfl (by decide) rfl ?_
              refine ev_t f_X10_put (t1 := 14) (t2 := 13) rfl rfl rfl (t_ltT u35 (by decide : (60:Int) ≤ (60:Int32).toInt) (by decide)) ?_
              refine ev_loc f_X10_put (nx := 15) rfl rfl rfl rfl ?_
              refine ev_getI f_X10_put (nx := 18) rfl p36.1 rfl rfl rfl ?_
              have h38 : (gi a36 1).toInt = 0 ∨ (gi a36 1).toInt = 1 ∨ (gi a36 1).toInt = 2 ∨ ((gi a36 1).toInt ≠ 0 ∧ (gi a36 1).toInt ≠ 1 ∧ (gi a36 1).toInt ≠ 2) := by have := (t_lo (gi a36 1)); have := (t_hi (gi a36 1)); omega
              rcases h38 with h38 | h38 | h38 | h38
              · refine ev_swt f_X10_put (nx := 44) (c := 0) rfl h38 rfl ?_
                refine ev_loc f_X10_put (nx := 45) rfl rfl rfl rfl ?_
                refine ev_getR f_X10_put (nx := 48) (v := .ref (a36 + 1)) rfl p36.1 rfl rfl e37 rfl rfl ?_
                refine ev_loc f_X10_put (nx := 49) rfl rfl rfl rfl ?_
                refine ev_loc f_X10_put (nx := 50) rfl rfl rfl rfl ?_
                refine ev_anyIE f_X10_put (nx := 51) rfl rfl rfl rfl (fun z39 e39 => ?_)
                refine ev_anyIE f_X10_put (nx := 52) rfl rfl rfl rfl (fun z40 e40 => ?_)
                refine ev_anyLE f_X10_put (nx := 53) rfl rfl rfl rfl (fun z41 e41 => ?_)
                have i41 : z41.toInt = z40.toInt := by rw [e41]; exact Int32.toInt_toInt64 _
                refine ev_lastT f_X10_put (nx := 54) rfl s37 l21 (by decide) u35 (by decide) rfl (hX.upL (t_in4A p36.2.2 rfl)) (fun g42 e42 hX => ?_)
                refine ev_jmp f_X10_put (nx := 89) rfl rfl rfl ?_
                refine ev_retK0 f_X10_put rfl rfl rfl ?_
                refine ev_loc f_X11_write (nx := 32) rfl rfl rfl rfl ?_
                refine ev_inV1 f_X11_write (nx := 35) (lo2 := [(0, .ref 0)]) rfl rfl rfl rfl f_X11_grant (hI.wf.s rfl) rfl rfl rfl rfl rfl ?_
                refine ev_loc f_X11_grant (nx := 1) rfl rfl rfl rfl ?_
                refine ev_ic f_X11_grant (nx := 2) (v := 0) rfl (by decide) rfl ?_
                refine ev_putIT f_X11_grant (nx := 5) rfl (hI.wf.s rfl) rfl rfl rfl (hI.put0 (hI.wf.s rfl) rfl rfl) (hX.upI rfl) (fun g43 e43 hI hX => ?_)
                refine ev_ic f_X11_grant (nx := 6) (v := 1) rfl (by decide) rfl ?_
                refine ev_retK1 f_X11_grant rfl rfl rfl ?_
                exact ev_ret f_X11_write rfl rfl rfl ⟨_, _, _, rfl, hI, hX, ⟨_, rfl, (Int.le_trans (by decide : (0:Int) ≤ 1) (by decide : (1:Int) ≤ (1:Int32).toInt)), (by decide : (1:Int32).toInt ≤ (1:Int)), (show (¬ (0 ≤ ar1.toInt ∧ ar1.toInt ≤ 3) → (g43 0 0).toInt = 1) ∧ (∀ A R : Nat, gr 1 ar1.toNatClampNeg = .ref A → gr A 0 = .ref R → (0 ≤ ar1.toInt ∧ ar1.toInt ≤ 3) → ((gi A 2).toInt = -1 → (g43 0 0).toInt = 2) ∧ ((gi A 2).toInt ≠ -1 → ¬ (0 ≤ ar2.toInt ∧ ar2.toInt < (gi A 2).toInt) → (g43 0 0).toInt = 3) ∧ ((0 ≤ ar2.toInt ∧ ar2.toInt < (gi A 2).toInt) → (g43 0 0).toInt = 0)) from (by have ffs : (g43 0 0).toInt = 0 := (congrArg Int32.toInt (by rw [e43]; exact x_up2_at _ _ _ _ : g43 0 0 = 0)).trans (by decide); refine ⟨fun h3 => by omega, fun A R hA hR hi1 => ?_⟩; rw [e36] at hA; cases hA; have hh := e10.symm.trans e36; cases hh; have hh := e11.symm.trans e36; cases hh; have hh := e22.symm.trans e36; cases hh; have hrrR := (e37).symm.trans hR; cases hrrR; refine ⟨fun h4 => ?_, fun h4 h5 => ?_, fun h4 => ?_⟩ <;> omega))⟩⟩
              · refine ev_swt f_X10_put (nx := 57) (c := 1) rfl h38 rfl ?_
                refine ev_loc f_X10_put (nx := 58) rfl rfl rfl rfl ?_
                refine ev_getR f_X10_put (nx := 61) (v := .ref (a36 + 1)) rfl p36.1 rfl rfl e37 rfl rfl ?_
                refine ev_loc f_X10_put (nx := 62) rfl rfl rfl rfl ?_
                refine ev_loc f_X10_put (nx := 63) rfl rfl rfl rfl ?_
                refine ev_anyIE f_X10_put (nx := 64) rfl rfl rfl rfl (fun z44 e44 => ?_)
                refine ev_anyIE f_X10_put (nx := 65) rfl rfl rfl rfl (fun z45 e45 => ?_)
                refine ev_anyLE f_X10_put (nx := 66) rfl rfl rfl rfl (fun z46 e46 => ?_)
                have i46 : z46.toInt = z45.toInt := by rw [e46]; exact Int32.toInt_toInt64 _
                refine ev_lastT f_X10_put (nx := 67) rfl s37 l21 (by decide) u35 (by decide) rfl (hX.upL (t_in4A p36.2.2 rfl)) (fun g47 e47 hX => ?_)
                refine ev_jmp f_X10_put (nx := 89) rfl rfl rfl ?_
                refine ev_retK0 f_X10_put rfl rfl rfl ?_
                refine ev_loc f_X11_write (nx := 32) rfl rfl rfl rfl ?_
                refine ev_inV1 f_X11_write (nx := 35) (lo2 := [(0, .ref 0)]) rfl rfl rfl rfl f_X11_grant (hI.wf.s rfl) rfl rfl rfl rfl rfl ?_
                refine ev_loc f_X11_grant (nx := 1) rfl rfl rfl rfl ?_
                refine ev_ic f_X11_grant (nx := 2) (v := 0) rfl (by decide) rfl ?_
                refine ev_putIT f_X11_grant (nx := 5) rfl (hI.wf.s rfl) rfl rfl rfl (hI.put0 (hI.wf.s rfl) rfl rfl) (hX.upI rfl) (fun g48 e48 hI hX => ?_)
                refine ev_ic f_X11_grant (nx := 6) (v := 1) rfl (by decide) rfl ?_
                refine ev_retK1 f_X11_grant rfl rfl rfl ?_
                exact ev_ret f_X11_write rfl rfl rfl ⟨_, _, _, rfl, hI, hX, ⟨_, rfl, (Int.le_trans (by decide : (0:Int) ≤ 1) (by decide : (1:Int) ≤ (1:Int32).toInt)), (by decide : (1:Int32).toInt ≤ (1:Int)), (show (¬ (0 ≤ ar1.toInt ∧ ar1.toInt ≤ 3) → (g48 0 0).toInt = 1) ∧ (∀ A R : Nat, gr 1 ar1.toNatClampNeg = .ref A → gr A 0 = .ref R → (0 ≤ ar1.toInt ∧ ar1.toInt ≤ 3) → ((gi A 2).toInt = -1 → (g48 0 0).toInt = 2) ∧ ((gi A 2).toInt ≠ -1 → ¬ (0 ≤ ar2.toInt ∧ ar2.toInt < (gi A 2).toInt) → (g48 0 0).toInt = 3) ∧ ((0 ≤ ar2.toInt ∧ ar2.toInt < (gi A 2).toInt) → (g48 0 0).toInt = 0)) from (by have ffs : (g48 0 0).toInt = 0 := (congrArg Int32.toInt (by rw [e48]; exact x_up2_at _ _ _ _ : g48 0 0 = 0)).trans (by decide); refine ⟨fun h3 => by omega, fun A R hA hR hi1 => ?_⟩; rw [e36] at hA; cases hA; have hh := e10.symm.trans e36; cases hh; have hh := e11.symm.trans e36; cases hh; have hh := e22.symm.trans e36; cases hh; have hrrR := (e37).symm.trans hR; cases hrrR; refine ⟨fun h4 => ?_, fun h4 h5 => ?_, fun h4 => ?_⟩ <;> omega))⟩⟩
              · refine ev_swt f_X10_put (nx := 70) (c := 2) rfl h38 rfl ?_
                refine ev_loc f_X10_put (nx := 71) rfl rfl rfl rfl ?_
                refine ev_getR f_X10_put (nx := 74) (v := .ref (a36 + 1)) rfl p36.1 rfl rfl e37 rfl rfl ?_
                refine ev_loc f_X10_put (nx := 75) rfl rfl rfl rfl ?_
                refine ev_loc f_X10_put (nx := 76) rfl rfl rfl rfl ?_
                refine ev_anyIE f_X10_put (nx := 77) rfl rfl rfl rfl (fun z49 e49 => ?_)
                refine ev_anyLE f_X10_put (nx := 78) rfl rfl rfl rfl (fun z50 e50 => ?_)
                have i50 : z50.toInt = z49.toInt := by rw [e50]; exact Int32.toInt_toInt64 _
                refine ev_lastT f_X10_put (nx := 79) rfl s37 l21 (by decide) u35 (by decide) rfl (hX.upL (t_in4A p36.2.2 rfl)) (fun g51 e51 hX => ?_)
                refine ev_jmp f_X10_put (nx := 89) rfl rfl rfl ?_
                refine ev_retK0 f_X10_put rfl rfl rfl ?_
                refine ev_loc f_X11_write (nx := 32) rfl rfl rfl rfl ?_
                refine ev_inV1 f_X11_write (nx := 35) (lo2 := [(0, .ref 0)]) rfl rfl rfl rfl f_X11_grant (hI.wf.s rfl) rfl rfl rfl rfl rfl ?_
                refine ev_loc f_X11_grant (nx := 1) rfl rfl rfl rfl ?_
                refine ev_ic f_X11_grant (nx := 2) (v := 0) rfl (by decide) rfl ?_
                refine ev_putIT f_X11_grant (nx := 5) rfl (hI.wf.s rfl) rfl rfl rfl (hI.put0 (hI.wf.s rfl) rfl rfl) (hX.upI rfl) (fun g52 e52 hI hX => ?_)
                refine ev_ic f_X11_grant (nx := 6) (v := 1) rfl (by decide) rfl ?_
                refine ev_retK1 f_X11_grant rfl rfl rfl ?_
                exact ev_ret f_X11_write rfl rfl rfl ⟨_, _, _, rfl, hI, hX, ⟨_, rfl, (Int.le_trans (by decide : (0:Int) ≤ 1) (by decide : (1:Int) ≤ (1:Int32).toInt)), (by decide : (1:Int32).toInt ≤ (1:Int)), (show (¬ (0 ≤ ar1.toInt ∧ ar1.toInt ≤ 3) → (g52 0 0).toInt = 1) ∧ (∀ A R : Nat, gr 1 ar1.toNatClampNeg = .ref A → gr A 0 = .ref R → (0 ≤ ar1.toInt ∧ ar1.toInt ≤ 3) → ((gi A 2).toInt = -1 → (g52 0 0).toInt = 2) ∧ ((gi A 2).toInt ≠ -1 → ¬ (0 ≤ ar2.toInt ∧ ar2.toInt < (gi A 2).toInt) → (g52 0 0).toInt = 3) ∧ ((0 ≤ ar2.toInt ∧ ar2.toInt < (gi A 2).toInt) → (g52 0 0).toInt = 0)) from (by have ffs : (g52 0 0).toInt = 0 := (congrArg Int32.toInt (by rw [e52]; exact x_up2_at _ _ _ _ : g52 0 0 = 0)).trans (by decide); refine ⟨fun h3 => by omega, fun A R hA hR hi1 => ?_⟩; rw [e36] at hA; cases hA; have hh := e10.symm.trans e36; cases hh; have hh := e11.symm.trans e36; cases hh; have hh := e22.symm.trans e36; cases hh; have hrrR := (e37).symm.trans hR; cases hrrR; refine ⟨fun h4 => ?_, fun h4 h5 => ?_, fun h4 => ?_⟩ <;> omega))⟩⟩
              · refine ev_swtd f_X10_put (nx := 82) rfl (by omega) (by decide) rfl ?_
                refine ev_loc f_X10_put (nx := 83) rfl rfl rfl rfl ?_
                refine ev_getR f_X10_put (nx := 86) (v := .ref (a36 + 1)) rfl p36.1 rfl rfl e37 rfl rfl ?_
                refine ev_loc f_X10_put (nx := 87) rfl rfl rfl rfl ?_
                refine ev_loc f_X10_put (nx := 88) rfl rfl rfl rfl ?_
                refine ev_lastT f_X10_put (nx := 89) rfl s37 l21 (by decide) u35 (by decide) rfl (hX.upL (t_in4A p36.2.2 rfl)) (fun g53 e53 hX => ?_)
                refine ev_retK0 f_X10_put rfl rfl rfl ?_
                refine ev_loc f_X11_write (nx := 32) rfl rfl rfl rfl ?_
                refine ev_inV1 f_X11_write (nx := 35) (lo2 := [(0, .ref 0)]) rfl rfl rfl rfl f_X11_grant (hI.wf.s rfl) rfl rfl rfl rfl rfl ?_
                refine ev_loc f_X11_grant (nx := 1) rfl rfl rfl rfl ?_
                refine ev_ic f_X11_grant (nx := 2) (v := 0) rfl (by decide) rfl ?_
                refine ev_putIT f_X11_grant (nx := 5) rfl (hI.wf.s rfl) rfl rfl rfl (hI.put0 (hI.wf.s rfl) rfl rfl) (hX.upI rfl) (fun g54 e54 hI hX => ?_)
                refine ev_ic f_X11_grant (nx := 6) (v := 1) rfl (by decide) rfl ?_
                refine ev_retK1 f_X11_grant rfl rfl rfl ?_
                exact ev_ret f_X11_write rfl rfl rfl ⟨_, _, _, rfl, hI, hX, ⟨_, rfl, (Int.le_trans (by decide : (0:Int) ≤ 1) (by decide : (1:Int) ≤ (1:Int32).toInt)), (by decide : (1:Int32).toInt ≤ (1:Int)), (show (¬ (0 ≤ ar1.toInt ∧ ar1.toInt ≤ 3) → (g54 0 0).toInt = 1) ∧ (∀ A R : Nat, gr 1 ar1.toNatClampNeg = .ref A → gr A 0 = .ref R → (0 ≤ ar1.toInt ∧ ar1.toInt ≤ 3) → ((gi A 2).toInt = -1 → (g54 0 0).toInt = 2) ∧ ((gi A 2).toInt ≠ -1 → ¬ (0 ≤ ar2.toInt ∧ ar2.toInt < (gi A 2).toInt) → (g54 0 0).toInt = 3) ∧ ((0 ≤ ar2.toInt ∧ ar2.toInt < (gi A 2).toInt) → (g54 0 0).toInt = 0)) from (by have ffs : (g54 0 0).toInt = 0 := (congrArg Int32.toInt (by rw [e54]; exact x_up2_at _ _ _ _ : g54 0 0 = 0)).trans (by decide); refine ⟨fun h3 => by omega, fun A R hA hR hi1 => ?_⟩; rw [e36] at hA; cases hA; have hh := e10.symm.trans e36; cases hh; have hh := e11.symm.trans e36; cases hh; have hh := e22.symm.trans e36; cases hh; have hrrR := (e37).symm.trans hR; cases hrrR; refine ⟨fun h4 => ?_, fun h4 h5 => ?_, fun h4 => ?_⟩ <;> omega))⟩⟩
noncomputable def wl_f_read : List (Nat × Nat) := [(0, 0)]
noncomputable def Q_f_read (gi : Nat → Nat → Int32) (gl : Nat → Nat → Int64) (gr : Nat → Nat → Value) (ar1 : Int32) (ar2 : Int32) : Int64 → (Nat → Nat → Int32) → (Nat → Nat → Int64) → (Nat → Nat → Value) → Prop := fun (v : Int64) (gi2 : Nat → Nat → Int32) (gl2 : Nat → Nat → Int64) (gr2 : Nat → Nat → Value) => (¬ (0 ≤ ar1.toInt ∧ ar1.toInt ≤ 3) → (gi2 0 0).toInt = 1) ∧ (∀ A R : Nat, gr 1 ar1.toNatClampNeg = .ref A → gr A 0 = .ref R → (0 ≤ ar1.toInt ∧ ar1.toInt ≤ 3) → ((gi A 2).toInt = -1 → (gi2 0 0).toInt = 2) ∧ ((gi A 2).toInt ≠ -1 → ¬ (0 ≤ ar2.toInt ∧ ar2.toInt < (gi A 2).toInt) → (gi2 0 0).toInt = 3) ∧ ((0 ≤ ar2.toInt ∧ ar2.toInt < (gi A 2).toInt) → (gi2 0 0).toInt = 0))
theorem c_f_read {X : x_Ext} {d : Nat} {sh : List (Nat ⊕ (Nat × Nat))} {gi : Nat → Nat → Int32} {gl : Nat → Nat → Int64} {gr : Nat → Nat → Value} (hI : t_I sh gi gr) (ar1 : Int32) (ar2 : Int32) : x_Me X (d + 3) n_X11_read [.ref 0, .int ar1, .int ar2] (sh, gi, gl, gr) (t_PL wl_f_read sh gi gl gr (Q_f_read gi gl gr ar1 ar2)) := by
  have hX : t_X wl_f_read sh gi gl gr gi gl gr := t_X.rf
  refine me_i f_X11_read (hI.wf.s rfl) rfl rfl rfl ?_
  refine ev_loc f_X11_read (nx := 1) rfl rfl rfl rfl ?_
  refine ev_loc f_X11_read (nx := 2) rfl rfl rfl rfl ?_
  refine ev_loc f_X11_read (nx := 3) rfl rfl rfl rfl ?_
  refine ev_inV3 f_X11_read (nx := 6) (lo2 := [(0, .ref 0), (1, .int ar1), (2, .int ar2)]) rfl rfl rfl rfl f_X11_wrongPlace (hI.wf.s rfl) rfl rfl rfl rfl rfl ?_
  refine ev_loc f_X11_wrongPlace (nx := 1) rfl rfl rfl rfl ?_
  refine ev_loc f_X11_wrongPlace (nx := 2) rfl rfl rfl rfl ?_
  refine ev_inV2 f_X11_wrongPlace (nx := 5) (lo2 := [(0, .ref 0), (1, .int ar1)]) rfl rfl rfl rfl f_X11_isTray (hI.wf.s rfl) rfl rfl rfl rfl rfl ?_
  refine ev_loc f_X11_isTray (nx := 1) rfl rfl rfl rfl ?_
  refine ev_if f_X11_isTray (t1 := 26) (t2 := 4) rfl rfl rfl (fun h2 => ?_) (fun h2 => ?_)
  · have u3 : ar1.toInt ≤ (-1) := t_ltu h2 (by decide : (0:Int32).toInt ≤ (0:Int)) rfl
    refine ev_ic f_X11_isTray (nx := 27) (v := 0) rfl (by decide) rfl ?_
    refine ev_retK1 f_X11_isTray rfl rfl rfl ?_
    refine ev_t f_X11_wrongPlace (t1 := 8) (t2 := 10) rfl rfl rfl (by decide) ?_
    refine ev_ic f_X11_wrongPlace (nx := 9) (v := 1) rfl (by decide) rfl ?_
    refine ev_retK1 f_X11_wrongPlace rfl rfl rfl ?_
    refine ev_loc f_X11_read (nx := 7) (lo' := [(3, .int 1), (0, .ref 0), (1, .int ar1), (2, .int ar2)]) rfl rfl rfl rfl ?_
    refine ev_loc f_X11_read (nx := 8) rfl rfl rfl rfl ?_
    refine ev_f f_X11_read (t1 := 18) (t2 := 11) rfl rfl rfl (by decide) ?_
    refine ev_loc f_X11_read (nx := 12) rfl rfl rfl rfl ?_
    refine ev_loc f_X11_read (nx := 13) rfl rfl rfl rfl ?_
    refine ev_inV2 f_X11_read (nx := 16) (lo2 := [(0, .ref 0), (1, .int 1)]) rfl rfl rfl rfl f_X11_refuse (hI.wf.s rfl) rfl rfl rfl rfl rfl ?_
    refine ev_loc f_X11_refuse (nx := 1) rfl rfl rfl rfl ?_
    refine ev_loc f_X11_refuse (nx := 2) rfl rfl rfl rfl ?_
    refine ev_putIT f_X11_refuse (nx := 5) rfl (hI.wf.s rfl) rfl rfl rfl (hI.put0 (hI.wf.s rfl) rfl rfl) (hX.upI rfl) (fun g4 e4 hI hX => ?_)
    refine ev_ic f_X11_refuse (nx := 6) (v := -1) rfl (by decide) rfl ?_
    refine ev_retK1 f_X11_refuse rfl rfl rfl ?_
    refine ev_aluvL f_X11_read (nx := 17) (w := -1) rfl rfl rfl (by decide) rfl ?_
    exact ev_ret f_X11_read rfl rfl rfl ⟨_, _, _, rfl, hI, hX, ⟨_, rfl, (show (¬ (0 ≤ ar1.toInt ∧ ar1.toInt ≤ 3) → (g4 0 0).toInt = 1) ∧ (∀ A R : Nat, gr 1 ar1.toNatClampNeg = .ref A → gr A 0 = .ref R → (0 ≤ ar1.toInt ∧ ar1.toInt ≤ 3) → ((gi A 2).toInt = -1 → (g4 0 0).toInt = 2) ∧ ((gi A 2).toInt ≠ -1 → ¬ (0 ≤ ar2.toInt ∧ ar2.toInt < (gi A 2).toInt) → (g4 0 0).toInt = 3) ∧ ((0 ≤ ar2.toInt ∧ ar2.toInt < (gi A 2).toInt) → (g4 0 0).toInt = 0)) from (by have ffs : (g4 0 0).toInt = 1 := (congrArg Int32.toInt (by rw [e4]; exact x_up2_at _ _ _ _ : g4 0 0 = 1)).trans (by decide); refine ⟨fun h3 => by omega, fun A R hA hR hi1 => ?_⟩; refine ⟨fun h4 => ?_, fun h4 h5 => ?_, fun h4 => ?_⟩ <;> omega))⟩⟩
  · have l5 : 0 ≤ ar1.toInt := t_lel (t_nlt h2) (by decide : (0:Int) ≤ (0:Int32).toInt)
    refine ev_loc f_X11_isTray (nx := 5) rfl rfl rfl rfl ?_
    refine ev_loc f_X11_isTray (nx := 6) rfl rfl rfl rfl ?_
    refine ev_getR f_X11_isTray (nx := 9) rfl (hI.wf.s rfl) rfl rfl (hI.wf.r rfl) rfl rfl ?_
    refine ev_alenv f_X11_isTray (nx := 10) (w := 4) rfl (hI.wf.s rfl) rfl (by decide) rfl ?_
    refine ev_if f_X11_isTray (t1 := 26) (t2 := 13) rfl rfl rfl (fun h6 => ?_) (fun h6 => ?_)
    · have l7 : 4 ≤ ar1.toInt := t_lel h6 (by decide : (4:Int) ≤ (4:Int32).toInt)
      refine ev_ic f_X11_isTray (nx := 27) (v := 0) rfl (by decide) rfl ?_
      refine ev_retK1 f_X11_isTray rfl rfl rfl ?_
      refine ev_t f_X11_wrongPlace (t1 := 8) (t2 := 10) rfl rfl rfl (by decide) ?_
      refine ev_ic f_X11_wrongPlace (nx := 9) (v := 1) rfl (by decide) rfl ?_
      refine ev_retK1 f_X11_wrongPlace rfl rfl rfl ?_
      refine ev_loc f_X11_read (nx := 7) (lo' := [(3, .int 1), (0, .ref 0), (1, .int ar1), (2, .int ar2)]) rfl rfl rfl rfl ?_
      refine ev_loc f_X11_read (nx := 8) rfl rfl rfl rfl ?_
      refine ev_f f_X11_read (t1 := 18) (t2 := 11) rfl rfl rfl (by decide) ?_
      refine ev_loc f_X11_read (nx := 12) rfl rfl rfl rfl ?_
      refine ev_loc f_X11_read (nx := 13) rfl rfl rfl rfl ?_
      refine ev_inV2 f_X11_read (nx := 16) (lo2 := [(0, .ref 0), (1, .int 1)]) rfl rfl rfl rfl f_X11_refuse (hI.wf.s rfl) rfl rfl rfl rfl rfl ?_
      refine ev_loc f_X11_refuse (nx := 1) rfl rfl rfl rfl ?_
      refine ev_loc f_X11_refuse (nx := 2) rfl rfl rfl rfl ?_
      refine ev_putIT f_X11_refuse (nx := 5) rfl (hI.wf.s rfl) rfl rfl rfl (hI.put0 (hI.wf.s rfl) rfl rfl) (hX.upI rfl) (fun g8 e8 hI hX => ?_)
      refine ev_ic f_X11_refuse (nx := 6) (v := -1) rfl (by decide) rfl ?_
      refine ev_retK1 f_X11_refuse rfl rfl rfl ?_
      refine ev_aluvL f_X11_read (nx := 17) (w := -1) rfl rfl rfl (by decide) rfl ?_
      exact ev_ret f_X11_read rfl rfl rfl ⟨_, _, _, rfl, hI, hX, ⟨_, rfl, (show (¬ (0 ≤ ar1.toInt ∧ ar1.toInt ≤ 3) → (g8 0 0).toInt = 1) ∧ (∀ A R : Nat, gr 1 ar1.toNatClampNeg = .ref A → gr A 0 = .ref R → (0 ≤ ar1.toInt ∧ ar1.toInt ≤ 3) → ((gi A 2).toInt = -1 → (g8 0 0).toInt = 2) ∧ ((gi A 2).toInt ≠ -1 → ¬ (0 ≤ ar2.toInt ∧ ar2.toInt < (gi A 2).toInt) → (g8 0 0).toInt = 3) ∧ ((0 ≤ ar2.toInt ∧ ar2.toInt < (gi A 2).toInt) → (g8 0 0).toInt = 0)) from (by have ffs : (g8 0 0).toInt = 1 := (congrArg Int32.toInt (by rw [e8]; exact x_up2_at _ _ _ _ : g8 0 0 = 1)).trans (by decide); refine ⟨fun h3 => by omega, fun A R hA hR hi1 => ?_⟩; refine ⟨fun h4 => ?_, fun h4 h5 => ?_, fun h4 => ?_⟩ <;> omega))⟩⟩
    · have u9 : ar1.toInt ≤ 3 := t_ltu (t_nle h6) (by decide : (4:Int32).toInt ≤ (4:Int)) rfl
      refine ev_loc f_X11_isTray (nx := 14) rfl rfl rfl rfl ?_
      refine ev_getR f_X11_isTray (nx := 17) rfl (hI.wf.s rfl) rfl rfl (hI.wf.r rfl) rfl rfl ?_
      refine ev_loc f_X11_isTray (nx := 18) rfl rfl rfl rfl ?_
      obtain ⟨a10, e10, p10⟩ := t_tray hI.wf l5 (by decide) u9 (by decide)
      refine ev_aald f_X11_isTray (nx := 19) rfl (hI.wf.s rfl) rfl (t_idx (n := 4) l5 (by decide) u9 (by decide)).1 (t_idx (n := 4) l5 (by decide) u9 (by decide)).2 e10 rfl rfl ?_
      refine ev_jmp f_X11_isTray (nx := 22) rfl rfl rfl ?_
      refine ev_ic f_X11_isTray (nx := 23) (v := 1) rfl (by decide) rfl ?_
      refine ev_jmp f_X11_isTray (nx := 27) rfl rfl rfl ?_
      refine ev_retK1 f_X11_isTray rfl rfl rfl ?_
      refine ev_f f_X11_wrongPlace (t1 := 8) (t2 := 10) rfl rfl rfl (by decide) ?_
      refine ev_loc f_X11_wrongPlace (nx := 11) rfl rfl rfl rfl ?_
      refine ev_getR f_X11_wrongPlace (nx := 14) rfl (hI.wf.s rfl) rfl rfl (hI.wf.r rfl) rfl rfl ?_
      refine ev_loc f_X11_wrongPlace (nx := 15) rfl rfl rfl rfl ?_
      obtain ⟨a11, e11, p11⟩ := t_tray hI.wf l5 (by decide) u9 (by decide)
      refine ev_aald f_X11_wrongPlace (nx := 16) rfl (hI.wf.s rfl) rfl (t_idx (n := 4) l5 (by decide) u9 (by decide)).1 (t_idx (n := 4) l5 (by decide) u9 (by decide)).2 e11 rfl rfl ?_
      refine ev_inV1 f_X11_wrongPlace (nx := 19) (lo2 := [(0, .ref a11)]) rfl rfl rfl rfl f_X10_isMissing p11.1 rfl rfl rfl rfl rfl ?_
      refine ev_loc f_X10_isMissing (nx := 1) rfl rfl rfl rfl ?_
      refine ev_getI f_X10_isMissing (nx := 4) rfl p11.1 rfl rfl rfl ?_
      obtain ⟨l12, u12⟩ := hI.b p11.1 (t_bdK rfl : t_bd 9 2 = some ((-1), 60))
      refine ev_ic f_X10_isMissing (nx := 5) (v := -1) rfl (by decide) rfl ?_
      refine ev_if f_X10_isMissing (t1 := 8) (t2 := 12) rfl rfl rfl (fun h13 => ?_) (fun h13 => ?_)
      · have u14 : (gi a11 2).toInt ≤ (-1) := t_equ h13 (by decide : ((-1):Int32).toInt ≤ ((-1):Int))
        refine ev_ic f_X10_isMissing (nx := 9) (v := 1) rfl (by decide) rfl ?_
        refine ev_jmp f_X10_isMissing (nx := 13) rfl rfl rfl ?_
        refine ev_retK1 f_X10_isMissing rfl rfl rfl ?_
        refine ev_f f_X11_wrongPlace (t1 := 24) (t2 := 22) rfl rfl rfl (by decide) ?_
        refine ev_ic f_X11_wrongPlace (nx := 23) (v := 2) rfl (by decide) rfl ?_
        refine ev_retK1 f_X11_wrongPlace rfl rfl rfl ?_
        refine ev_loc f_X11_read (nx := 7) (lo' := [(3, .int 2), (0, .ref 0), (1, .int ar1), (2, .int ar2)]) rfl rfl rfl rfl ?_
        refine ev_loc f_X11_read (nx := 8) rfl rfl rfl rfl ?_
        refine ev_f f_X11_read (t1 := 18) (t2 := 11) rfl rfl rfl (by decide) ?_
        refine ev_loc f_X11_read (nx := 12) rfl rfl rfl rfl ?_
        refine ev_loc f_X11_read (nx := 13) rfl rfl rfl rfl ?_
        refine ev_inV2 f_X11_read (nx := 16) (lo2 := [(0, .ref 0), (1, .int 2)]) rfl rfl rfl rfl f_X11_refuse (hI.wf.s rfl) rfl rfl rfl rfl rfl ?_
        refine ev_loc f_X11_refuse (nx := 1) rfl rfl rfl rfl ?_
        refine ev_loc f_X11_refuse (nx := 2) rfl rfl rfl rfl ?_
        refine ev_putIT f_X11_refuse (nx := 5) rfl (hI.wf.s rfl) rfl rfl rfl (hI.put0 (hI.wf.s rfl) rfl rfl) (hX.upI rfl) (fun g15 e15 hI hX => ?_)
        refine ev_ic f_X11_refuse (nx := 6) (v := -1) rfl (by decide) rfl ?_
        refine ev_retK1 f_X11_refuse rfl rfl rfl ?_
        refine ev_aluvL f_X11_read (nx := 17) (w := -1) rfl rfl rfl (by decide) rfl ?_
        exact ev_ret f_X11_read rfl rfl rfl ⟨_, _, _, rfl, hI, hX, ⟨_, rfl, (show (¬ (0 ≤ ar1.toInt ∧ ar1.toInt ≤ 3) → (g15 0 0).toInt = 1) ∧ (∀ A R : Nat, gr 1 ar1.toNatClampNeg = .ref A → gr A 0 = .ref R → (0 ≤ ar1.toInt ∧ ar1.toInt ≤ 3) → ((gi A 2).toInt = -1 → (g15 0 0).toInt = 2) ∧ ((gi A 2).toInt ≠ -1 → ¬ (0 ≤ ar2.toInt ∧ ar2.toInt < (gi A 2).toInt) → (g15 0 0).toInt = 3) ∧ ((0 ≤ ar2.toInt ∧ ar2.toInt < (gi A 2).toInt) → (g15 0 0).toInt = 0)) from (by have ffs : (g15 0 0).toInt = 2 := (congrArg Int32.toInt (by rw [e15]; exact x_up2_at _ _ _ _ : g15 0 0 = 2)).trans (by decide); refine ⟨fun h3 => by omega, fun A R hA hR hi1 => ?_⟩; rw [e11] at hA; cases hA; have hh := e10.symm.trans e11; cases hh; refine ⟨fun h4 => ?_, fun h4 h5 => ?_, fun h4 => ?_⟩ <;> omega))⟩⟩
      · have r16 : (gi a11 2).toInt ≠ (-1) := fun e => h13 (Int32.toInt_inj.mp (e.trans (by decide : ((-1):Int) = ((-1) : Int32).toInt)))
        have l17 : 0 ≤ (gi a11 2).toInt := t_nel h13 l12 rfl rfl
        refine ev_ic f_X10_isMissing (nx := 13) (v := 0) rfl (by decide) rfl ?_
        refine ev_retK1 f_X10_isMissing rfl rfl rfl ?_
        refine ev_t f_X11_wrongPlace (t1 := 24) (t2 := 22) rfl rfl rfl (by decide) ?_
        refine ev_loc f_X11_wrongPlace (nx := 25) rfl rfl rfl rfl ?_
        refine ev_if f_X11_wrongPlace (t1 := 46) (t2 := 28) rfl rfl rfl (fun h18 => ?_) (fun h18 => ?_)
        · have u19 : ar2.toInt ≤ (-1) := t_ltu h18 (by decide : (0:Int32).toInt ≤ (0:Int)) rfl
          refine ev_ic f_X11_wrongPlace (nx := 47) (v := 3) rfl (by decide) rfl ?_
          refine ev_retK1 f_X11_wrongPlace rfl rfl rfl ?_
          refine ev_loc f_X11_read (nx := 7) (lo' := [(3, .int 3), (0, .ref 0), (1, .int ar1), (2, .int ar2)]) rfl rfl rfl rfl ?_
          refine ev_loc f_X11_read (nx := 8) rfl rfl rfl rfl ?_
          refine ev_f f_X11_read (t1 := 18) (t2 := 11) rfl rfl rfl (by decide) ?_
          refine ev_loc f_X11_read (nx := 12) rfl rfl rfl rfl ?_
          refine ev_loc f_X11_read (nx := 13) rfl rfl rfl rfl ?_
          refine ev_inV2 f_X11_read (nx := 16) (lo2 := [(0, .ref 0), (1, .int 3)]) rfl rfl rfl rfl f_X11_refuse (hI.wf.s rfl) rfl rfl rfl rfl rfl ?_
          refine ev_loc f_X11_refuse (nx := 1) rfl rfl rfl rfl ?_
          refine ev_loc f_X11_refuse (nx := 2) rfl rfl rfl rfl ?_
          refine ev_putIT f_X11_refuse (nx := 5) rfl (hI.wf.s rfl) rfl rfl rfl (hI.put0 (hI.wf.s rfl) rfl rfl) (hX.upI rfl) (fun g20 e20 hI hX => ?_)
          refine ev_ic f_X11_refuse (nx := 6) (v := -1) rfl (by decide) rfl ?_
          refine ev_retK1 f_X11_refuse rfl rfl rfl ?_
          refine ev_aluvL f_X11_read (nx := 17) (w := -1) rfl rfl rfl (by decide) rfl ?_
          exact ev_ret f_X11_read rfl rfl rfl ⟨_, _, _, rfl, hI, hX, ⟨_, rfl, (show (¬ (0 ≤ ar1.toInt ∧ ar1.toInt ≤ 3) → (g20 0 0).toInt = 1) ∧ (∀ A R : Nat, gr 1 ar1.toNatClampNeg = .ref A → gr A 0 = .ref R → (0 ≤ ar1.toInt ∧ ar1.toInt ≤ 3) → ((gi A 2).toInt = -1 → (g20 0 0).toInt = 2) ∧ ((gi A 2).toInt ≠ -1 → ¬ (0 ≤ ar2.toInt ∧ ar2.toInt < (gi A 2).toInt) → (g20 0 0).toInt = 3) ∧ ((0 ≤ ar2.toInt ∧ ar2.toInt < (gi A 2).toInt) → (g20 0 0).toInt = 0)) from (by have ffs : (g20 0 0).toInt = 3 := (congrArg Int32.toInt (by rw [e20]; exact x_up2_at _ _ _ _ : g20 0 0 = 3)).trans (by decide); refine ⟨fun h3 => by omega, fun A R hA hR hi1 => ?_⟩; rw [e11] at hA; cases hA; have hh := e10.symm.trans e11; cases hh; refine ⟨fun h4 => ?_, fun h4 h5 => ?_, fun h4 => ?_⟩ <;> omega))⟩⟩
        · have l21 : 0 ≤ ar2.toInt := t_lel (t_nlt h18) (by decide : (0:Int) ≤ (0:Int32).toInt)
          refine ev_loc f_X11_wrongPlace (nx := 29) rfl rfl rfl rfl ?_
          refine ev_getR f_X11_wrongPlace (nx := 32) rfl (hI.wf.s rfl) rfl rfl (hI.wf.r rfl) rfl rfl ?_
          refine ev_loc f_X11_wrongPlace (nx := 33) rfl rfl rfl rfl ?_
          obtain ⟨a22, e22, p22⟩ := t_tray hI.wf l5 (by decide) u9 (by decide)
          refine ev_aald f_X11_wrongPlace (nx := 34) rfl (hI.wf.s rfl) rfl (t_idx (n := 4) l5 (by decide) u9 (by decide)).1 (t_idx (n := 4) l5 (by decide) u9 (by decide)).2 e22 rfl rfl ?_
          refine ev_loc f_X11_wrongPlace (nx := 35) rfl rfl rfl rfl ?_
          refine ev_ic f_X11_wrongPlace (nx := 36) (v := 1) rfl (by decide) rfl ?_
          refine ev_inV3 f_X11_wrongPlace (nx := 39) (lo2 := [(0, .ref a22), (1, .int ar2), (2, .int 1)]) rfl rfl rfl rfl f_X10_hasStretch p22.1 rfl rfl rfl rfl rfl ?_
          refine ev_loc f_X10_hasStretch (nx := 1) rfl rfl rfl rfl ?_
          refine ev_loc f_X10_hasStretch (nx := 2) rfl rfl rfl rfl ?_
          refine ev_getI f_X10_hasStretch (nx := 5) rfl p22.1 rfl rfl rfl ?_
          obtain ⟨l23, u23⟩ := hI.b p22.1 (t_bdK rfl : t_bd 9 2 = some ((-1), 60))
          refine ev_if f_X10_hasStretch (t1 := 22) (t2 := 8) rfl rfl rfl (fun h24 => ?_) (fun h24 => ?_)
          · have r25 : (gi a22 2).toInt < ar2.toInt := Int32.lt_iff_toInt_lt.mp h24
            refine ev_ic f_X10_hasStretch (nx := 23) (v := 0) rfl (by decide) rfl ?_
            refine ev_retK1 f_X10_hasStretch rfl rfl rfl ?_
            refine ev_t f_X11_wrongPlace (t1 := 46) (t2 := 42) rfl rfl rfl (by decide) ?_
            refine ev_ic f_X11_wrongPlace (nx := 47) (v := 3) rfl (by decide) rfl ?_
            refine ev_retK1 f_X11_wrongPlace rfl rfl rfl ?_
            refine ev_loc f_X11_read (nx := 7) (lo' := [(3, .int 3), (0, .ref 0), (1, .int ar1), (2, .int ar2)]) rfl rfl rfl rfl ?_
            refine ev_loc f_X11_read (nx := 8) rfl rfl rfl rfl ?_
            refine ev_f f_X11_read (t1 := 18) (t2 := 11) rfl rfl rfl (by decide) ?_
            refine ev_loc f_X11_read (nx := 12) rfl rfl rfl rfl ?_
            refine ev_loc f_X11_read (nx := 13) rfl rfl rfl rfl ?_
            refine ev_inV2 f_X11_read (nx := 16) (lo2 := [(0, .ref 0), (1, .int 3)]) rfl rfl rfl rfl f_X11_refuse (hI.wf.s rfl) rfl rfl rfl rfl rfl ?_
            refine ev_loc f_X11_refuse (nx := 1) rfl rfl rfl rfl ?_
            refine ev_loc f_X11_refuse (nx := 2) rfl rfl rfl rfl ?_
            refine ev_putIT f_X11_refuse (nx := 5) rfl (hI.wf.s rfl) rfl rfl rfl (hI.put0 (hI.wf.s rfl) rfl rfl) (hX.upI rfl) (fun g26 e26 hI hX => ?_)
            refine ev_ic f_X11_refuse (nx := 6) (v := -1) rfl (by decide) rfl ?_
            refine ev_retK1 f_X11_refuse rfl rfl rfl ?_
            refine ev_aluvL f_X11_read (nx := 17) (w := -1) rfl rfl rfl (by decide) rfl ?_
            exact ev_ret f_X11_read rfl rfl rfl ⟨_, _, _, rfl, hI, hX, ⟨_, rfl, (show (¬ (0 ≤ ar1.toInt ∧ ar1.toInt ≤ 3) → (g26 0 0).toInt = 1) ∧ (∀ A R : Nat, gr 1 ar1.toNatClampNeg = .ref A → gr A 0 = .ref R → (0 ≤ ar1.toInt ∧ ar1.toInt ≤ 3) → ((gi A 2).toInt = -1 → (g26 0 0).toInt = 2) ∧ ((gi A 2).toInt ≠ -1 → ¬ (0 ≤ ar2.toInt ∧ ar2.toInt < (gi A 2).toInt) → (g26 0 0).toInt = 3) ∧ ((0 ≤ ar2.toInt ∧ ar2.toInt < (gi A 2).toInt) → (g26 0 0).toInt = 0)) from (by have ffs : (g26 0 0).toInt = 3 := (congrArg Int32.toInt (by rw [e26]; exact x_up2_at _ _ _ _ : g26 0 0 = 3)).trans (by decide); refine ⟨fun h3 => by omega, fun A R hA hR hi1 => ?_⟩; rw [e22] at hA; cases hA; have hh := e10.symm.trans e22; cases hh; have hh := e11.symm.trans e22; cases hh; refine ⟨fun h4 => ?_, fun h4 h5 => ?_, fun h4 => ?_⟩ <;> omega))⟩⟩
          · have r27 : ar2.toInt ≤ (gi a22 2).toInt := Int32.le_iff_toInt_le.mp (t_nlt h24)
            have u28 : ar2.toInt ≤ 60 := t_leu (t_nlt h24) u23
            have l29 : 0 ≤ (gi a22 2).toInt := t_lel (t_nlt h24) l21
            refine ev_loc f_X10_hasStretch (nx := 9) rfl rfl rfl rfl ?_
            refine ev_loc f_X10_hasStretch (nx := 10) rfl rfl rfl rfl ?_
            refine ev_gvI f_X10_hasStretch (nx := 13) (w := (gi a22 2)) rfl p22.1 rfl rfl rfl rfl ?_
            refine ev_loc f_X10_hasStretch (nx := 14) rfl rfl rfl rfl ?_
            refine ev_subR f_X10_hasStretch (nx := 15) (l := (-60)) (u := 60) rfl l29 u23 l21 u28 rfl rfl (by decide) (by decide) rfl (fun z30 e30 l30 u30 => ?_)
            refine ev_if f_X10_hasStretch (t1 := 22) (t2 := 18) rfl rfl rfl (fun h31 => ?_) (fun h31 => ?_)
            · have u32 : z30.toInt ≤ 0 := t_ltu h31 (by decide : (1:Int32).toInt ≤ (1:Int)) rfl
              refine ev_ic f_X10_hasStretch (nx := 23) (v := 0) rfl (by decide) rfl ?_
              refine ev_retK1 f_X10_hasStretch rfl rfl rfl ?_
              refine ev_t f_X11_wrongPlace (t1 := 46) (t2 := 42) rfl rfl rfl (by decide) ?_
              refine ev_ic f_X11_wrongPlace (nx := 47) (v := 3) rfl (by decide) rfl ?_
              refine ev_retK1 f_X11_wrongPlace rfl rfl rfl ?_
              refine ev_loc f_X11_read (nx := 7) (lo' := [(3, .int 3), (0, .ref 0), (1, .int ar1), (2, .int ar2)]) rfl rfl rfl rfl ?_
              refine ev_loc f_X11_read (nx := 8) rfl rfl rfl rfl ?_
              refine ev_f f_X11_read (t1 := 18) (t2 := 11) rfl rfl rfl (by decide) ?_
              refine ev_loc f_X11_read (nx := 12) rfl rfl rfl rfl ?_
              refine ev_loc f_X11_read (nx := 13) rfl rfl rfl rfl ?_
              refine ev_inV2 f_X11_read (nx := 16) (lo2 := [(0, .ref 0), (1, .int 3)]) rfl rfl rfl rfl f_X11_refuse (hI.wf.s rfl) rfl rfl rfl rfl rfl ?_
              refine ev_loc f_X11_refuse (nx := 1) rfl rfl rfl rfl ?_
              refine ev_loc f_X11_refuse (nx := 2) rfl rfl rfl rfl ?_
              refine ev_putIT f_X11_refuse (nx := 5) rfl (hI.wf.s rfl) rfl rfl rfl (hI.put0 (hI.wf.s rfl) rfl rfl) (hX.upI rfl) (fun g33 e33 hI hX => ?_)
              refine ev_ic f_X11_refuse (nx := 6) (v := -1) rfl (by decide) rfl ?_
              refine ev_retK1 f_X11_refuse rfl rfl rfl ?_
              refine ev_aluvL f_X11_read (nx := 17) (w := -1) rfl rfl rfl (by decide) rfl ?_
              exact ev_ret f_X11_read rfl rfl rfl ⟨_, _, _, rfl, hI, hX, ⟨_, rfl, (show (¬ (0 ≤ ar1.toInt ∧ ar1.toInt ≤ 3) → (g33 0 0).toInt = 1) ∧ (∀ A R : Nat, gr 1 ar1.toNatClampNeg = .ref A → gr A 0 = .ref R → (0 ≤ ar1.toInt ∧ ar1.toInt ≤ 3) → ((gi A 2).toInt = -1 → (g33 0 0).toInt = 2) ∧ ((gi A 2).toInt ≠ -1 → ¬ (0 ≤ ar2.toInt ∧ ar2.toInt < (gi A 2).toInt) → (g33 0 0).toInt = 3) ∧ ((0 ≤ ar2.toInt ∧ ar2.toInt < (gi A 2).toInt) → (g33 0 0).toInt = 0)) from (by have ffs : (g33 0 0).toInt = 3 := (congrArg Int32.toInt (by rw [e33]; exact x_up2_at _ _ _ _ : g33 0 0 = 3)).trans (by decide); refine ⟨fun h3 => by omega, fun A R hA hR hi1 => ?_⟩; rw [e22] at hA; cases hA; have hh := e10.symm.trans e22; cases hh; have hh := e11.symm.trans e22; cases hh; refine ⟨fun h4 => ?_, fun h4 h5 => ?_, fun h4 => ?_⟩ <;> omega))⟩⟩
            · have l34 : 1 ≤ z30.toInt := t_lel (t_nlt h31) (by decide : (1:Int) ≤ (1:Int32).toInt)
              have u35 : ar2.toInt ≤ 59 := by have := u23; omega
              refine ev_ic f_X10_hasStretch (nx := 19) (v := 1) rfl (by decide) rfl ?_
              refine ev_jmp f_X10_hasStretch (nx := 23) rfl rfl rfl ?_
              refine ev_retK1 f_X10_hasStretch rfl rfl rfl ?_
              refine ev_f f_X11_wrongPlace (t1 := 46) (t2 := 42) rfl rfl rfl (by decide) ?_
              refine ev_ic f_X11_wrongPlace (nx := 43) (v := 0) rfl (by decide) rfl ?_
              refine ev_jmp f_X11_wrongPlace (nx := 47) rfl rfl rfl ?_
              refine ev_retK1 f_X11_wrongPlace rfl rfl rfl ?_
              refine ev_loc f_X11_read (nx := 7) (lo' := [(3, .int 0), (0, .ref 0), (1, .int ar1), (2, .int ar2)]) rfl rfl rfl rfl ?_
              refine ev_loc f_X11_read (nx := 8) rfl rfl rfl rfl ?_
              refine ev_t f_X11_read (t1 := 18) (t2 := 11) rfl rfl rfl (by decide) ?_
              refine ev_loc f_X11_read (nx := 19) rfl rfl rfl rfl ?_
              refine ev_loc f_X11_read (nx := 20) rfl rfl rfl rfl ?_
              refine ev_getR f_X11_read (nx := 23) rfl (hI.wf.s rfl) rfl rfl (hI.wf.r rfl) rfl rfl ?_
              refine ev_loc f_X11_read (nx := 24) rfl rfl rfl rfl ?_
              obtain ⟨a36, e36, p36⟩ := t_tray hI.wf l5 (by decide) u9 (by decide)
              refine ev_aald f_X11_read (nx := 25) rfl (hI.wf.s rfl) rfl (t_idx (n := 4) l5 (by decide) u9 (by decide)).1 (t_idx (n := 4) l5 (by decide) u9 (by decide)).2 e36 rfl rfl ?_
              have e37 := p36.2.1.1
              have s37 := p36.2.1.2
              refine ev_getR f_X11_read (nx := 28) rfl p36.1 rfl rfl e37 rfl rfl ?_
              refine ev_loc f_X11_read (nx := 29) rfl rfl rfl rfl ?_
              refine ev_laldT f_X11_read (nx := 30) rfl s37 l21 (by decide) u35 (by decide) rfl (fun w38 e38 => ?_)
              refine ev_inV2 f_X11_read (nx := 33) (lo2 := [(0, .ref 0), (1, .long w38)]) rfl rfl rfl rfl f_X11_answerLong (hI.wf.s rfl) rfl rfl rfl rfl rfl ?_
              refine ev_loc f_X11_answerLong (nx := 1) rfl rfl rfl rfl ?_
              refine ev_ic f_X11_answerLong (nx := 2) (v := 0) rfl (by decide) rfl ?_
              refine ev_putIT f_X11_answerLong (nx := 5) rfl (hI.wf.s rfl) rfl rfl rfl (hI.put0 (hI.wf.s rfl) rfl rfl) (hX.upI rfl) (fun g39 e39 hI hX => ?_)
              refine ev_loc f_X11_answerLong (nx := 6) rfl rfl rfl rfl ?_
              refine ev_retK1 f_X11_answerLong rfl rfl rfl ?_
              exact ev_ret f_X11_read rfl rfl rfl ⟨_, _, _, rfl, hI, hX, ⟨_, rfl, (show (¬ (0 ≤ ar1.toInt ∧ ar1.toInt ≤ 3) → (g39 0 0).toInt = 1) ∧ (∀ A R : Nat, gr 1 ar1.toNatClampNeg = .ref A → gr A 0 = .ref R → (0 ≤ ar1.toInt ∧ ar1.toInt ≤ 3) → ((gi A 2).toInt = -1 → (g39 0 0).toInt = 2) ∧ ((gi A 2).toInt ≠ -1 → ¬ (0 ≤ ar2.toInt ∧ ar2.toInt < (gi A 2).toInt) → (g39 0 0).toInt = 3) ∧ ((0 ≤ ar2.toInt ∧ ar2.toInt < (gi A 2).toInt) → (g39 0 0).toInt = 0)) from (by have ffs : (g39 0 0).toInt = 0 := (congrArg Int32.toInt (by rw [e39]; exact x_up2_at _ _ _ _ : g39 0 0 = 0)).trans (by decide); refine ⟨fun h3 => by omega, fun A R hA hR hi1 => ?_⟩; rw [e36] at hA; cases hA; have hh := e10.symm.trans e36; cases hh; have hh := e11.symm.trans e36; cases hh; have hh := e22.symm.trans e36; cases hh; have hrrR := (e37).symm.trans hR; cases hrrR; refine ⟨fun h4 => ?_, fun h4 h5 => ?_, fun h4 => ?_⟩ <;> omega))⟩⟩
