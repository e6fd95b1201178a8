/-! ===== printed by cls.py: typed contracts of the class ===== -/
noncomputable def wl_strikeIfDue : List (Nat × Nat) := [(45, 12), (58, 9999)]
theorem c_strikeIfDue {X : x_Ext} {d : Nat} {sh : List (Nat ⊕ (Nat × Nat))} {gi : Nat → Nat → Int32} {gl : Nat → Nat → Int64} {gr : Nat → Nat → Value} (hI : t_I sh gi gr) (ar1 : Int32) : x_Me X (d + 1) n_X2_strikeIfDue [.ref 45, .int ar1] (sh, gi, gl, gr) (t_P wl_strikeIfDue sh gi gl gr t_Rn) := by
  have hX : t_X wl_strikeIfDue sh gi gl gr gi gl gr := t_X.rf
  refine me_i f_X2_strikeIfDue (hI.wf.s rfl) rfl rfl rfl ?_
  refine ev_loc f_X2_strikeIfDue (nx := 1) rfl rfl rfl rfl ?_
  refine ev_if f_X2_strikeIfDue (t1 := 69) (t2 := 4) rfl rfl rfl (fun h1 => ?_) (fun h1 => ?_)
  · have u2 : ar1.toInt ≤ (-1) := t_ltu h1 (by decide : (0:Int32).toInt ≤ (0:Int)) rfl
    exact ev_ret f_X2_strikeIfDue rfl rfl rfl ⟨_, _, _, rfl, hI, hX, rfl⟩
  · have l3 : 0 ≤ ar1.toInt := t_lel (t_nlt h1) (by decide : (0:Int) ≤ (0:Int32).toInt)
    refine ev_loc f_X2_strikeIfDue (nx := 5) rfl rfl rfl rfl ?_
    refine ev_loc f_X2_strikeIfDue (nx := 6) rfl rfl rfl rfl ?_
    refine ev_getR f_X2_strikeIfDue (nx := 9) rfl (hI.wf.s rfl) rfl rfl (hI.wf.r rfl) rfl rfl ?_
    refine ev_getI f_X2_strikeIfDue (nx := 12) rfl (hI.wf.s rfl) rfl rfl rfl ?_
    obtain ⟨l4, u4⟩ := hI.b (hI.wf.s (k := 46) rfl) (t_bdK rfl : t_bd 3 0 = some (0, 6))
    refine ev_if f_X2_strikeIfDue (t1 := 69) (t2 := 15) rfl rfl rfl (fun h5 => ?_) (fun h5 => ?_)
    · exact ev_ret f_X2_strikeIfDue rfl rfl rfl ⟨_, _, _, rfl, hI, hX, rfl⟩
    · have u6 : ar1.toInt ≤ 5 := t_ltu (t_nle h5) u4 rfl
      have l7 : 1 ≤ (gi 46 0).toInt := t_ltl (t_nle h5) l3 rfl
      refine ev_loc f_X2_strikeIfDue (nx := 16) rfl rfl rfl rfl ?_
      refine ev_getR f_X2_strikeIfDue (nx := 19) rfl (hI.wf.s rfl) rfl rfl (hI.wf.r rfl) rfl rfl ?_
      refine ev_getR f_X2_strikeIfDue (nx := 22) rfl (hI.wf.s rfl) rfl rfl (hI.wf.r rfl) rfl rfl ?_
      refine ev_loc f_X2_strikeIfDue (nx := 23) rfl rfl rfl rfl ?_
      refine ev_baldT f_X2_strikeIfDue (nx := 24) rfl (hI.wf.s rfl) rfl l3 (by decide) u6 (by decide) rfl (fun w8 e8 => ?_)
      refine ev_if f_X2_strikeIfDue (t1 := 69) (t2 := 27) rfl rfl rfl (fun h9 => ?_) (fun h9 => ?_)
      · have u10 : w8.toInt ≤ 0 := t_equ h9 (by decide : (0:Int32).toInt ≤ (0:Int))
        have l11 : 0 ≤ w8.toInt := t_eql h9 (by decide : (0:Int) ≤ (0:Int32).toInt)
        exact ev_ret f_X2_strikeIfDue rfl rfl rfl ⟨_, _, _, rfl, hI, hX, rfl⟩
      · refine ev_loc f_X2_strikeIfDue (nx := 28) rfl rfl rfl rfl ?_
        refine ev_getR f_X2_strikeIfDue (nx := 31) rfl (hI.wf.s rfl) rfl rfl (hI.wf.r rfl) rfl rfl ?_
        refine ev_getR f_X2_strikeIfDue (nx := 34) rfl (hI.wf.s rfl) rfl rfl (hI.wf.r rfl) rfl rfl ?_
        refine ev_loc f_X2_strikeIfDue (nx := 35) rfl rfl rfl rfl ?_
        refine ev_ialdT f_X2_strikeIfDue (nx := 36) rfl (hI.wf.s rfl) l3 (by decide) u6 (by decide) rfl (fun w12 e12 => ?_)
        refine ev_loc f_X2_strikeIfDue (nx := 37) rfl rfl rfl rfl ?_
        refine ev_getI f_X2_strikeIfDue (nx := 40) rfl (hI.wf.s rfl) rfl rfl rfl ?_
        obtain ⟨l13, u13⟩ := hI.b (hI.wf.s (k := 45) rfl) (t_bdK rfl : t_bd 2 5 = some (0, 301))
        refine ev_if f_X2_strikeIfDue (t1 := 43) (t2 := 69) rfl rfl rfl (fun h14 => ?_) (fun h14 => ?_)
        · have u15 : w12.toInt ≤ 301 := t_equ h14 u13
          have l16 : 0 ≤ w12.toInt := t_eql h14 l13
          refine ev_loc f_X2_strikeIfDue (nx := 44) rfl rfl rfl rfl ?_
          refine ev_getR f_X2_strikeIfDue (nx := 47) rfl (hI.wf.s rfl) rfl rfl (hI.wf.r rfl) rfl rfl ?_
          refine ev_loc f_X2_strikeIfDue (nx := 48) rfl rfl rfl rfl ?_
          refine ev_ialdT f_X2_strikeIfDue (nx := 49) rfl (hI.wf.s rfl) l3 (by decide) u6 (by decide) rfl (fun w17 e17 => ?_)
          refine ev_if f_X2_strikeIfDue (t1 := 52) (t2 := 69) rfl rfl rfl (fun h18 => ?_) (fun h18 => ?_)
          · have u19 : w17.toInt ≤ 0 := t_equ h18 (by decide : (0:Int32).toInt ≤ (0:Int))
            have l20 : 0 ≤ w17.toInt := t_eql h18 (by decide : (0:Int) ≤ (0:Int32).toInt)
            refine ev_loc f_X2_strikeIfDue (nx := 53) rfl rfl rfl rfl ?_
            refine ev_getR f_X2_strikeIfDue (nx := 56) rfl (hI.wf.s rfl) rfl rfl (hI.wf.r rfl) rfl rfl ?_
            refine ev_loc f_X2_strikeIfDue (nx := 57) rfl rfl rfl rfl ?_
            refine ev_ic f_X2_strikeIfDue (nx := 58) (v := 2) rfl (by decide) rfl ?_
            refine ev_iastT f_X2_strikeIfDue (nx := 59) rfl (hI.wf.s rfl) l3 (by decide) u6 (by decide) rfl (hI.astO (hI.wf.s rfl) (Or.inl (by decide)) (by decide +kernel)) (hX.upI (t_inA_ok rfl)) (fun g21 e21 hI hX => ?_)
            refine ev_loc f_X2_strikeIfDue (nx := 60) rfl rfl rfl rfl ?_
            refine ev_alu f_X2_strikeIfDue (nx := 61) rfl rfl rfl rfl ?_
            refine ev_getI f_X2_strikeIfDue (nx := 64) rfl (hI.wf.s rfl) rfl rfl rfl ?_
            refine ev_ic f_X2_strikeIfDue (nx := 65) (v := 1) rfl (by decide) rfl ?_
            refine ev_anyI f_X2_strikeIfDue (nx := 66) rfl rfl rfl rfl (fun z22 => ?_)
            refine ev_putIT f_X2_strikeIfDue (nx := 69) rfl (hI.wf.s rfl) rfl rfl rfl (hI.put0 (hI.wf.s rfl) rfl rfl) (hX.upI rfl) (fun g23 e23 hI hX => ?_)
            exact ev_ret f_X2_strikeIfDue rfl rfl rfl ⟨_, _, _, rfl, hI, hX, rfl⟩
          · exact ev_ret f_X2_strikeIfDue rfl rfl rfl ⟨_, _, _, rfl, hI, hX, rfl⟩
        · exact ev_ret f_X2_strikeIfDue rfl rfl rfl ⟨_, _, _, rfl, hI, hX, rfl⟩
noncomputable def wl_endWhatIsOver : List (Nat × Nat) := [(45, 6), (45, 7), (45, 9), (45, 14)]
theorem c_endWhatIsOver {X : x_Ext} {d : Nat} {sh : List (Nat ⊕ (Nat × Nat))} {gi : Nat → Nat → Int32} {gl : Nat → Nat → Int64} {gr : Nat → Nat → Value} (hI : t_I sh gi gr) : x_Me X (d + 1) n_X2_endWhatIsOver [.ref 45] (sh, gi, gl, gr) (t_P wl_endWhatIsOver sh gi gl gr t_Rn) := by
  have hX : t_X wl_endWhatIsOver sh gi gl gr gi gl gr := t_X.rf
  refine me_i f_X2_endWhatIsOver (hI.wf.s rfl) rfl rfl rfl ?_
  refine ev_loc f_X2_endWhatIsOver (nx := 1) rfl rfl rfl rfl ?_
  refine ev_getI f_X2_endWhatIsOver (nx := 4) rfl (hI.wf.s rfl) rfl rfl rfl ?_
  refine ev_if f_X2_endWhatIsOver (t1 := 18) (t2 := 7) rfl rfl rfl (fun h1 => ?_) (fun h1 => ?_)
  · have u2 : (gi 45 7).toInt ≤ 0 := t_equ h1 (by decide : (0:Int32).toInt ≤ (0:Int))
    have l3 : 0 ≤ (gi 45 7).toInt := t_eql h1 (by decide : (0:Int) ≤ (0:Int32).toInt)
    exact ev_ret f_X2_endWhatIsOver rfl rfl rfl ⟨_, _, _, rfl, hI, hX, rfl⟩
  · refine ev_loc f_X2_endWhatIsOver (nx := 8) rfl rfl rfl rfl ?_
    refine ev_getI f_X2_endWhatIsOver (nx := 11) rfl (hI.wf.s rfl) rfl rfl rfl ?_
    refine ev_loc f_X2_endWhatIsOver (nx := 12) rfl rfl rfl rfl ?_
    refine ev_getI f_X2_endWhatIsOver (nx := 15) rfl (hI.wf.s rfl) rfl rfl rfl ?_
    obtain ⟨l4, u4⟩ := hI.b (hI.wf.s (k := 45) rfl) (t_bdK rfl : t_bd 2 5 = some (0, 301))
    refine ev_if f_X2_endWhatIsOver (t1 := 19) (t2 := 18) rfl rfl rfl (fun h5 => ?_) (fun h5 => ?_)
    · have u6 : (gi 45 8).toInt ≤ 301 := t_leu h5 u4
      refine ev_loc f_X2_endWhatIsOver (nx := 20) rfl rfl rfl rfl ?_
      refine ev_gvI f_X2_endWhatIsOver (nx := 23) (w := (gi 45 7)) rfl (hI.wf.s rfl) rfl rfl rfl rfl ?_
      refine ev_ic f_X2_endWhatIsOver (nx := 24) (v := 3) rfl (by decide) rfl ?_
      refine ev_if f_X2_endWhatIsOver (t1 := 27) (t2 := 54) rfl rfl rfl (fun h7 => ?_) (fun h7 => ?_)
      · have u8 : (gi 45 7).toInt ≤ 3 := t_equ h7 (by decide : (3:Int32).toInt ≤ (3:Int))
        have l9 : 3 ≤ (gi 45 7).toInt := t_eql h7 (by decide : (3:Int) ≤ (3:Int32).toInt)
        refine ev_loc f_X2_endWhatIsOver (nx := 28) rfl rfl rfl rfl ?_
        refine ev_loc f_X2_endWhatIsOver (nx := 29) rfl rfl rfl rfl ?_
        refine ev_getI f_X2_endWhatIsOver (nx := 32) rfl (hI.wf.s rfl) rfl rfl rfl ?_
        refine ev_if f_X2_endWhatIsOver (t1 := 35) (t2 := 39) rfl rfl rfl (fun h10 => ?_) (fun h10 => ?_)
        · have u11 : (gi 45 6).toInt ≤ 0 := t_equ h10 (by decide : (0:Int32).toInt ≤ (0:Int))
          have l12 : 0 ≤ (gi 45 6).toInt := t_eql h10 (by decide : (0:Int) ≤ (0:Int32).toInt)
          refine ev_ic f_X2_endWhatIsOver (nx := 36) (v := 1) rfl (by decide) rfl ?_
          refine ev_jmp f_X2_endWhatIsOver (nx := 40) rfl rfl rfl ?_
          refine ev_putZT f_X2_endWhatIsOver (nx := 43) rfl (hI.wf.s rfl) rfl rfl (Int.le_trans (by decide : (0:Int) ≤ 1) (by decide : (1:Int) ≤ (1:Int32).toInt)) (by decide : (1:Int32).toInt ≤ (1:Int)) rfl (hI.put0 (hI.wf.s rfl) rfl rfl) (hX.upI rfl) (fun g13 e13 hI hX => ?_)
          refine ev_loc f_X2_endWhatIsOver (nx := 44) rfl rfl rfl rfl ?_
          refine ev_loc f_X2_endWhatIsOver (nx := 45) rfl rfl rfl rfl ?_
          refine ev_gvI f_X2_endWhatIsOver (nx := 48) (w := (gi 45 8)) rfl (hI.wf.s rfl) rfl rfl ((by rw [e13]; exact x_up2_off (Or.inr (by decide)) : g13 45 8 = gi 45 8).trans rfl) rfl ?_
          refine ev_putIT f_X2_endWhatIsOver (nx := 51) rfl (hI.wf.s rfl) rfl rfl rfl (hI.put0 (hI.wf.s rfl) rfl rfl) (hX.upI rfl) (fun g14 e14 hI hX => ?_)
          refine ev_jmp f_X2_endWhatIsOver (nx := 72) rfl rfl rfl ?_
          refine ev_loc f_X2_endWhatIsOver (nx := 73) rfl rfl rfl rfl ?_
          refine ev_ic f_X2_endWhatIsOver (nx := 74) (v := 0) rfl (by decide) rfl ?_
          refine ev_putIT f_X2_endWhatIsOver (nx := 77) rfl (hI.wf.s rfl) rfl rfl rfl (hI.put0 (hI.wf.s rfl) rfl rfl) (hX.upI rfl) (fun g15 e15 hI hX => ?_)
          exact ev_ret f_X2_endWhatIsOver rfl rfl rfl ⟨_, _, _, rfl, hI, hX, rfl⟩
        · refine ev_ic f_X2_endWhatIsOver (nx := 40) (v := 0) rfl (by decide) rfl ?_
          refine ev_putZT f_X2_endWhatIsOver (nx := 43) rfl (hI.wf.s rfl) rfl rfl (by decide : (0:Int) ≤ (0:Int32).toInt) (Int.le_trans (by decide : (0:Int32).toInt ≤ (0:Int)) (by decide : (0:Int) ≤ 1)) rfl (hI.put0 (hI.wf.s rfl) rfl rfl) (hX.upI rfl) (fun g16 e16 hI hX => ?_)
          refine ev_loc f_X2_endWhatIsOver (nx := 44) rfl rfl rfl rfl ?_
          refine ev_loc f_X2_endWhatIsOver (nx := 45) rfl rfl rfl rfl ?_
          refine ev_gvI f_X2_endWhatIsOver (nx := 48) (w := (gi 45 8)) rfl (hI.wf.s rfl) rfl rfl ((by rw [e16]; exact x_up2_off (Or.inr (by decide)) : g16 45 8 = gi 45 8).trans rfl) rfl ?_
          refine ev_putIT f_X2_endWhatIsOver (nx := 51) rfl (hI.wf.s rfl) rfl rfl rfl (hI.put0 (hI.wf.s rfl) rfl rfl) (hX.upI rfl) (fun g17 e17 hI hX => ?_)
          refine ev_jmp f_X2_endWhatIsOver (nx := 72) rfl rfl rfl ?_
          refine ev_loc f_X2_endWhatIsOver (nx := 73) rfl rfl rfl rfl ?_
          refine ev_ic f_X2_endWhatIsOver (nx := 74) (v := 0) rfl (by decide) rfl ?_
          refine ev_putIT f_X2_endWhatIsOver (nx := 77) rfl (hI.wf.s rfl) rfl rfl rfl (hI.put0 (hI.wf.s rfl) rfl rfl) (hX.upI rfl) (fun g18 e18 hI hX => ?_)
          exact ev_ret f_X2_endWhatIsOver rfl rfl rfl ⟨_, _, _, rfl, hI, hX, rfl⟩
      · refine ev_loc f_X2_endWhatIsOver (nx := 55) rfl rfl rfl rfl ?_
        refine ev_gvI f_X2_endWhatIsOver (nx := 58) (w := (gi 45 7)) rfl (hI.wf.s rfl) rfl rfl rfl rfl ?_
        refine ev_ic f_X2_endWhatIsOver (nx := 59) (v := 1) rfl (by decide) rfl ?_
        refine ev_if f_X2_endWhatIsOver (t1 := 62) (t2 := 72) rfl rfl rfl (fun h19 => ?_) (fun h19 => ?_)
        · have u20 : (gi 45 7).toInt ≤ 1 := t_equ h19 (by decide : (1:Int32).toInt ≤ (1:Int))
          have l21 : 1 ≤ (gi 45 7).toInt := t_eql h19 (by decide : (1:Int) ≤ (1:Int32).toInt)
          refine ev_loc f_X2_endWhatIsOver (nx := 63) rfl rfl rfl rfl ?_
          refine ev_alu f_X2_endWhatIsOver (nx := 64) rfl rfl rfl rfl ?_
          refine ev_getI f_X2_endWhatIsOver (nx := 67) rfl (hI.wf.s rfl) rfl rfl rfl ?_
          refine ev_ic f_X2_endWhatIsOver (nx := 68) (v := 1) rfl (by decide) rfl ?_
          refine ev_anyI f_X2_endWhatIsOver (nx := 69) rfl rfl rfl rfl (fun z22 => ?_)
          refine ev_putIT f_X2_endWhatIsOver (nx := 72) rfl (hI.wf.s rfl) rfl rfl rfl (hI.put0 (hI.wf.s rfl) rfl rfl) (hX.upI rfl) (fun g23 e23 hI hX => ?_)
          refine ev_loc f_X2_endWhatIsOver (nx := 73) rfl rfl rfl rfl ?_
          refine ev_ic f_X2_endWhatIsOver (nx := 74) (v := 0) rfl (by decide) rfl ?_
          refine ev_putIT f_X2_endWhatIsOver (nx := 77) rfl (hI.wf.s rfl) rfl rfl rfl (hI.put0 (hI.wf.s rfl) rfl rfl) (hX.upI rfl) (fun g24 e24 hI hX => ?_)
          exact ev_ret f_X2_endWhatIsOver rfl rfl rfl ⟨_, _, _, rfl, hI, hX, rfl⟩
        · refine ev_loc f_X2_endWhatIsOver (nx := 73) rfl rfl rfl rfl ?_
          refine ev_ic f_X2_endWhatIsOver (nx := 74) (v := 0) rfl (by decide) rfl ?_
          refine ev_putIT f_X2_endWhatIsOver (nx := 77) rfl (hI.wf.s rfl) rfl rfl rfl (hI.put0 (hI.wf.s rfl) rfl rfl) (hX.upI rfl) (fun g25 e25 hI hX => ?_)
          exact ev_ret f_X2_endWhatIsOver rfl rfl rfl ⟨_, _, _, rfl, hI, hX, rfl⟩
    · have l26 : 1 ≤ (gi 45 8).toInt := t_ltl (t_nle h5) l4 rfl
      exact ev_ret f_X2_endWhatIsOver rfl rfl rfl ⟨_, _, _, rfl, hI, hX, rfl⟩
noncomputable def wl_strikeSails : List (Nat × Nat) := [(45, 12), (58, 9999)]
theorem c_strikeSails {X : x_Ext} {d : Nat} {sh : List (Nat ⊕ (Nat × Nat))} {gi : Nat → Nat → Int32} {gl : Nat → Nat → Int64} {gr : Nat → Nat → Value} (hI : t_I sh gi gr) : x_Me X (d + 2) n_X2_strikeSails [.ref 45] (sh, gi, gl, gr) (t_P wl_strikeSails sh gi gl gr t_Rn) := by
  have hX : t_X wl_strikeSails sh gi gl gr gi gl gr := t_X.rf
  refine me_i f_X2_strikeSails (hI.wf.s rfl) rfl rfl rfl ?_
  refine ev_ic f_X2_strikeSails (nx := 1) (v := 0) rfl (by decide) rfl ?_
  refine ev_loc f_X2_strikeSails (nx := 2) (lo' := [(1, .int 0), (0, .ref 45)]) rfl rfl rfl rfl ?_
  have L1 : ∀ (m1 : Nat) (gi1 : Nat → Nat → Int32) (gl1 : Nat → Nat → Int64) (gr1 : Nat → Nat → Value) (y1_1 : Int32), t_I sh gi1 gr1 → t_X wl_strikeSails sh gi gl gr gi1 gl1 gr1 → 0 ≤ y1_1.toInt → y1_1.toInt ≤ 6 → (6 - y1_1.toInt).toNat = m1 → x_Ev X (d + 2) n_X2_strikeSails 2 [(1, .int y1_1), (0, .ref 45)] [] (sh, gi1, gl1, gr1) (t_P wl_strikeSails sh gi gl gr t_Rn) := by
    intro m1
    induction m1 using Nat.strongRecOn with
    | _ m1 ih1 =>
    intro gi1 gl1 gr1 y1_1 hI hX l1_1 u1_1 hm1
    refine ev_loc f_X2_strikeSails (nx := 3) rfl rfl rfl rfl ?_
    refine ev_loc f_X2_strikeSails (nx := 4) rfl rfl rfl rfl ?_
    refine ev_getR f_X2_strikeSails (nx := 7) rfl (hI.wf.s rfl) rfl rfl (hI.wf.r rfl) rfl rfl ?_
    refine ev_getI f_X2_strikeSails (nx := 10) rfl (hI.wf.s rfl) rfl rfl rfl ?_
    obtain ⟨l2, u2⟩ := hI.b (hI.wf.s (k := 46) rfl) (t_bdK rfl : t_bd 3 0 = some (0, 6))
    refine ev_if f_X2_strikeSails (t1 := 56) (t2 := 13) rfl rfl rfl (fun h3 => ?_) (fun h3 => ?_)
    · exact ev_ret f_X2_strikeSails rfl rfl rfl ⟨_, _, _, rfl, hI, hX, rfl⟩
    · have u4 : y1_1.toInt ≤ 5 := t_ltu (t_nle h3) u2 rfl
      have l5 : 1 ≤ (gi1 46 0).toInt := t_ltl (t_nle h3) l1_1 rfl
      refine ev_loc f_X2_strikeSails (nx := 14) rfl rfl rfl rfl ?_
      refine ev_getI f_X2_strikeSails (nx := 17) rfl (hI.wf.s rfl) rfl rfl rfl ?_
      refine ev_if f_X2_strikeSails (t1 := 39) (t2 := 20) rfl rfl rfl (fun h6 => ?_) (fun h6 => ?_)
      · have u7 : (gi1 45 6).toInt ≤ 0 := t_equ h6 (by decide : (0:Int32).toInt ≤ (0:Int))
        have l8 : 0 ≤ (gi1 45 6).toInt := t_eql h6 (by decide : (0:Int) ≤ (0:Int32).toInt)
        refine ev_ic f_X2_strikeSails (nx := 40) (v := 0) rfl (by decide) rfl ?_
        refine ev_loc f_X2_strikeSails (nx := 41) (lo' := [(2, .int 0), (1, .int y1_1), (0, .ref 45)]) rfl rfl rfl rfl ?_
        refine ev_loc f_X2_strikeSails (nx := 42) rfl rfl rfl rfl ?_
        refine ev_t f_X2_strikeSails (t1 := 45) (t2 := 50) rfl rfl rfl (by decide) ?_
        refine ev_loc f_X2_strikeSails (nx := 46) rfl rfl rfl rfl ?_
        refine ev_loc f_X2_strikeSails (nx := 47) rfl rfl rfl rfl ?_
        refine ev_c0 f_X2_strikeSails (nx := 50) (r := []) rfl rfl rfl rfl rfl rfl rfl (c_strikeIfDue hI (y1_1)) rfl hX rfl (fun gi9 gl9 gr9 hI hX hC9 => ?_)
        refine ev_incR f_X2_strikeSails (nx := 53) (c := 1) (l := 1) (u := 6) rfl rfl (by decide) (by decide) l1_1 u4 rfl rfl (by decide) (by decide) rfl (fun z10 e10 l10 u10 => ?_)
        refine ev_jmp f_X2_strikeSails (nx := 2) rfl rfl rfl ?_
        refine ev_sub (lo := [(1, .int z10), (0, .ref 45)]) rfl (t_sc rfl (t_sc rfl t_sn)) ?_
        exact ih1 _ (by omega) gi9 gl9 gr9 (z10) hI hX  (Int.le_trans (by decide : (0:Int) ≤ 1) l10) u10 rfl
      · refine ev_loc f_X2_strikeSails (nx := 21) rfl rfl rfl rfl ?_
        refine ev_getI f_X2_strikeSails (nx := 24) rfl (hI.wf.s rfl) rfl rfl rfl ?_
        refine ev_if f_X2_strikeSails (t1 := 27) (t2 := 39) rfl rfl rfl (fun h11 => ?_) (fun h11 => ?_)
        · have u12 : (gi1 45 7).toInt ≤ 0 := t_equ h11 (by decide : (0:Int32).toInt ≤ (0:Int))
          have l13 : 0 ≤ (gi1 45 7).toInt := t_eql h11 (by decide : (0:Int) ≤ (0:Int32).toInt)
          refine ev_loc f_X2_strikeSails (nx := 28) rfl rfl rfl rfl ?_
          refine ev_cI f_X2_strikeSails (nx := 31) (r := []) rfl rfl rfl rfl rfl rfl rfl (c_firstShipLeft hI ) rfl hX rfl (fun w14 gi14 gl14 gr14 l14 u14 hI hX hC14 => ?_)
          refine ev_loc f_X2_strikeSails (nx := 32) rfl rfl rfl rfl ?_
          refine ev_if f_X2_strikeSails (t1 := 35) (t2 := 39) rfl rfl rfl (fun h15 => ?_) (fun h15 => ?_)
          · have l16 : 0 ≤ w14.toInt := t_eql h15 l1_1
            refine ev_ic f_X2_strikeSails (nx := 36) (v := 1) rfl (by decide) rfl ?_
            refine ev_jmp f_X2_strikeSails (nx := 40) rfl rfl rfl ?_
            refine ev_loc f_X2_strikeSails (nx := 41) (lo' := [(2, .int 1), (1, .int y1_1), (0, .ref 45)]) rfl rfl rfl rfl ?_
            refine ev_loc f_X2_strikeSails (nx := 42) rfl rfl rfl rfl ?_
            refine ev_f f_X2_strikeSails (t1 := 45) (t2 := 50) rfl rfl rfl (by decide) ?_
            refine ev_incR f_X2_strikeSails (nx := 53) (c := 1) (l := 1) (u := 6) rfl rfl (by decide) (by decide) l1_1 u4 rfl rfl (by decide) (by decide) rfl (fun z17 e17 l17 u17 => ?_)
            refine ev_jmp f_X2_strikeSails (nx := 2) rfl rfl rfl ?_
            refine ev_sub (lo := [(1, .int z17), (0, .ref 45)]) rfl (t_sc rfl (t_sc rfl t_sn)) ?_
            exact ih1 _ (by omega) gi14 gl14 gr14 (z17) hI hX  (Int.le_trans (by decide : (0:Int) ≤ 1) l17) u17 rfl
          · refine ev_ic f_X2_strikeSails (nx := 40) (v := 0) rfl (by decide) rfl ?_
            refine ev_loc f_X2_strikeSails (nx := 41) (lo' := [(2, .int 0), (1, .int y1_1), (0, .ref 45)]) rfl rfl rfl rfl ?_
            refine ev_loc f_X2_strikeSails (nx := 42) rfl rfl rfl rfl ?_
            refine ev_t f_X2_strikeSails (t1 := 45) (t2 := 50) rfl rfl rfl (by decide) ?_
            refine ev_loc f_X2_strikeSails (nx := 46) rfl rfl rfl rfl ?_
            refine ev_loc f_X2_strikeSails (nx := 47) rfl rfl rfl rfl ?_
            refine ev_c0 f_X2_strikeSails (nx := 50) (r := []) rfl rfl rfl rfl rfl rfl rfl (c_strikeIfDue hI (y1_1)) rfl hX rfl (fun gi18 gl18 gr18 hI hX hC18 => ?_)
            refine ev_incR f_X2_strikeSails (nx := 53) (c := 1) (l := 1) (u := 6) rfl rfl (by decide) (by decide) l1_1 u4 rfl rfl (by decide) (by decide) rfl (fun z19 e19 l19 u19 => ?_)
            refine ev_jmp f_X2_strikeSails (nx := 2) rfl rfl rfl ?_
            refine ev_sub (lo := [(1, .int z19), (0, .ref 45)]) rfl (t_sc rfl (t_sc rfl t_sn)) ?_
            exact ih1 _ (by omega) gi18 gl18 gr18 (z19) hI hX  (Int.le_trans (by decide : (0:Int) ≤ 1) l19) u19 rfl
        · refine ev_ic f_X2_strikeSails (nx := 40) (v := 0) rfl (by decide) rfl ?_
          refine ev_loc f_X2_strikeSails (nx := 41) (lo' := [(2, .int 0), (1, .int y1_1), (0, .ref 45)]) rfl rfl rfl rfl ?_
          refine ev_loc f_X2_strikeSails (nx := 42) rfl rfl rfl rfl ?_
          refine ev_t f_X2_strikeSails (t1 := 45) (t2 := 50) rfl rfl rfl (by decide) ?_
          refine ev_loc f_X2_strikeSails (nx := 46) rfl rfl rfl rfl ?_
          refine ev_loc f_X2_strikeSails (nx := 47) rfl rfl rfl rfl ?_
          refine ev_c0 f_X2_strikeSails (nx := 50) (r := []) rfl rfl rfl rfl rfl rfl rfl (c_strikeIfDue hI (y1_1)) rfl hX rfl (fun gi20 gl20 gr20 hI hX hC20 => ?_)
          refine ev_incR f_X2_strikeSails (nx := 53) (c := 1) (l := 1) (u := 6) rfl rfl (by decide) (by decide) l1_1 u4 rfl rfl (by decide) (by decide) rfl (fun z21 e21 l21 u21 => ?_)
          refine ev_jmp f_X2_strikeSails (nx := 2) rfl rfl rfl ?_
          refine ev_sub (lo := [(1, .int z21), (0, .ref 45)]) rfl (t_sc rfl (t_sc rfl t_sn)) ?_
          exact ih1 _ (by omega) gi20 gl20 gr20 (z21) hI hX  (Int.le_trans (by decide : (0:Int) ≤ 1) l21) u21 rfl
  refine ev_sub (lo := [(1, .int 0), (0, .ref 45)]) rfl (t_sc rfl (t_sc rfl t_sn)) ?_
  exact L1 _ gi gl gr (0) hI hX  (by decide : (0:Int) ≤ (0:Int32).toInt) (Int.le_trans (by decide : (0:Int32).toInt ≤ (0:Int)) (by decide : (0:Int) ≤ 6)) rfl
noncomputable def wl_comeLater : List (Nat × Nat) := [(45, 4), (46, 0), (47, 9999), (48, 9999), (49, 9999), (50, 9999), (51, 9999), (52, 0), (53, 9999), (54, 9999), (55, 9999), (56, 9999), (57, 9999), (58, 9999)]
theorem c_comeLater {X : x_Ext} {d : Nat} {sh : List (Nat ⊕ (Nat × Nat))} {gi : Nat → Nat → Int32} {gl : Nat → Nat → Int64} {gr : Nat → Nat → Value} (hI : t_I sh gi gr) (ar1 : Nat) (p_a1 : t_Rv sh gr ar1) (ar2 : Int32) : x_Me X (d + 3) n_X2_comeLater [.ref 45, .ref ar1, .int ar2] (sh, gi, gl, gr) (t_P wl_comeLater sh gi gl gr t_Rn) := by
  have hX : t_X wl_comeLater sh gi gl gr gi gl gr := t_X.rf
  refine me_i f_X2_comeLater (hI.wf.s rfl) rfl rfl rfl ?_
  refine ev_loc f_X2_comeLater (nx := 1) rfl rfl rfl rfl ?_
  refine ev_loc f_X2_comeLater (nx := 2) rfl rfl rfl rfl ?_
  refine ev_putIT f_X2_comeLater (nx := 5) rfl (hI.wf.s rfl) rfl rfl rfl (hI.put0 (hI.wf.s rfl) rfl rfl) (hX.upI rfl) (fun g1 e1 hI hX => ?_)
  refine ev_loc f_X2_comeLater (nx := 6) rfl rfl rfl rfl ?_
  refine ev_getR f_X2_comeLater (nx := 9) rfl (hI.wf.s rfl) rfl rfl (hI.wf.r rfl) rfl rfl ?_
  refine ev_inV1 f_X2_comeLater (nx := 12) (lo2 := [(0, .ref 46)]) rfl rfl rfl rfl f_X4_clear (hI.wf.s rfl) rfl rfl rfl rfl rfl ?_
  refine ev_loc f_X4_clear (nx := 1) rfl rfl rfl rfl ?_
  refine ev_ic f_X4_clear (nx := 2) (v := 0) rfl (by decide) rfl ?_
  refine ev_putIT f_X4_clear (nx := 5) rfl (hI.wf.s rfl) rfl rfl rfl (hI.putB (hI.wf.s rfl) rfl rfl (by decide : (0:Int) ≤ (0:Int32).toInt) (by decide) (by decide : (0:Int32).toInt ≤ (0:Int)) (by decide)) (hX.upI rfl) (fun g2 e2 hI hX => ?_)
  refine ev_retK0 f_X4_clear rfl rfl rfl ?_
  refine ev_loc f_X2_comeLater (nx := 13) rfl rfl rfl rfl ?_
  refine ev_getR f_X2_comeLater (nx := 16) rfl (hI.wf.s rfl) rfl rfl (hI.wf.r rfl) rfl rfl ?_
  refine ev_inV1 f_X2_comeLater (nx := 19) (lo2 := [(0, .ref 52)]) rfl rfl rfl rfl f_X4_clear (hI.wf.s rfl) rfl rfl rfl rfl rfl ?_
  refine ev_loc f_X4_clear (nx := 1) rfl rfl rfl rfl ?_
  refine ev_ic f_X4_clear (nx := 2) (v := 0) rfl (by decide) rfl ?_
  refine ev_putIT f_X4_clear (nx := 5) rfl (hI.wf.s rfl) rfl rfl rfl (hI.putB (hI.wf.s rfl) rfl rfl (by decide : (0:Int) ≤ (0:Int32).toInt) (by decide) (by decide : (0:Int32).toInt ≤ (0:Int)) (by decide)) (hX.upI rfl) (fun g3 e3 hI hX => ?_)
  refine ev_retK0 f_X4_clear rfl rfl rfl ?_
  refine ev_ic f_X2_comeLater (nx := 20) (v := 0) rfl (by decide) rfl ?_
  refine ev_loc f_X2_comeLater (nx := 21) (lo' := [(3, .int 0), (0, .ref 45), (1, .ref ar1), (2, .int ar2)]) rfl rfl rfl rfl ?_
  have L4 : ∀ (m4 : Nat) (gi4 : Nat → Nat → Int32) (gl4 : Nat → Nat → Int64) (gr4 : Nat → Nat → Value) (y4_3 : Int32), t_I sh gi4 gr4 → t_X wl_comeLater sh gi gl gr gi4 gl4 gr4 → t_Rv sh gr4 ar1 → 0 ≤ y4_3.toInt → y4_3.toInt ≤ 6 → gi4 52 0 = 0 → (6 - y4_3.toInt).toNat = m4 → x_Ev X (d + 3) n_X2_comeLater 21 [(3, .int y4_3), (0, .ref 45), (1, .ref ar1), (2, .int ar2)] [] (sh, gi4, gl4, gr4) (t_P wl_comeLater sh gi gl gr t_Rn) := by
    intro m4
    induction m4 using Nat.strongRecOn with
    | _ m4 ih4 =>
    intro gi4 gl4 gr4 y4_3 hI hX p_a1 l4_3 u4_3 c4_0 hm4
    refine ev_loc f_X2_comeLater (nx := 22) rfl rfl rfl rfl ?_
    refine ev_loc f_X2_comeLater (nx := 23) rfl rfl rfl rfl ?_
    obtain ⟨a5, e5, p5⟩ := p_a1.2.2.2.2.1
    refine ev_getR f_X2_comeLater (nx := 26) rfl p_a1.1 rfl rfl e5 rfl rfl ?_
    refine ev_getI f_X2_comeLater (nx := 29) rfl p5.1 rfl rfl rfl ?_
    obtain ⟨l6, u6⟩ := hI.b p5.1 (t_bdK rfl : t_bd 3 0 = some (0, 6))
    refine ev_if f_X2_comeLater (t1 := 72) (t2 := 32) rfl rfl rfl (fun h7 => ?_) (fun h7 => ?_)
    · refine ev_ic f_X2_comeLater (nx := 73) (v := 0) rfl (by decide) rfl ?_
      refine ev_loc f_X2_comeLater (nx := 74) (lo' := [(3, .int 0), (0, .ref 45), (1, .ref ar1), (2, .int ar2)]) rfl rfl rfl rfl ?_
      have L8 : ∀ (m8 : Nat) (gi8 : Nat → Nat → Int32) (gl8 : Nat → Nat → Int64) (gr8 : Nat → Nat → Value) (y8_3 : Int32), t_I sh gi8 gr8 → t_X wl_comeLater sh gi gl gr gi8 gl8 gr8 → t_Rv sh gr8 ar1 → t_Ln sh gr8 a5 → 0 ≤ y8_3.toInt → y8_3.toInt ≤ 6 → gr8 ar1 7 = .ref a5 → (6 - y8_3.toInt).toNat = m8 → x_Ev X (d + 3) n_X2_comeLater 74 [(3, .int y8_3), (0, .ref 45), (1, .ref ar1), (2, .int ar2)] [] (sh, gi8, gl8, gr8) (t_P wl_comeLater sh gi gl gr t_Rn) := by
        intro m8
        induction m8 using Nat.strongRecOn with
        | _ m8 ih8 =>
        intro gi8 gl8 gr8 y8_3 hI hX p_a1 p5 l8_3 u8_3 c8_0 hm8
        refine ev_loc f_X2_comeLater (nx := 75) rfl rfl rfl rfl ?_
        refine ev_loc f_X2_comeLater (nx := 76) rfl rfl rfl rfl ?_
        obtain ⟨a9, e9, p9⟩ := p_a1.2.2.2.2.2
        refine ev_getR f_X2_comeLater (nx := 79) rfl p_a1.1 rfl rfl e9 rfl rfl ?_
        refine ev_getI f_X2_comeLater (nx := 82) rfl p9.1 rfl rfl rfl ?_
        obtain ⟨l10, u10⟩ := hI.b p9.1 (t_bdK rfl : t_bd 3 0 = some (0, 6))
        refine ev_if f_X2_comeLater (t1 := 118) (t2 := 85) rfl rfl rfl (fun h11 => ?_) (fun h11 => ?_)
        · exact ev_ret f_X2_comeLater rfl rfl rfl ⟨_, _, _, rfl, hI, hX, rfl⟩
        · have u12 : y8_3.toInt ≤ 5 := t_ltu (t_nle h11) u10 rfl
          have l13 : 1 ≤ (gi8 a9 0).toInt := t_ltl (t_nle h11) l8_3 rfl
          refine ev_loc f_X2_comeLater (nx := 86) rfl rfl rfl rfl ?_
          refine ev_getR f_X2_comeLater (nx := 89) rfl (hI.wf.s rfl) rfl rfl (hI.wf.r rfl) rfl rfl ?_
          refine ev_loc f_X2_comeLater (nx := 90) rfl rfl rfl rfl ?_
          refine ev_getR f_X2_comeLater (nx := 93) (v := .ref a9) rfl p_a1.1 rfl rfl e9 rfl rfl ?_
          refine ev_loc f_X2_comeLater (nx := 94) rfl rfl rfl rfl ?_
          refine ev_loc f_X2_comeLater (nx := 95) rfl rfl rfl rfl ?_
          refine ev_getR f_X2_comeLater (nx := 98) (v := .ref a9) rfl p_a1.1 rfl rfl e9 rfl rfl ?_
          obtain ⟨a14, e14, s14, o14⟩ := p9.2.2.1
          refine ev_getR f_X2_comeLater (nx := 101) rfl p9.1 rfl rfl e14 rfl rfl ?_
          refine ev_loc f_X2_comeLater (nx := 102) rfl rfl rfl rfl ?_
          refine ev_ialdT f_X2_comeLater (nx := 103) rfl s14 l8_3 (by decide) u12 (by decide) rfl (fun w15 e15 => ?_)
          refine ev_loc f_X2_comeLater (nx := 104) rfl rfl rfl rfl ?_
          refine ev_loc f_X2_comeLater (nx := 105) rfl rfl rfl rfl ?_
          refine ev_inV2 f_X2_comeLater (nx := 108) (lo2 := [(0, .ref 45), (1, .int ar2)]) rfl rfl rfl rfl f_X2_delay (hI.wf.s rfl) rfl rfl rfl rfl rfl ?_
          refine ev_loc f_X2_delay (nx := 1) rfl rfl rfl rfl ?_
          refine ev_ic f_X2_delay (nx := 2) (v := -1) rfl (by decide) rfl ?_
          refine ev_if f_X2_delay (t1 := 5) (t2 := 7) rfl rfl rfl (fun h16 => ?_) (fun h16 => ?_)
          · have u17 : ar2.toInt ≤ (-1) := t_equ h16 (by decide : ((-1):Int32).toInt ≤ ((-1):Int))
            have l18 : (-1) ≤ ar2.toInt := t_eql h16 (by decide : ((-1):Int) ≤ ((-1):Int32).toInt)
            refine ev_ic f_X2_delay (nx := 6) (v := 0) rfl (by decide) rfl ?_
            refine ev_retK1 f_X2_delay rfl rfl rfl ?_
            refine ev_addC f_X2_comeLater (nx := 109) (c := 0) (l := (-2147483648)) (u := 2147483647) rfl (by decide) (t_lo w15) (t_hi w15) rfl rfl (by decide) (by decide) rfl (fun z19 e19 l19 u19 => ?_)
            refine ev_c0 f_X2_comeLater (nx := 112) (r := []) rfl rfl rfl rfl rfl rfl rfl (c_join_52 hI (a9) p9 (y8_3) (z19)) rfl hX rfl (fun gi20 gl20 gr20 hI hX hC20 => ?_)
            replace p_a1 := p_a1.ext hC20.2
            replace p5 := p5.ext hC20.2
            replace p9 := p9.ext hC20.2
            refine ev_incR f_X2_comeLater (nx := 115) (c := 1) (l := 1) (u := 6) rfl rfl (by decide) (by decide) l8_3 u12 rfl rfl (by decide) (by decide) rfl (fun z21 e21 l21 u21 => ?_)
            refine ev_jmp f_X2_comeLater (nx := 74) rfl rfl rfl ?_
            refine ev_sub (lo := [(3, .int z21), (0, .ref 45), (1, .ref ar1), (2, .int ar2)]) rfl (t_sc rfl (t_sc rfl (t_sc rfl (t_sc rfl t_sn)))) ?_
            exact ih8 _ (by omega) gi20 gl20 gr20 (z21) hI hX p_a1 p5 (Int.le_trans (by decide : (0:Int) ≤ 1) l21) u21 ((hC20.1 ar1 7 (t_ninO hI.wf p_a1.1 (t_outO hI.wf p_a1.1 rfl) rfl)).2.2.trans c8_0) rfl
          · refine ev_loc f_X2_delay (nx := 8) rfl rfl rfl rfl ?_
            refine ev_loc f_X2_delay (nx := 9) rfl rfl rfl rfl ?_
            refine ev_getI f_X2_delay (nx := 12) rfl (hI.wf.s rfl) rfl rfl rfl ?_
            refine ev_sp f_X2_delay (nx := 15) (v := 2749) rfl (by decide) rfl ?_
            refine ev_anyI f_X2_delay (nx := 16) rfl rfl rfl rfl (fun z22 => ?_)
            refine ev_sp f_X2_delay (nx := 19) (v := 12553) rfl (by decide) rfl ?_
            refine ev_anyI f_X2_delay (nx := 20) rfl rfl rfl rfl (fun z23 => ?_)
            refine ev_ldI f_X2_delay (nx := 22) (v := 65536) rfl (by decide) rfl ?_
            refine ev_remN f_X2_delay (nx := 23) rfl (by decide) rfl (fun z24 e24 => ?_)
            refine ev_putIT f_X2_delay (nx := 26) rfl (hI.wf.s rfl) rfl rfl rfl (hI.put0 (hI.wf.s rfl) rfl rfl) (hX.upI rfl) (fun g25 e25 hI hX => ?_)
            refine ev_loc f_X2_delay (nx := 27) rfl rfl rfl rfl ?_
            refine ev_gvI f_X2_delay (nx := 30) (w := z24) rfl (hI.wf.s rfl) rfl rfl (by rw [e25]; exact x_up2_at _ _ _ _ : g25 45 4 = z24) rfl ?_
            refine ev_bp f_X2_delay (nx := 32) (v := 8) rfl (by decide) rfl ?_
            refine ev_divN f_X2_delay (nx := 33) rfl (by decide) rfl (fun z26 e26 => ?_)
            refine ev_bp f_X2_delay (nx := 35) (v := 8) rfl (by decide) rfl ?_
            refine ev_remN f_X2_delay (nx := 36) rfl (by decide) rfl (fun z27 e27 => ?_)
            refine ev_retK1 f_X2_delay rfl rfl rfl ?_
            refine ev_anyI f_X2_comeLater (nx := 109) rfl rfl rfl rfl (fun z28 => ?_)
            refine ev_c0 f_X2_comeLater (nx := 112) (r := []) rfl rfl rfl rfl rfl rfl rfl (c_join_52 hI (a9) p9 (y8_3) (z28)) rfl hX rfl (fun gi29 gl29 gr29 hI hX hC29 => ?_)
            replace p_a1 := p_a1.ext hC29.2
            replace p5 := p5.ext hC29.2
            replace p9 := p9.ext hC29.2
            refine ev_incR f_X2_comeLater (nx := 115) (c := 1) (l := 1) (u := 6) rfl rfl (by decide) (by decide) l8_3 u12 rfl rfl (by decide) (by decide) rfl (fun z30 e30 l30 u30 => ?_)
            refine ev_jmp f_X2_comeLater (nx := 74) rfl rfl rfl ?_
            refine ev_sub (lo := [(3, .int z30), (0, .ref 45), (1, .ref ar1), (2, .int ar2)]) rfl (t_sc rfl (t_sc rfl (t_sc rfl (t_sc rfl t_sn)))) ?_
            exact ih8 _ (by omega) gi29 gl29 gr29 (z30) hI hX p_a1 p5 (Int.le_trans (by decide : (0:Int) ≤ 1) l30) u30 ((hC29.1 ar1 7 (t_ninO hI.wf p_a1.1 (t_outO hI.wf p_a1.1 rfl) rfl)).2.2.trans c8_0) rfl
      refine ev_sub (lo := [(3, .int 0), (0, .ref 45), (1, .ref ar1), (2, .int ar2)]) rfl (t_sc rfl (t_sc rfl (t_sc rfl (t_sc rfl t_sn)))) ?_
      exact L8 _ gi4 gl4 gr4 (0) hI hX p_a1 p5 (by decide : (0:Int) ≤ (0:Int32).toInt) (Int.le_trans (by decide : (0:Int32).toInt ≤ (0:Int)) (by decide : (0:Int) ≤ 6)) e5 rfl
    · have u31 : y4_3.toInt ≤ 5 := t_ltu (t_nle h7) u6 rfl
      have l32 : 1 ≤ (gi4 a5 0).toInt := t_ltl (t_nle h7) l4_3 rfl
      refine ev_loc f_X2_comeLater (nx := 33) rfl rfl rfl rfl ?_
      refine ev_getR f_X2_comeLater (nx := 36) rfl (hI.wf.s rfl) rfl rfl (hI.wf.r rfl) rfl rfl ?_
      refine ev_loc f_X2_comeLater (nx := 37) rfl rfl rfl rfl ?_
      refine ev_getR f_X2_comeLater (nx := 40) (v := .ref a5) rfl p_a1.1 rfl rfl e5 rfl rfl ?_
      refine ev_loc f_X2_comeLater (nx := 41) rfl rfl rfl rfl ?_
      refine ev_loc f_X2_comeLater (nx := 42) rfl rfl rfl rfl ?_
      refine ev_getR f_X2_comeLater (nx := 45) (v := .ref a5) rfl p_a1.1 rfl rfl e5 rfl rfl ?_
      obtain ⟨a33, e33, s33, o33⟩ := p5.2.2.1
      refine ev_getR f_X2_comeLater (nx := 48) rfl p5.1 rfl rfl e33 rfl rfl ?_
      refine ev_loc f_X2_comeLater (nx := 49) rfl rfl rfl rfl ?_
      refine ev_ialdT f_X2_comeLater (nx := 50) rfl s33 l4_3 (by decide) u31 (by decide) rfl (fun w34 e34 => ?_)
      refine ev_loc f_X2_comeLater (nx := 51) rfl rfl rfl rfl ?_
      refine ev_loc f_X2_comeLater (nx := 52) rfl rfl rfl rfl ?_
      refine ev_inV2 f_X2_comeLater (nx := 55) (lo2 := [(0, .ref 45), (1, .int ar2)]) rfl rfl rfl rfl f_X2_delay (hI.wf.s rfl) rfl rfl rfl rfl rfl ?_
      refine ev_loc f_X2_delay (nx := 1) rfl rfl rfl rfl ?_
      refine ev_ic f_X2_delay (nx := 2) (v := -1) rfl (by decide) rfl ?_
      refine ev_if f_X2_delay (t1 := 5) (t2 := 7) rfl rfl rfl (fun h35 => ?_) (fun h35 => ?_)
      · have u36 : ar2.toInt ≤ (-1) := t_equ h35 (by decide : ((-1):Int32).toInt ≤ ((-1):Int))
        have l37 : (-1) ≤ ar2.toInt := t_eql h35 (by decide : ((-1):Int) ≤ ((-1):Int32).toInt)
        refine ev_ic f_X2_delay (nx := 6) (v := 0) rfl (by decide) rfl ?_
        refine ev_retK1 f_X2_delay rfl rfl rfl ?_
        refine ev_addC f_X2_comeLater (nx := 56) (c := 0) (l := (-2147483648)) (u := 2147483647) rfl (by decide) (t_lo w34) (t_hi w34) rfl rfl (by decide) (by decide) rfl (fun z38 e38 l38 u38 => ?_)
        refine ev_c0 f_X2_comeLater (nx := 59) (r := []) rfl rfl rfl rfl rfl rfl rfl (c_join_46 hI (a5) p5 (y4_3) (z38)) rfl hX rfl (fun gi39 gl39 gr39 hI hX hC39 => ?_)
        replace p_a1 := p_a1.ext hC39.2
        replace p5 := p5.ext hC39.2
        refine ev_loc f_X2_comeLater (nx := 60) rfl rfl rfl rfl ?_
        refine ev_getR f_X2_comeLater (nx := 63) rfl (hI.wf.s rfl) rfl rfl (hI.wf.r rfl) rfl rfl ?_
        refine ev_loc f_X2_comeLater (nx := 64) rfl rfl rfl rfl ?_
        refine ev_ic f_X2_comeLater (nx := 65) (v := 0) rfl (by decide) rfl ?_
        refine ev_iastT f_X2_comeLater (nx := 66) rfl (hI.wf.s rfl) l4_3 (by decide) u31 (by decide) rfl (hI.astO (hI.wf.s rfl) (Or.inl (by decide)) (by decide +kernel)) (hX.upI (t_inA_ok rfl)) (fun g40 e40 hI hX => ?_)
        refine ev_incR f_X2_comeLater (nx := 69) (c := 1) (l := 1) (u := 6) rfl rfl (by decide) (by decide) l4_3 u31 rfl rfl (by decide) (by decide) rfl (fun z41 e41 l41 u41 => ?_)
        refine ev_jmp f_X2_comeLater (nx := 21) rfl rfl rfl ?_
        refine ev_sub (lo := [(3, .int z41), (0, .ref 45), (1, .ref ar1), (2, .int ar2)]) rfl (t_sc rfl (t_sc rfl (t_sc rfl (t_sc rfl t_sn)))) ?_
        exact ih4 _ (by omega) g40 gl39 gr39 (z41) hI hX p_a1 (Int.le_trans (by decide : (0:Int) ≤ 1) l41) u41 ((by rw [e40]; exact x_up2_off (Or.inl (by decide)) : g40 52 0 = gi39 52 0).trans ((hC39.1 52 0 rfl).1.trans c4_0)) rfl
      · refine ev_loc f_X2_delay (nx := 8) rfl rfl rfl rfl ?_
        refine ev_loc f_X2_delay (nx := 9) rfl rfl rfl rfl ?_
        refine ev_getI f_X2_delay (nx := 12) rfl (hI.wf.s rfl) rfl rfl rfl ?_
        refine ev_sp f_X2_delay (nx := 15) (v := 2749) rfl (by decide) rfl ?_
        refine ev_anyI f_X2_delay (nx := 16) rfl rfl rfl rfl (fun z42 => ?_)
        refine ev_sp f_X2_delay (nx := 19) (v := 12553) rfl (by decide) rfl ?_
        refine ev_anyI f_X2_delay (nx := 20) rfl rfl rfl rfl (fun z43 => ?_)
        refine ev_ldI f_X2_delay (nx := 22) (v := 65536) rfl (by decide) rfl ?_
        refine ev_remN f_X2_delay (nx := 23) rfl (by decide) rfl (fun z44 e44 => ?_)
        refine ev_putIT f_X2_delay (nx := 26) rfl (hI.wf.s rfl) rfl rfl rfl (hI.put0 (hI.wf.s rfl) rfl rfl) (hX.upI rfl) (fun g45 e45 hI hX => ?_)
        refine ev_loc f_X2_delay (nx := 27) rfl rfl rfl rfl ?_
        refine ev_gvI f_X2_delay (nx := 30) (w := z44) rfl (hI.wf.s rfl) rfl rfl (by rw [e45]; exact x_up2_at _ _ _ _ : g45 45 4 = z44) rfl ?_
        refine ev_bp f_X2_delay (nx := 32) (v := 8) rfl (by decide) rfl ?_
        refine ev_divN f_X2_delay (nx := 33) rfl (by decide) rfl (fun z46 e46 => ?_)
        refine ev_bp f_X2_delay (nx := 35) (v := 8) rfl (by decide) rfl ?_
        refine ev_remN f_X2_delay (nx := 36) rfl (by decide) rfl (fun z47 e47 => ?_)
        refine ev_retK1 f_X2_delay rfl rfl rfl ?_
        refine ev_anyI f_X2_comeLater (nx := 56) rfl rfl rfl rfl (fun z48 => ?_)
        refine ev_c0 f_X2_comeLater (nx := 59) (r := []) rfl rfl rfl rfl rfl rfl rfl (c_join_46 hI (a5) p5 (y4_3) (z48)) rfl hX rfl (fun gi49 gl49 gr49 hI hX hC49 => ?_)
        replace p_a1 := p_a1.ext hC49.2
        replace p5 := p5.ext hC49.2
        refine ev_loc f_X2_comeLater (nx := 60) rfl rfl rfl rfl ?_
        refine ev_getR f_X2_comeLater (nx := 63) rfl (hI.wf.s rfl) rfl rfl (hI.wf.r rfl) rfl rfl ?_
        refine ev_loc f_X2_comeLater (nx := 64) rfl rfl rfl rfl ?_
        refine ev_ic f_X2_comeLater (nx := 65) (v := 0) rfl (by decide) rfl ?_
        refine ev_iastT f_X2_comeLater (nx := 66) rfl (hI.wf.s rfl) l4_3 (by decide) u31 (by decide) rfl (hI.astO (hI.wf.s rfl) (Or.inl (by decide)) (by decide +kernel)) (hX.upI (t_inA_ok rfl)) (fun g50 e50 hI hX => ?_)
        refine ev_incR f_X2_comeLater (nx := 69) (c := 1) (l := 1) (u := 6) rfl rfl (by decide) (by decide) l4_3 u31 rfl rfl (by decide) (by decide) rfl (fun z51 e51 l51 u51 => ?_)
        refine ev_jmp f_X2_comeLater (nx := 21) rfl rfl rfl ?_
        refine ev_sub (lo := [(3, .int z51), (0, .ref 45), (1, .ref ar1), (2, .int ar2)]) rfl (t_sc rfl (t_sc rfl (t_sc rfl (t_sc rfl t_sn)))) ?_
        exact ih4 _ (by omega) g50 gl49 gr49 (z51) hI hX p_a1 (Int.le_trans (by decide : (0:Int) ≤ 1) l51) u51 ((by rw [e50]; exact x_up2_off (Or.inl (by decide)) : g50 52 0 = gi49 52 0).trans ((hC49.1 52 0 rfl).1.trans ((by rw [e45]; exact x_up2_off (Or.inr (by decide)) : g45 52 0 = gi4 52 0).trans c4_0))) rfl
  refine ev_sub (lo := [(3, .int 0), (0, .ref 45), (1, .ref ar1), (2, .int ar2)]) rfl (t_sc rfl (t_sc rfl (t_sc rfl (t_sc rfl t_sn)))) ?_
  exact L4 _ g3 gl gr (0) hI hX p_a1 (by decide : (0:Int) ≤ (0:Int32).toInt) (Int.le_trans (by decide : (0:Int32).toInt ≤ (0:Int)) (by decide : (0:Int) ≤ 6)) (by rw [e3]; exact x_up2_at _ _ _ _ : g3 52 0 = 0) rfl
noncomputable def wl_gatherFacts : List (Nat × Nat) := [(59, 9999)]
theorem c_gatherFacts {X : x_Ext} {d : Nat} {sh : List (Nat ⊕ (Nat × Nat))} {gi : Nat → Nat → Int32} {gl : Nat → Nat → Int64} {gr : Nat → Nat → Value} (hI : t_I sh gi gr) : x_Me X (d + 1) n_X2_gatherFacts [.ref 45] (sh, gi, gl, gr) (t_P wl_gatherFacts sh gi gl gr t_Rn) := by
  have hX : t_X wl_gatherFacts sh gi gl gr gi gl gr := t_X.rf
  refine me_i f_X2_gatherFacts (hI.wf.s rfl) rfl rfl rfl ?_
  refine ev_ic f_X2_gatherFacts (nx := 1) (v := 0) rfl (by decide) rfl ?_
  refine ev_loc f_X2_gatherFacts (nx := 2) (lo' := [(1, .int 0), (0, .ref 45)]) rfl rfl rfl rfl ?_
  refine ev_sp f_X2_gatherFacts (nx := 5) (v := 300) rfl (by decide) rfl ?_
  refine ev_loc f_X2_gatherFacts (nx := 6) (lo' := [(2, .int 300), (1, .int 0), (0, .ref 45)]) rfl rfl rfl rfl ?_
  refine ev_loc f_X2_gatherFacts (nx := 7) rfl rfl rfl rfl ?_
  refine ev_getR f_X2_gatherFacts (nx := 10) rfl (hI.wf.s rfl) rfl rfl (hI.wf.r rfl) rfl rfl ?_
  refine ev_getI f_X2_gatherFacts (nx := 13) rfl (hI.wf.s rfl) rfl rfl rfl ?_
  obtain ⟨l1, u1⟩ := hI.b (hI.wf.s (k := 46) rfl) (t_bdK rfl : t_bd 3 0 = some (0, 6))
  refine ev_ic f_X2_gatherFacts (nx := 14) (v := 1) rfl (by decide) rfl ?_
  refine ev_subC f_X2_gatherFacts (nx := 15) (c := 1) (l := (-1)) (u := 5) rfl (by decide) l1 u1 rfl rfl (by decide) (by decide) rfl (fun z2 e2 l2 u2 => ?_)
  refine ev_loc f_X2_gatherFacts (nx := 16) (lo' := [(3, .int z2), (2, .int 300), (1, .int 0), (0, .ref 45)]) rfl rfl rfl rfl ?_
  have L3 : ∀ (m3 : Nat) (gi3 : Nat → Nat → Int32) (gl3 : Nat → Nat → Int64) (gr3 : Nat → Nat → Value) (y3_3 : Int32) (y3_2 : Int32) (y3_1 : Int32), t_I sh gi3 gr3 → t_X wl_gatherFacts sh gi gl gr gi3 gl3 gr3 → (-1) ≤ y3_3.toInt → y3_3.toInt ≤ 5 → gi3 46 0 = (gi 46 0) → (y3_3.toInt - (-1)).toNat = m3 → x_Ev X (d + 1) n_X2_gatherFacts 16 [(3, .int y3_3), (2, .int y3_2), (1, .int y3_1), (0, .ref 45)] [] (sh, gi3, gl3, gr3) (t_P wl_gatherFacts sh gi gl gr t_Rn) := by
    intro m3
    induction m3 using Nat.strongRecOn with
    | _ m3 ih3 =>
    intro gi3 gl3 gr3 y3_3 y3_2 y3_1 hI hX l3_3 u3_3 c3_0 hm3
    refine ev_loc f_X2_gatherFacts (nx := 17) rfl rfl rfl rfl ?_
    refine ev_if f_X2_gatherFacts (t1 := 72) (t2 := 20) rfl rfl rfl (fun h4 => ?_) (fun h4 => ?_)
    · have u5 : y3_3.toInt ≤ (-1) := t_ltu h4 (by decide : (0:Int32).toInt ≤ (0:Int)) rfl
      refine ev_ic f_X2_gatherFacts (nx := 73) (v := 0) rfl (by decide) rfl ?_
      refine ev_loc f_X2_gatherFacts (nx := 74) (lo' := [(3, .int 0), (2, .int y3_2), (1, .int y3_1), (0, .ref 45)]) rfl rfl rfl rfl ?_
      refine ev_loc f_X2_gatherFacts (nx := 75) rfl rfl rfl rfl ?_
      refine ev_getI f_X2_gatherFacts (nx := 78) rfl (hI.wf.s rfl) rfl rfl rfl ?_
      obtain ⟨l6, u6⟩ := hI.b (hI.wf.s (k := 45) rfl) (t_bdK rfl : t_bd 2 10 = some (0, 6))
      refine ev_loc f_X2_gatherFacts (nx := 80) (lo' := [(4, .int (gi3 45 10)), (3, .int 0), (2, .int y3_2), (1, .int y3_1), (0, .ref 45)]) rfl rfl rfl rfl ?_
      have L7 : ∀ (m7 : Nat) (gi7 : Nat → Nat → Int32) (gl7 : Nat → Nat → Int64) (gr7 : Nat → Nat → Value) (y7_4 : Int32) (y7_3 : Int32), t_I sh gi7 gr7 → t_X wl_gatherFacts sh gi gl gr gi7 gl7 gr7 → 0 ≤ y7_4.toInt → y7_4.toInt ≤ 6 → gi7 45 10 = (gi3 45 10) → gi7 46 0 = (gi 46 0) → (6 - y7_4.toInt).toNat = m7 → x_Ev X (d + 1) n_X2_gatherFacts 80 [(4, .int y7_4), (3, .int y7_3), (2, .int y3_2), (1, .int y3_1), (0, .ref 45)] [] (sh, gi7, gl7, gr7) (t_P wl_gatherFacts sh gi gl gr t_Rn) := by
        intro m7
        induction m7 using Nat.strongRecOn with
        | _ m7 ih7 =>
        intro gi7 gl7 gr7 y7_4 y7_3 hI hX l7_4 u7_4 c7_0 c7_1 hm7
        refine ev_loc f_X2_gatherFacts (nx := 82) rfl rfl rfl rfl ?_
        refine ev_loc f_X2_gatherFacts (nx := 83) rfl rfl rfl rfl ?_
        refine ev_getR f_X2_gatherFacts (nx := 86) rfl (hI.wf.s rfl) rfl rfl (hI.wf.r rfl) rfl rfl ?_
        refine ev_getI f_X2_gatherFacts (nx := 89) rfl (hI.wf.s rfl) rfl rfl rfl ?_
        obtain ⟨l8, u8⟩ := hI.b (hI.wf.s (k := 52) rfl) (t_bdK rfl : t_bd 3 0 = some (0, 6))
        refine ev_if f_X2_gatherFacts (t1 := 118) (t2 := 92) rfl rfl rfl (fun h9 => ?_) (fun h9 => ?_)
        · refine ev_loc f_X2_gatherFacts (nx := 119) rfl rfl rfl rfl ?_
          refine ev_getR f_X2_gatherFacts (nx := 122) rfl (hI.wf.s rfl) rfl rfl (hI.wf.r rfl) rfl rfl ?_
          refine ev_ic f_X2_gatherFacts (nx := 123) (v := 0) rfl (by decide) rfl ?_
          refine ev_loc f_X2_gatherFacts (nx := 124) rfl rfl rfl rfl ?_
          refine ev_getI f_X2_gatherFacts (nx := 127) rfl (hI.wf.s rfl) rfl rfl rfl ?_
          refine ev_if f_X2_gatherFacts (t1 := 134) (t2 := 130) rfl rfl rfl (fun h10 => ?_) (fun h10 => ?_)
          · have u11 : (gi7 45 6).toInt ≤ 0 := t_equ h10 (by decide : (0:Int32).toInt ≤ (0:Int))
            have l12 : 0 ≤ (gi7 45 6).toInt := t_eql h10 (by decide : (0:Int) ≤ (0:Int32).toInt)
            refine ev_ic f_X2_gatherFacts (nx := 135) (v := 0) rfl (by decide) rfl ?_
            refine ev_iastT f_X2_gatherFacts (nx := 136) rfl (hI.wf.s rfl) (by decide : (0:Int) ≤ (0:Int32).toInt) (by decide) (by decide : (0:Int32).toInt ≤ (0:Int)) (by decide) rfl (hI.astO (hI.wf.s rfl) (Or.inl (by decide)) (by decide +kernel)) (hX.upI (t_inA_ok rfl)) (fun g13 e13 hI hX => ?_)
            refine ev_loc f_X2_gatherFacts (nx := 137) rfl rfl rfl rfl ?_
            refine ev_getR f_X2_gatherFacts (nx := 140) rfl (hI.wf.s rfl) rfl rfl (hI.wf.r rfl) rfl rfl ?_
            refine ev_ic f_X2_gatherFacts (nx := 141) (v := 1) rfl (by decide) rfl ?_
            refine ev_loc f_X2_gatherFacts (nx := 142) rfl rfl rfl rfl ?_
            refine ev_iastT f_X2_gatherFacts (nx := 143) rfl (hI.wf.s rfl) (by decide : (1:Int) ≤ (1:Int32).toInt) (by decide) (by decide : (1:Int32).toInt ≤ (1:Int)) (by decide) rfl (hI.astO (hI.wf.s rfl) (Or.inl (by decide)) (by decide +kernel)) (hX.upI (t_inA_ok rfl)) (fun g14 e14 hI hX => ?_)
            refine ev_loc f_X2_gatherFacts (nx := 144) rfl rfl rfl rfl ?_
            refine ev_getR f_X2_gatherFacts (nx := 147) rfl (hI.wf.s rfl) rfl rfl (hI.wf.r rfl) rfl rfl ?_
            refine ev_ic f_X2_gatherFacts (nx := 148) (v := 2) rfl (by decide) rfl ?_
            refine ev_loc f_X2_gatherFacts (nx := 149) rfl rfl rfl rfl ?_
            refine ev_iastT f_X2_gatherFacts (nx := 150) rfl (hI.wf.s rfl) (by decide : (2:Int) ≤ (2:Int32).toInt) (by decide) (by decide : (2:Int32).toInt ≤ (2:Int)) (by decide) rfl (hI.astO (hI.wf.s rfl) (Or.inl (by decide)) (by decide +kernel)) (hX.upI (t_inA_ok rfl)) (fun g15 e15 hI hX => ?_)
            refine ev_loc f_X2_gatherFacts (nx := 151) rfl rfl rfl rfl ?_
            refine ev_getR f_X2_gatherFacts (nx := 154) rfl (hI.wf.s rfl) rfl rfl (hI.wf.r rfl) rfl rfl ?_
            refine ev_ic f_X2_gatherFacts (nx := 155) (v := 3) rfl (by decide) rfl ?_
            refine ev_loc f_X2_gatherFacts (nx := 156) rfl rfl rfl rfl ?_
            refine ev_iastT f_X2_gatherFacts (nx := 157) rfl (hI.wf.s rfl) (by decide : (3:Int) ≤ (3:Int32).toInt) (by decide) (by decide : (3:Int32).toInt ≤ (3:Int)) (by decide) rfl (hI.astO (hI.wf.s rfl) (Or.inl (by decide)) (by decide +kernel)) (hX.upI (t_inA_ok rfl)) (fun g16 e16 hI hX => ?_)
            refine ev_loc f_X2_gatherFacts (nx := 158) rfl rfl rfl rfl ?_
            refine ev_getR f_X2_gatherFacts (nx := 161) rfl (hI.wf.s rfl) rfl rfl (hI.wf.r rfl) rfl rfl ?_
            refine ev_ic f_X2_gatherFacts (nx := 162) (v := 4) rfl (by decide) rfl ?_
            refine ev_loc f_X2_gatherFacts (nx := 163) rfl rfl rfl rfl ?_
            refine ev_getI f_X2_gatherFacts (nx := 166) rfl (hI.wf.s rfl) rfl rfl rfl ?_
            obtain ⟨l17, u17⟩ := hI.b (hI.wf.s (k := 45) rfl) (t_bdK rfl : t_bd 2 5 = some (0, 301))
            refine ev_iastT f_X2_gatherFacts (nx := 167) rfl (hI.wf.s rfl) (by decide : (4:Int) ≤ (4:Int32).toInt) (by decide) (by decide : (4:Int32).toInt ≤ (4:Int)) (by decide) rfl (hI.astO (hI.wf.s rfl) (Or.inl (by decide)) (by decide +kernel)) (hX.upI (t_inA_ok rfl)) (fun g18 e18 hI hX => ?_)
            refine ev_loc f_X2_gatherFacts (nx := 168) rfl rfl rfl rfl ?_
            refine ev_getR f_X2_gatherFacts (nx := 171) rfl (hI.wf.s rfl) rfl rfl (hI.wf.r rfl) rfl rfl ?_
            refine ev_ic f_X2_gatherFacts (nx := 172) (v := 5) rfl (by decide) rfl ?_
            refine ev_loc f_X2_gatherFacts (nx := 173) rfl rfl rfl rfl ?_
            refine ev_gvI f_X2_gatherFacts (nx := 176) (w := (g16 45 5)) rfl (hI.wf.s rfl) rfl rfl ((by rw [e18]; exact x_up2_off (Or.inl (by decide)) : g18 45 5 = g16 45 5).trans rfl) rfl ?_
            refine ev_loc f_X2_gatherFacts (nx := 177) rfl rfl rfl rfl ?_
            refine ev_getI f_X2_gatherFacts (nx := 180) rfl (hI.wf.s rfl) rfl rfl rfl ?_
            refine ev_anyI f_X2_gatherFacts (nx := 181) rfl rfl rfl rfl (fun z19 => ?_)
            refine ev_iastT f_X2_gatherFacts (nx := 182) rfl (hI.wf.s rfl) (by decide : (5:Int) ≤ (5:Int32).toInt) (by decide) (by decide : (5:Int32).toInt ≤ (5:Int)) (by decide) rfl (hI.astO (hI.wf.s rfl) (Or.inl (by decide)) (by decide +kernel)) (hX.upI (t_inA_ok rfl)) (fun g20 e20 hI hX => ?_)
            exact ev_ret f_X2_gatherFacts rfl rfl rfl ⟨_, _, _, rfl, hI, hX, rfl⟩
          · refine ev_ic f_X2_gatherFacts (nx := 131) (v := 1) rfl (by decide) rfl ?_
            refine ev_jmp f_X2_gatherFacts (nx := 135) rfl rfl rfl ?_
            refine ev_iastT f_X2_gatherFacts (nx := 136) rfl (hI.wf.s rfl) (by decide : (0:Int) ≤ (0:Int32).toInt) (by decide) (by decide : (0:Int32).toInt ≤ (0:Int)) (by decide) rfl (hI.astO (hI.wf.s rfl) (Or.inl (by decide)) (by decide +kernel)) (hX.upI (t_inA_ok rfl)) (fun g21 e21 hI hX => ?_)
            refine ev_loc f_X2_gatherFacts (nx := 137) rfl rfl rfl rfl ?_
            refine ev_getR f_X2_gatherFacts (nx := 140) rfl (hI.wf.s rfl) rfl rfl (hI.wf.r rfl) rfl rfl ?_
            refine ev_ic f_X2_gatherFacts (nx := 141) (v := 1) rfl (by decide) rfl ?_
            refine ev_loc f_X2_gatherFacts (nx := 142) rfl rfl rfl rfl ?_
            refine ev_iastT f_X2_gatherFacts (nx := 143) rfl (hI.wf.s rfl) (by decide : (1:Int) ≤ (1:Int32).toInt) (by decide) (by decide : (1:Int32).toInt ≤ (1:Int)) (by decide) rfl (hI.astO (hI.wf.s rfl) (Or.inl (by decide)) (by decide +kernel)) (hX.upI (t_inA_ok rfl)) (fun g22 e22 hI hX => ?_)
            refine ev_loc f_X2_gatherFacts (nx := 144) rfl rfl rfl rfl ?_
            refine ev_getR f_X2_gatherFacts (nx := 147) rfl (hI.wf.s rfl) rfl rfl (hI.wf.r rfl) rfl rfl ?_
            refine ev_ic f_X2_gatherFacts (nx := 148) (v := 2) rfl (by decide) rfl ?_
            refine ev_loc f_X2_gatherFacts (nx := 149) rfl rfl rfl rfl ?_
            refine ev_iastT f_X2_gatherFacts (nx := 150) rfl (hI.wf.s rfl) (by decide : (2:Int) ≤ (2:Int32).toInt) (by decide) (by decide : (2:Int32).toInt ≤ (2:Int)) (by decide) rfl (hI.astO (hI.wf.s rfl) (Or.inl (by decide)) (by decide +kernel)) (hX.upI (t_inA_ok rfl)) (fun g23 e23 hI hX => ?_)
            refine ev_loc f_X2_gatherFacts (nx := 151) rfl rfl rfl rfl ?_
            refine ev_getR f_X2_gatherFacts (nx := 154) rfl (hI.wf.s rfl) rfl rfl (hI.wf.r rfl) rfl rfl ?_
            refine ev_ic f_X2_gatherFacts (nx := 155) (v := 3) rfl (by decide) rfl ?_
            refine ev_loc f_X2_gatherFacts (nx := 156) rfl rfl rfl rfl ?_
            refine ev_iastT f_X2_gatherFacts (nx := 157) rfl (hI.wf.s rfl) (by decide : (3:Int) ≤ (3:Int32).toInt) (by decide) (by decide : (3:Int32).toInt ≤ (3:Int)) (by decide) rfl (hI.astO (hI.wf.s rfl) (Or.inl (by decide)) (by decide +kernel)) (hX.upI (t_inA_ok rfl)) (fun g24 e24 hI hX => ?_)
            refine ev_loc f_X2_gatherFacts (nx := 158) rfl rfl rfl rfl ?_
            refine ev_getR f_X2_gatherFacts (nx := 161) rfl (hI.wf.s rfl) rfl rfl (hI.wf.r rfl) rfl rfl ?_
            refine ev_ic f_X2_gatherFacts (nx := 162) (v := 4) rfl (by decide) rfl ?_
            refine ev_loc f_X2_gatherFacts (nx := 163) rfl rfl rfl rfl ?_
            refine ev_getI f_X2_gatherFacts (nx := 166) rfl (hI.wf.s rfl) rfl rfl rfl ?_
            obtain ⟨l25, u25⟩ := hI.b (hI.wf.s (k := 45) rfl) (t_bdK rfl : t_bd 2 5 = some (0, 301))
            refine ev_iastT f_X2_gatherFacts (nx := 167) rfl (hI.wf.s rfl) (by decide : (4:Int) ≤ (4:Int32).toInt) (by decide) (by decide : (4:Int32).toInt ≤ (4:Int)) (by decide) rfl (hI.astO (hI.wf.s rfl) (Or.inl (by decide)) (by decide +kernel)) (hX.upI (t_inA_ok rfl)) (fun g26 e26 hI hX => ?_)
            refine ev_loc f_X2_gatherFacts (nx := 168) rfl rfl rfl rfl ?_
            refine ev_getR f_X2_gatherFacts (nx := 171) rfl (hI.wf.s rfl) rfl rfl (hI.wf.r rfl) rfl rfl ?_
            refine ev_ic f_X2_gatherFacts (nx := 172) (v := 5) rfl (by decide) rfl ?_
            refine ev_loc f_X2_gatherFacts (nx := 173) rfl rfl rfl rfl ?_
            refine ev_gvI f_X2_gatherFacts (nx := 176) (w := (g24 45 5)) rfl (hI.wf.s rfl) rfl rfl ((by rw [e26]; exact x_up2_off (Or.inl (by decide)) : g26 45 5 = g24 45 5).trans rfl) rfl ?_
            refine ev_loc f_X2_gatherFacts (nx := 177) rfl rfl rfl rfl ?_
            refine ev_getI f_X2_gatherFacts (nx := 180) rfl (hI.wf.s rfl) rfl rfl rfl ?_
            refine ev_anyI f_X2_gatherFacts (nx := 181) rfl rfl rfl rfl (fun z27 => ?_)
            refine ev_iastT f_X2_gatherFacts (nx := 182) rfl (hI.wf.s rfl) (by decide : (5:Int) ≤ (5:Int32).toInt) (by decide) (by decide : (5:Int32).toInt ≤ (5:Int)) (by decide) rfl (hI.astO (hI.wf.s rfl) (Or.inl (by decide)) (by decide +kernel)) (hX.upI (t_inA_ok rfl)) (fun g28 e28 hI hX => ?_)
            exact ev_ret f_X2_gatherFacts rfl rfl rfl ⟨_, _, _, rfl, hI, hX, rfl⟩
        · have u29 : y7_4.toInt ≤ 5 := t_ltu (t_nle h9) u8 rfl
          have l30 : 1 ≤ (gi7 52 0).toInt := t_ltl (t_nle h9) l7_4 rfl
          refine ev_loc f_X2_gatherFacts (nx := 93) rfl rfl rfl rfl ?_
          refine ev_getR f_X2_gatherFacts (nx := 96) rfl (hI.wf.s rfl) rfl rfl (hI.wf.r rfl) rfl rfl ?_
          refine ev_getR f_X2_gatherFacts (nx := 99) rfl (hI.wf.s rfl) rfl rfl (hI.wf.r rfl) rfl rfl ?_
          refine ev_loc f_X2_gatherFacts (nx := 101) rfl rfl rfl rfl ?_
          refine ev_ialdT f_X2_gatherFacts (nx := 102) rfl (hI.wf.s rfl) l7_4 (by decide) u29 (by decide) rfl (fun w31 e31 => ?_)
          refine ev_loc f_X2_gatherFacts (nx := 103) rfl rfl rfl rfl ?_
          refine ev_getI f_X2_gatherFacts (nx := 106) rfl (hI.wf.s rfl) rfl rfl rfl ?_
          obtain ⟨l32, u32⟩ := hI.b (hI.wf.s (k := 45) rfl) (t_bdK rfl : t_bd 2 5 = some (0, 301))
          refine ev_if f_X2_gatherFacts (t1 := 112) (t2 := 109) rfl rfl rfl (fun h33 => ?_) (fun h33 => ?_)
          · have l34 : 1 ≤ w31.toInt := t_ltl h33 l32 rfl
            refine ev_incR f_X2_gatherFacts (nx := 115) (c := 1) (l := 1) (u := 6) rfl rfl (by decide) (by decide) l7_4 u29 rfl rfl (by decide) (by decide) rfl (fun z35 e35 l35 u35 => ?_)
            refine ev_jmp f_X2_gatherFacts (nx := 80) rfl rfl rfl ?_
            refine ev_sub (lo := [(4, .int z35), (3, .int y7_3), (2, .int y3_2), (1, .int y3_1), (0, .ref 45)]) rfl (t_sc rfl (t_sc rfl (t_sc rfl (t_sc rfl (t_sc rfl t_sn))))) ?_
            exact ih7 _ (by omega) gi7 gl7 gr7 (z35) (y7_3) hI hX  (Int.le_trans (by decide : (0:Int) ≤ 1) l35) u35 c7_0 c7_1 rfl
          · have u36 : w31.toInt ≤ 301 := t_leu (t_nlt h33) u32
            refine ev_incN f_X2_gatherFacts (nx := 112) rfl rfl (by decide) rfl (fun z37 => ?_)
            refine ev_incR f_X2_gatherFacts (nx := 115) (c := 1) (l := 1) (u := 6) rfl rfl (by decide) (by decide) l7_4 u29 rfl rfl (by decide) (by decide) rfl (fun z38 e38 l38 u38 => ?_)
            refine ev_jmp f_X2_gatherFacts (nx := 80) rfl rfl rfl ?_
            refine ev_sub (lo := [(4, .int z38), (3, .int z37), (2, .int y3_2), (1, .int y3_1), (0, .ref 45)]) rfl (t_sc rfl (t_sc rfl (t_sc rfl (t_sc rfl (t_sc rfl t_sn))))) ?_
            exact ih7 _ (by omega) gi7 gl7 gr7 (z38) (z37) hI hX  (Int.le_trans (by decide : (0:Int) ≤ 1) l38) u38 c7_0 c7_1 rfl
      refine ev_sub (lo := [(4, .int (gi3 45 10)), (3, .int 0), (2, .int y3_2), (1, .int y3_1), (0, .ref 45)]) rfl (t_sc rfl (t_sc rfl (t_sc rfl (t_sc rfl (t_sc rfl t_sn))))) ?_
      exact L7 _ gi3 gl3 gr3 ((gi3 45 10)) (0) hI hX  l6 u6 rfl c3_0 rfl
    · have l39 : 0 ≤ y3_3.toInt := t_lel (t_nlt h4) (by decide : (0:Int) ≤ (0:Int32).toInt)
      refine ev_loc f_X2_gatherFacts (nx := 21) rfl rfl rfl rfl ?_
      refine ev_getR f_X2_gatherFacts (nx := 24) rfl (hI.wf.s rfl) rfl rfl (hI.wf.r rfl) rfl rfl ?_
      refine ev_getR f_X2_gatherFacts (nx := 27) rfl (hI.wf.s rfl) rfl rfl (hI.wf.r rfl) rfl rfl ?_
      refine ev_loc f_X2_gatherFacts (nx := 28) rfl rfl rfl rfl ?_
      refine ev_ialdT f_X2_gatherFacts (nx := 29) rfl (hI.wf.s rfl) l39 (by decide) u3_3 (by decide) rfl (fun w40 e40 => ?_)
      refine ev_loc f_X2_gatherFacts (nx := 30) rfl rfl rfl rfl ?_
      refine ev_getI f_X2_gatherFacts (nx := 33) rfl (hI.wf.s rfl) rfl rfl rfl ?_
      obtain ⟨l41, u41⟩ := hI.b (hI.wf.s (k := 45) rfl) (t_bdK rfl : t_bd 2 5 = some (0, 301))
      refine ev_if f_X2_gatherFacts (t1 := 54) (t2 := 36) rfl rfl rfl (fun h42 => ?_) (fun h42 => ?_)
      · have u43 : w40.toInt ≤ 301 := t_leu h42 u41
        refine ev_loc f_X2_gatherFacts (nx := 55) rfl rfl rfl rfl ?_
        refine ev_getR f_X2_gatherFacts (nx := 58) rfl (hI.wf.s rfl) rfl rfl (hI.wf.r rfl) rfl rfl ?_
        refine ev_loc f_X2_gatherFacts (nx := 59) rfl rfl rfl rfl ?_
        refine ev_ialdT f_X2_gatherFacts (nx := 60) rfl (hI.wf.s rfl) l39 (by decide) u3_3 (by decide) rfl (fun w44 e44 => ?_)
        refine ev_if f_X2_gatherFacts (t1 := 63) (t2 := 66) rfl rfl rfl (fun h45 => ?_) (fun h45 => ?_)
        · have u46 : w44.toInt ≤ 0 := t_equ h45 (by decide : (0:Int32).toInt ≤ (0:Int))
          have l47 : 0 ≤ w44.toInt := t_eql h45 (by decide : (0:Int) ≤ (0:Int32).toInt)
          refine ev_incN f_X2_gatherFacts (nx := 66) rfl rfl (by decide) rfl (fun z48 => ?_)
          refine ev_incR f_X2_gatherFacts (nx := 69) (c := (-1)) (l := (-1)) (u := 4) rfl rfl (by decide) (by decide) l39 u3_3 rfl rfl (by decide) (by decide) rfl (fun z49 e49 l49 u49 => ?_)
          refine ev_jmp f_X2_gatherFacts (nx := 16) rfl rfl rfl ?_
          refine ev_sub (lo := [(3, .int z49), (2, .int y3_2), (1, .int z48), (0, .ref 45)]) rfl (t_sc rfl (t_sc rfl (t_sc rfl (t_sc rfl t_sn)))) ?_
          exact ih3 _ (by omega) gi3 gl3 gr3 (z49) (y3_2) (z48) hI hX  l49 (Int.le_trans u49 (by decide : (4:Int) ≤ 5)) c3_0 rfl
        · refine ev_incR f_X2_gatherFacts (nx := 69) (c := (-1)) (l := (-1)) (u := 4) rfl rfl (by decide) (by decide) l39 u3_3 rfl rfl (by decide) (by decide) rfl (fun z50 e50 l50 u50 => ?_)
          refine ev_jmp f_X2_gatherFacts (nx := 16) rfl rfl rfl ?_
          refine ev_sub (lo := [(3, .int z50), (2, .int y3_2), (1, .int y3_1), (0, .ref 45)]) rfl (t_sc rfl (t_sc rfl (t_sc rfl (t_sc rfl t_sn)))) ?_
          exact ih3 _ (by omega) gi3 gl3 gr3 (z50) (y3_2) (y3_1) hI hX  l50 (Int.le_trans u50 (by decide : (4:Int) ≤ 5)) c3_0 rfl
      · have l51 : 1 ≤ w40.toInt := t_ltl (t_nle h42) l41 rfl
        refine ev_loc f_X2_gatherFacts (nx := 37) rfl rfl rfl rfl ?_
        refine ev_getR f_X2_gatherFacts (nx := 40) rfl (hI.wf.s rfl) rfl rfl (hI.wf.r rfl) rfl rfl ?_
        refine ev_getR f_X2_gatherFacts (nx := 43) rfl (hI.wf.s rfl) rfl rfl (hI.wf.r rfl) rfl rfl ?_
        refine ev_loc f_X2_gatherFacts (nx := 44) rfl rfl rfl rfl ?_
        refine ev_ialdT f_X2_gatherFacts (nx := 45) rfl (hI.wf.s rfl) l39 (by decide) u3_3 (by decide) rfl (fun w52 e52 => ?_)
        refine ev_loc f_X2_gatherFacts (nx := 46) rfl rfl rfl rfl ?_
        refine ev_gvI f_X2_gatherFacts (nx := 49) (w := (gi3 45 5)) rfl (hI.wf.s rfl) rfl rfl rfl rfl ?_
        refine ev_anyI f_X2_gatherFacts (nx := 50) rfl rfl rfl rfl (fun z53 => ?_)
        refine ev_loc f_X2_gatherFacts (nx := 51) (lo' := [(2, .int z53), (3, .int y3_3), (1, .int y3_1), (0, .ref 45)]) rfl rfl rfl rfl ?_
        refine ev_jmp f_X2_gatherFacts (nx := 66) rfl rfl rfl ?_
        refine ev_incR f_X2_gatherFacts (nx := 69) (c := (-1)) (l := (-1)) (u := 4) rfl rfl (by decide) (by decide) l39 u3_3 rfl rfl (by decide) (by decide) rfl (fun z54 e54 l54 u54 => ?_)
        refine ev_jmp f_X2_gatherFacts (nx := 16) rfl rfl rfl ?_
        refine ev_sub (lo := [(3, .int z54), (2, .int z53), (1, .int y3_1), (0, .ref 45)]) rfl (t_sc rfl (t_sc rfl (t_sc rfl (t_sc rfl t_sn)))) ?_
        exact ih3 _ (by omega) gi3 gl3 gr3 (z54) (z53) (y3_1) hI hX  l54 (Int.le_trans u54 (by decide : (4:Int) ≤ 5)) c3_0 rfl
  refine ev_sub (lo := [(3, .int z2), (2, .int 300), (1, .int 0), (0, .ref 45)]) rfl (t_sc rfl (t_sc rfl (t_sc rfl (t_sc rfl t_sn)))) ?_
  exact L3 _ gi gl gr (z2) (300) (0) hI hX  l2 u2 rfl rfl
noncomputable def wl_beginNext : List (Nat × Nat) := [(45, 7), (45, 8), (45, 10), (45, 11), (58, 9999)]
theorem c_beginNext {X : x_Ext} {d : Nat} {sh : List (Nat ⊕ (Nat × Nat))} {gi : Nat → Nat → Int32} {gl : Nat → Nat → Int64} {gr : Nat → Nat → Value} (hI : t_I sh gi gr) : x_Me X (d + 2) n_X2_beginNext [.ref 45] (sh, gi, gl, gr) (t_P wl_beginNext sh gi gl gr t_Rn) := by
  have hX : t_X wl_beginNext sh gi gl gr gi gl gr := t_X.rf
  refine me_i f_X2_beginNext (hI.wf.s rfl) rfl rfl rfl ?_
  refine ev_loc f_X2_beginNext (nx := 1) rfl rfl rfl rfl ?_
  refine ev_cI f_X2_beginNext (nx := 4) (r := []) rfl rfl rfl rfl rfl rfl rfl (c_firstShipLeft hI ) rfl hX rfl (fun w1 gi1 gl1 gr1 l1 u1 hI hX hC1 => ?_)
  refine ev_loc f_X2_beginNext (nx := 5) (lo' := [(1, .int w1), (0, .ref 45)]) rfl rfl rfl rfl ?_
  refine ev_loc f_X2_beginNext (nx := 6) rfl rfl rfl rfl ?_
  refine ev_getI f_X2_beginNext (nx := 9) rfl (hI.wf.s rfl) rfl rfl rfl ?_
  refine ev_if f_X2_beginNext (t1 := 53) (t2 := 12) rfl rfl rfl (fun h2 => ?_) (fun h2 => ?_)
  · have u3 : (gi1 45 6).toInt ≤ 0 := t_equ h2 (by decide : (0:Int32).toInt ≤ (0:Int))
    have l4 : 0 ≤ (gi1 45 6).toInt := t_eql h2 (by decide : (0:Int) ≤ (0:Int32).toInt)
    refine ev_loc f_X2_beginNext (nx := 54) rfl rfl rfl rfl ?_
    refine ev_gvI f_X2_beginNext (nx := 57) (w := (gi1 45 6)) rfl (hI.wf.s rfl) rfl rfl rfl rfl ?_
    refine ev_t f_X2_beginNext (t1 := 60) (t2 := 116) rfl rfl rfl (t_eqT u3 l4 (by decide : (0:Int32).toInt ≤ (0:Int)) (by decide : (0:Int) ≤ (0:Int32).toInt)) ?_
    refine ev_loc f_X2_beginNext (nx := 61) rfl rfl rfl rfl ?_
    refine ev_getI f_X2_beginNext (nx := 64) rfl (hI.wf.s rfl) rfl rfl rfl ?_
    obtain ⟨l5, u5⟩ := hI.b (hI.wf.s (k := 45) rfl) (t_bdK rfl : t_bd 2 10 = some (0, 6))
    refine ev_loc f_X2_beginNext (nx := 65) rfl rfl rfl rfl ?_
    refine ev_getR f_X2_beginNext (nx := 68) rfl (hI.wf.s rfl) rfl rfl (hI.wf.r rfl) rfl rfl ?_
    refine ev_getI f_X2_beginNext (nx := 71) rfl (hI.wf.s rfl) rfl rfl rfl ?_
    obtain ⟨l6, u6⟩ := hI.b (hI.wf.s (k := 52) rfl) (t_bdK rfl : t_bd 3 0 = some (0, 6))
    refine ev_if f_X2_beginNext (t1 := 116) (t2 := 74) rfl rfl rfl (fun h7 => ?_) (fun h7 => ?_)
    · exact ev_ret f_X2_beginNext rfl rfl rfl ⟨_, _, _, rfl, hI, hX, rfl⟩
    · have u8 : (gi1 45 10).toInt ≤ 5 := t_ltu (t_nle h7) u6 rfl
      have l9 : 1 ≤ (gi1 52 0).toInt := t_ltl (t_nle h7) l5 rfl
      refine ev_loc f_X2_beginNext (nx := 75) rfl rfl rfl rfl ?_
      refine ev_getR f_X2_beginNext (nx := 78) rfl (hI.wf.s rfl) rfl rfl (hI.wf.r rfl) rfl rfl ?_
      refine ev_getR f_X2_beginNext (nx := 81) rfl (hI.wf.s rfl) rfl rfl (hI.wf.r rfl) rfl rfl ?_
      refine ev_loc f_X2_beginNext (nx := 82) rfl rfl rfl rfl ?_
      refine ev_gvI f_X2_beginNext (nx := 85) (w := (gi1 45 10)) rfl (hI.wf.s rfl) rfl rfl rfl rfl ?_
      refine ev_ialdT f_X2_beginNext (nx := 86) rfl (hI.wf.s rfl) l5 (by decide) u8 (by decide) rfl (fun w10 e10 => ?_)
      refine ev_loc f_X2_beginNext (nx := 87) rfl rfl rfl rfl ?_
      refine ev_getI f_X2_beginNext (nx := 90) rfl (hI.wf.s rfl) rfl rfl rfl ?_
      obtain ⟨l11, u11⟩ := hI.b (hI.wf.s (k := 45) rfl) (t_bdK rfl : t_bd 2 5 = some (0, 301))
      refine ev_if f_X2_beginNext (t1 := 116) (t2 := 93) rfl rfl rfl (fun h12 => ?_) (fun h12 => ?_)
      · have l13 : 1 ≤ w10.toInt := t_ltl h12 l11 rfl
        exact ev_ret f_X2_beginNext rfl rfl rfl ⟨_, _, _, rfl, hI, hX, rfl⟩
      · have u14 : w10.toInt ≤ 301 := t_leu (t_nlt h12) u11
        refine ev_loc f_X2_beginNext (nx := 94) rfl rfl rfl rfl ?_
        refine ev_ic f_X2_beginNext (nx := 95) (v := 2) rfl (by decide) rfl ?_
        refine ev_loc f_X2_beginNext (nx := 96) rfl rfl rfl rfl ?_
        refine ev_getR f_X2_beginNext (nx := 99) rfl (hI.wf.s rfl) rfl rfl (hI.wf.r rfl) rfl rfl ?_
        refine ev_loc f_X2_beginNext (nx := 100) rfl rfl rfl rfl ?_
        refine ev_gvI f_X2_beginNext (nx := 103) (w := (gi1 45 10)) rfl (hI.wf.s rfl) rfl rfl rfl rfl ?_
        refine ev_inV4 f_X2_beginNext (nx := 106) (lo2 := [(0, .ref 45), (1, .int 2), (2, .ref 52), (3, .int (gi1 45 10))]) rfl rfl rfl rfl f_X2_begin (hI.wf.s rfl) rfl rfl rfl rfl rfl ?_
        refine ev_loc f_X2_begin (nx := 1) rfl rfl rfl rfl ?_
        refine ev_f f_X2_begin (t1 := 59) (t2 := 4) rfl rfl rfl (t_ltF (by decide : (0:Int32).toInt ≤ (0:Int)) l5 (by decide)) ?_
        refine ev_loc f_X2_begin (nx := 5) rfl rfl rfl rfl ?_
        refine ev_loc f_X2_begin (nx := 6) rfl rfl rfl rfl ?_
        refine ev_gvI f_X2_begin (nx := 9) (w := (gi1 52 0)) rfl (hI.wf.s rfl) rfl rfl rfl rfl ?_
        refine ev_if f_X2_begin (t1 := 59) (t2 := 12) rfl rfl rfl (fun h15 => ?_) (fun h15 => ?_)
        · have u16 : (gi1 52 0).toInt ≤ 5 := t_leu h15 u8
          have l17 : 1 ≤ (gi1 45 10).toInt := t_lel h15 l9
          refine ev_retK0 f_X2_begin rfl rfl rfl ?_
          refine ev_loc f_X2_beginNext (nx := 107) rfl rfl rfl rfl ?_
          refine ev_alu f_X2_beginNext (nx := 108) rfl rfl rfl rfl ?_
          refine ev_gvI f_X2_beginNext (nx := 111) (w := (gi1 45 10)) rfl (hI.wf.s rfl) rfl rfl rfl rfl ?_
          refine ev_ic f_X2_beginNext (nx := 112) (v := 1) rfl (by decide) rfl ?_
          refine ev_addC f_X2_beginNext (nx := 113) (c := 1) (l := 2) (u := 6) rfl (by decide) l17 u8 rfl rfl (by decide) (by decide) rfl (fun z18 e18 l18 u18 => ?_)
          refine ev_putIT f_X2_beginNext (nx := 116) rfl (hI.wf.s rfl) rfl rfl rfl (hI.putB (hI.wf.s rfl) rfl rfl l18 (by decide) u18 (by decide)) (hX.upI rfl) (fun g19 e19 hI hX => ?_)
          exact ev_ret f_X2_beginNext rfl rfl rfl ⟨_, _, _, rfl, hI, hX, rfl⟩
        · refine ev_loc f_X2_begin (nx := 13) rfl rfl rfl rfl ?_
          refine ev_loc f_X2_begin (nx := 14) rfl rfl rfl rfl ?_
          refine ev_putIT f_X2_begin (nx := 17) rfl (hI.wf.s rfl) rfl rfl rfl (hI.put0 (hI.wf.s rfl) rfl rfl) (hX.upI rfl) (fun g20 e20 hI hX => ?_)
          refine ev_loc f_X2_begin (nx := 18) rfl rfl rfl rfl ?_
          refine ev_loc f_X2_begin (nx := 19) rfl rfl rfl rfl ?_
          refine ev_gvI f_X2_begin (nx := 22) (w := (gi1 45 5)) rfl (hI.wf.s rfl) rfl rfl ((by rw [e20]; exact x_up2_off (Or.inr (by decide)) : g20 45 5 = gi1 45 5).trans rfl) rfl ?_
          refine ev_loc f_X2_begin (nx := 23) rfl rfl rfl rfl ?_
          refine ev_getR f_X2_begin (nx := 26) rfl (hI.wf.s rfl) rfl rfl (hI.wf.r rfl) rfl rfl ?_
          refine ev_loc f_X2_begin (nx := 27) rfl rfl rfl rfl ?_
          refine ev_ialdT f_X2_begin (nx := 28) rfl (hI.wf.s rfl) l5 (by decide) u8 (by decide) rfl (fun w21 e21 => ?_)
          refine ev_anyI f_X2_begin (nx := 29) rfl rfl rfl rfl (fun z22 => ?_)
          refine ev_putIT f_X2_begin (nx := 32) rfl (hI.wf.s rfl) rfl rfl rfl (hI.put0 (hI.wf.s rfl) rfl rfl) (hX.upI rfl) (fun g23 e23 hI hX => ?_)
          refine ev_loc f_X2_begin (nx := 33) rfl rfl rfl rfl ?_
          refine ev_alu f_X2_begin (nx := 34) rfl rfl rfl rfl ?_
          refine ev_getI f_X2_begin (nx := 37) rfl (hI.wf.s rfl) rfl rfl rfl ?_
          refine ev_loc f_X2_begin (nx := 38) rfl rfl rfl rfl ?_
          refine ev_gvI f_X2_begin (nx := 41) (w := (gi1 45 5)) rfl (hI.wf.s rfl) rfl rfl ((by rw [e23]; exact x_up2_off (Or.inr (by decide)) : g23 45 5 = g20 45 5).trans ((by rw [e20]; exact x_up2_off (Or.inr (by decide)) : g20 45 5 = gi1 45 5).trans rfl)) rfl ?_
          refine ev_loc f_X2_begin (nx := 42) rfl rfl rfl rfl ?_
          refine ev_getR f_X2_begin (nx := 45) rfl (hI.wf.s rfl) rfl rfl (hI.wf.r rfl) rfl rfl ?_
          refine ev_loc f_X2_begin (nx := 46) rfl rfl rfl rfl ?_
          refine ev_ialdT f_X2_begin (nx := 47) rfl (hI.wf.s rfl) l5 (by decide) u8 (by decide) rfl (fun w24 e24 => ?_)
          refine ev_anyI f_X2_begin (nx := 48) rfl rfl rfl rfl (fun z25 => ?_)
          refine ev_loc f_X2_begin (nx := 49) rfl rfl rfl rfl ?_
          refine ev_getR f_X2_begin (nx := 52) rfl (hI.wf.s rfl) rfl rfl (hI.wf.r rfl) rfl rfl ?_
          refine ev_loc f_X2_begin (nx := 53) rfl rfl rfl rfl ?_
          refine ev_ialdT f_X2_begin (nx := 54) rfl (hI.wf.s rfl) l5 (by decide) u8 (by decide) rfl (fun w26 e26 => ?_)
          refine ev_anyI f_X2_begin (nx := 55) rfl rfl rfl rfl (fun z27 => ?_)
          refine ev_anyI f_X2_begin (nx := 56) rfl rfl rfl rfl (fun z28 => ?_)
          refine ev_putIT f_X2_begin (nx := 59) rfl (hI.wf.s rfl) rfl rfl rfl (hI.put0 (hI.wf.s rfl) rfl rfl) (hX.upI rfl) (fun g29 e29 hI hX => ?_)
          refine ev_retK0 f_X2_begin rfl rfl rfl ?_
          refine ev_loc f_X2_beginNext (nx := 107) rfl rfl rfl rfl ?_
          refine ev_alu f_X2_beginNext (nx := 108) rfl rfl rfl rfl ?_
          refine ev_gvI f_X2_beginNext (nx := 111) (w := (gi1 45 10)) rfl (hI.wf.s rfl) rfl rfl ((by rw [e29]; exact x_up2_off (Or.inr (by decide)) : g29 45 10 = g23 45 10).trans ((by rw [e23]; exact x_up2_off (Or.inr (by decide)) : g23 45 10 = g20 45 10).trans ((by rw [e20]; exact x_up2_off (Or.inr (by decide)) : g20 45 10 = gi1 45 10).trans rfl))) rfl ?_
          refine ev_ic f_X2_beginNext (nx := 112) (v := 1) rfl (by decide) rfl ?_
          refine ev_addC f_X2_beginNext (nx := 113) (c := 1) (l := 1) (u := 6) rfl (by decide) l5 u8 rfl rfl (by decide) (by decide) rfl (fun z30 e30 l30 u30 => ?_)
          refine ev_putIT f_X2_beginNext (nx := 116) rfl (hI.wf.s rfl) rfl rfl rfl (hI.putB (hI.wf.s rfl) rfl rfl l30 (by decide) u30 (by decide)) (hX.upI rfl) (fun g31 e31 hI hX => ?_)
          exact ev_ret f_X2_beginNext rfl rfl rfl ⟨_, _, _, rfl, hI, hX, rfl⟩
  · refine ev_loc f_X2_beginNext (nx := 13) rfl rfl rfl rfl ?_
    refine ev_ic f_X2_beginNext (nx := 14) (v := -1) rfl (by decide) rfl ?_
    refine ev_if f_X2_beginNext (t1 := 53) (t2 := 17) rfl rfl rfl (fun h32 => ?_) (fun h32 => ?_)
    · have u33 : w1.toInt ≤ (-1) := t_equ h32 (by decide : ((-1):Int32).toInt ≤ ((-1):Int))
      refine ev_loc f_X2_beginNext (nx := 54) rfl rfl rfl rfl ?_
      refine ev_gvI f_X2_beginNext (nx := 57) (w := (gi1 45 6)) rfl (hI.wf.s rfl) rfl rfl rfl rfl ?_
      refine ev_if f_X2_beginNext (t1 := 60) (t2 := 116) rfl rfl rfl (fun h34 => ?_) (fun h34 => ?_)
      · have u35 : (gi1 45 6).toInt ≤ 0 := t_equ h34 (by decide : (0:Int32).toInt ≤ (0:Int))
        have l36 : 0 ≤ (gi1 45 6).toInt := t_eql h34 (by decide : (0:Int) ≤ (0:Int32).toInt)
        refine ev_loc f_X2_beginNext (nx := 61) rfl rfl rfl rfl ?_
        refine ev_getI f_X2_beginNext (nx := 64) rfl (hI.wf.s rfl) rfl rfl rfl ?_
        obtain ⟨l37, u37⟩ := hI.b (hI.wf.s (k := 45) rfl) (t_bdK rfl : t_bd 2 10 = some (0, 6))
        refine ev_loc f_X2_beginNext (nx := 65) rfl rfl rfl rfl ?_
        refine ev_getR f_X2_beginNext (nx := 68) rfl (hI.wf.s rfl) rfl rfl (hI.wf.r rfl) rfl rfl ?_
        refine ev_getI f_X2_beginNext (nx := 71) rfl (hI.wf.s rfl) rfl rfl rfl ?_
        obtain ⟨l38, u38⟩ := hI.b (hI.wf.s (k := 52) rfl) (t_bdK rfl : t_bd 3 0 = some (0, 6))
        refine ev_if f_X2_beginNext (t1 := 116) (t2 := 74) rfl rfl rfl (fun h39 => ?_) (fun h39 => ?_)
        · exact ev_ret f_X2_beginNext rfl rfl rfl ⟨_, _, _, rfl, hI, hX, rfl⟩
        · have u40 : (gi1 45 10).toInt ≤ 5 := t_ltu (t_nle h39) u38 rfl
          have l41 : 1 ≤ (gi1 52 0).toInt := t_ltl (t_nle h39) l37 rfl
          refine ev_loc f_X2_beginNext (nx := 75) rfl rfl rfl rfl ?_
          refine ev_getR f_X2_beginNext (nx := 78) rfl (hI.wf.s rfl) rfl rfl (hI.wf.r rfl) rfl rfl ?_
          refine ev_getR f_X2_beginNext (nx := 81) rfl (hI.wf.s rfl) rfl rfl (hI.wf.r rfl) rfl rfl ?_
          refine ev_loc f_X2_beginNext (nx := 82) rfl rfl rfl rfl ?_
          refine ev_gvI f_X2_beginNext (nx := 85) (w := (gi1 45 10)) rfl (hI.wf.s rfl) rfl rfl rfl rfl ?_
          refine ev_ialdT f_X2_beginNext (nx := 86) rfl (hI.wf.s rfl) l37 (by decide) u40 (by decide) rfl (fun w42 e42 => ?_)
          refine ev_loc f_X2_beginNext (nx := 87) rfl rfl rfl rfl ?_
          refine ev_getI f_X2_beginNext (nx := 90) rfl (hI.wf.s rfl) rfl rfl rfl ?_
          obtain ⟨l43, u43⟩ := hI.b (hI.wf.s (k := 45) rfl) (t_bdK rfl : t_bd 2 5 = some (0, 301))
          refine ev_if f_X2_beginNext (t1 := 116) (t2 := 93) rfl rfl rfl (fun h44 => ?_) (fun h44 => ?_)
          · have l45 : 1 ≤ w42.toInt := t_ltl h44 l43 rfl
            exact ev_ret f_X2_beginNext rfl rfl rfl ⟨_, _, _, rfl, hI, hX, rfl⟩
          · have u46 : w42.toInt ≤ 301 := t_leu (t_nlt h44) u43
            refine ev_loc f_X2_beginNext (nx := 94) rfl rfl rfl rfl ?_
            refine ev_ic f_X2_beginNext (nx := 95) (v := 2) rfl (by decide) rfl ?_
            refine ev_loc f_X2_beginNext (nx := 96) rfl rfl rfl rfl ?_
            refine ev_getR f_X2_beginNext (nx := 99) rfl (hI.wf.s rfl) rfl rfl (hI.wf.r rfl) rfl rfl ?_
            refine ev_loc f_X2_beginNext (nx := 100) rfl rfl rfl rfl ?_
            refine ev_gvI f_X2_beginNext (nx := 103) (w := (gi1 45 10)) rfl (hI.wf.s rfl) rfl rfl rfl rfl ?_
            refine ev_inV4 f_X2_beginNext (nx := 106) (lo2 := [(0, .ref 45), (1, .int 2), (2, .ref 52), (3, .int (gi1 45 10))]) rfl rfl rfl rfl f_X2_begin (hI.wf.s rfl) rfl rfl rfl rfl rfl ?_
            refine ev_loc f_X2_begin (nx := 1) rfl rfl rfl rfl ?_
            refine ev_f f_X2_begin (t1 := 59) (t2 := 4) rfl rfl rfl (t_ltF (by decide : (0:Int32).toInt ≤ (0:Int)) l37 (by decide)) ?_
            refine ev_loc f_X2_begin (nx := 5) rfl rfl rfl rfl ?_
            refine ev_loc f_X2_begin (nx := 6) rfl rfl rfl rfl ?_
            refine ev_gvI f_X2_begin (nx := 9) (w := (gi1 52 0)) rfl (hI.wf.s rfl) rfl rfl rfl rfl ?_
            refine ev_if f_X2_begin (t1 := 59) (t2 := 12) rfl rfl rfl (fun h47 => ?_) (fun h47 => ?_)
            · have u48 : (gi1 52 0).toInt ≤ 5 := t_leu h47 u40
              have l49 : 1 ≤ (gi1 45 10).toInt := t_lel h47 l41
              refine ev_retK0 f_X2_begin rfl rfl rfl ?_
              refine ev_loc f_X2_beginNext (nx := 107) rfl rfl rfl rfl ?_
              refine ev_alu f_X2_beginNext (nx := 108) rfl rfl rfl rfl ?_
              refine ev_gvI f_X2_beginNext (nx := 111) (w := (gi1 45 10)) rfl (hI.wf.s rfl) rfl rfl rfl rfl ?_
              refine ev_ic f_X2_beginNext (nx := 112) (v := 1) rfl (by decide) rfl ?_
              refine ev_addC f_X2_beginNext (nx := 113) (c := 1) (l := 2) (u := 6) rfl (by decide) l49 u40 rfl rfl (by decide) (by decide) rfl (fun z50 e50 l50 u50 => ?_)
              refine ev_putIT f_X2_beginNext (nx := 116) rfl (hI.wf.s rfl) rfl rfl rfl (hI.putB (hI.wf.s rfl) rfl rfl l50 (by decide) u50 (by decide)) (hX.upI rfl) (fun g51 e51 hI hX => ?_)
              exact ev_ret f_X2_beginNext rfl rfl rfl ⟨_, _, _, rfl, hI, hX, rfl⟩
            · refine ev_loc f_X2_begin (nx := 13) rfl rfl rfl rfl ?_
              refine ev_loc f_X2_begin (nx := 14) rfl rfl rfl rfl ?_
              refine ev_putIT f_X2_begin (nx := 17) rfl (hI.wf.s rfl) rfl rfl rfl (hI.put0 (hI.wf.s rfl) rfl rfl) (hX.upI rfl) (fun g52 e52 hI hX => ?_)
              refine ev_loc f_X2_begin (nx := 18) rfl rfl rfl rfl ?_
              refine ev_loc f_X2_begin (nx := 19) rfl rfl rfl rfl ?_
              refine ev_gvI f_X2_begin (nx := 22) (w := (gi1 45 5)) rfl (hI.wf.s rfl) rfl rfl ((by rw [e52]; exact x_up2_off (Or.inr (by decide)) : g52 45 5 = gi1 45 5).trans rfl) rfl ?_
              refine ev_loc f_X2_begin (nx := 23) rfl rfl rfl rfl ?_
              refine ev_getR f_X2_begin (nx := 26) rfl (hI.wf.s rfl) rfl rfl (hI.wf.r rfl) rfl rfl ?_
              refine ev_loc f_X2_begin (nx := 27) rfl rfl rfl rfl ?_
              refine ev_ialdT f_X2_begin (nx := 28) rfl (hI.wf.s rfl) l37 (by decide) u40 (by decide) rfl (fun w53 e53 => ?_)
              refine ev_anyI f_X2_begin (nx := 29) rfl rfl rfl rfl (fun z54 => ?_)
              refine ev_putIT f_X2_begin (nx := 32) rfl (hI.wf.s rfl) rfl rfl rfl (hI.put0 (hI.wf.s rfl) rfl rfl) (hX.upI rfl) (fun g55 e55 hI hX => ?_)
              refine ev_loc f_X2_begin (nx := 33) rfl rfl rfl rfl ?_
              refine ev_alu f_X2_begin (nx := 34) rfl rfl rfl rfl ?_
              refine ev_getI f_X2_begin (nx := 37) rfl (hI.wf.s rfl) rfl rfl rfl ?_
              refine ev_loc f_X2_begin (nx := 38) rfl rfl rfl rfl ?_
              refine ev_gvI f_X2_begin (nx := 41) (w := (gi1 45 5)) rfl (hI.wf.s rfl) rfl rfl ((by rw [e55]; exact x_up2_off (Or.inr (by decide)) : g55 45 5 = g52 45 5).trans ((by rw [e52]; exact x_up2_off (Or.inr (by decide)) : g52 45 5 = gi1 45 5).trans rfl)) rfl ?_
              refine ev_loc f_X2_begin (nx := 42) rfl rfl rfl rfl ?_
              refine ev_getR f_X2_begin (nx := 45) rfl (hI.wf.s rfl) rfl rfl (hI.wf.r rfl) rfl rfl ?_
              refine ev_loc f_X2_begin (nx := 46) rfl rfl rfl rfl ?_
              refine ev_ialdT f_X2_begin (nx := 47) rfl (hI.wf.s rfl) l37 (by decide) u40 (by decide) rfl (fun w56 e56 => ?_)
              refine ev_anyI f_X2_begin (nx := 48) rfl rfl rfl rfl (fun z57 => ?_)
              refine ev_loc f_X2_begin (nx := 49) rfl rfl rfl rfl ?_
              refine ev_getR f_X2_begin (nx := 52) rfl (hI.wf.s rfl) rfl rfl (hI.wf.r rfl) rfl rfl ?_
              refine ev_loc f_X2_begin (nx := 53) rfl rfl rfl rfl ?_
              refine ev_ialdT f_X2_begin (nx := 54) rfl (hI.wf.s rfl) l37 (by decide) u40 (by decide) rfl (fun w58 e58 => ?_)
              refine ev_anyI f_X2_begin (nx := 55) rfl rfl rfl rfl (fun z59 => ?_)
              refine ev_anyI f_X2_begin (nx := 56) rfl rfl rfl rfl (fun z60 => ?_)
              refine ev_putIT f_X2_begin (nx := 59) rfl (hI.wf.s rfl) rfl rfl rfl (hI.put0 (hI.wf.s rfl) rfl rfl) (hX.upI rfl) (fun g61 e61 hI hX => ?_)
              refine ev_retK0 f_X2_begin rfl rfl rfl ?_
              refine ev_loc f_X2_beginNext (nx := 107) rfl rfl rfl rfl ?_
              refine ev_alu f_X2_beginNext (nx := 108) rfl rfl rfl rfl ?_
              refine ev_gvI f_X2_beginNext (nx := 111) (w := (gi1 45 10)) rfl (hI.wf.s rfl) rfl rfl ((by rw [e61]; exact x_up2_off (Or.inr (by decide)) : g61 45 10 = g55 45 10).trans ((by rw [e55]; exact x_up2_off (Or.inr (by decide)) : g55 45 10 = g52 45 10).trans ((by rw [e52]; exact x_up2_off (Or.inr (by decide)) : g52 45 10 = gi1 45 10).trans rfl))) rfl ?_
              refine ev_ic f_X2_beginNext (nx := 112) (v := 1) rfl (by decide) rfl ?_
              refine ev_addC f_X2_beginNext (nx := 113) (c := 1) (l := 1) (u := 6) rfl (by decide) l37 u40 rfl rfl (by decide) (by decide) rfl (fun z62 e62 l62 u62 => ?_)
              refine ev_putIT f_X2_beginNext (nx := 116) rfl (hI.wf.s rfl) rfl rfl rfl (hI.putB (hI.wf.s rfl) rfl rfl l62 (by decide) u62 (by decide)) (hX.upI rfl) (fun g63 e63 hI hX => ?_)
              exact ev_ret f_X2_beginNext rfl rfl rfl ⟨_, _, _, rfl, hI, hX, rfl⟩
      · exact ev_ret f_X2_beginNext rfl rfl rfl ⟨_, _, _, rfl, hI, hX, rfl⟩
    · have l64 : 0 ≤ w1.toInt := t_nel h32 l1 rfl rfl
      refine ev_loc f_X2_beginNext (nx := 18) rfl rfl rfl rfl ?_
      refine ev_getR f_X2_beginNext (nx := 21) rfl (hI.wf.s rfl) rfl rfl (hI.wf.r rfl) rfl rfl ?_
      refine ev_getR f_X2_beginNext (nx := 24) rfl (hI.wf.s rfl) rfl rfl (hI.wf.r rfl) rfl rfl ?_
      refine ev_loc f_X2_beginNext (nx := 25) rfl rfl rfl rfl ?_
      refine ev_ialdT f_X2_beginNext (nx := 26) rfl (hI.wf.s rfl) l64 (by decide) u1 (by decide) rfl (fun w65 e65 => ?_)
      refine ev_loc f_X2_beginNext (nx := 27) rfl rfl rfl rfl ?_
      refine ev_getI f_X2_beginNext (nx := 30) rfl (hI.wf.s rfl) rfl rfl rfl ?_
      obtain ⟨l66, u66⟩ := hI.b (hI.wf.s (k := 45) rfl) (t_bdK rfl : t_bd 2 5 = some (0, 301))
      refine ev_if f_X2_beginNext (t1 := 53) (t2 := 33) rfl rfl rfl (fun h67 => ?_) (fun h67 => ?_)
      · have l68 : 1 ≤ w65.toInt := t_ltl h67 l66 rfl
        refine ev_loc f_X2_beginNext (nx := 54) rfl rfl rfl rfl ?_
        refine ev_gvI f_X2_beginNext (nx := 57) (w := (gi1 45 6)) rfl (hI.wf.s rfl) rfl rfl rfl rfl ?_
        refine ev_if f_X2_beginNext (t1 := 60) (t2 := 116) rfl rfl rfl (fun h69 => ?_) (fun h69 => ?_)
        · have u70 : (gi1 45 6).toInt ≤ 0 := t_equ h69 (by decide : (0:Int32).toInt ≤ (0:Int))
          have l71 : 0 ≤ (gi1 45 6).toInt := t_eql h69 (by decide : (0:Int) ≤ (0:Int32).toInt)
          refine ev_loc f_X2_beginNext (nx := 61) rfl rfl rfl rfl ?_
          refine ev_getI f_X2_beginNext (nx := 64) rfl (hI.wf.s rfl) rfl rfl rfl ?_
          obtain ⟨l72, u72⟩ := hI.b (hI.wf.s (k := 45) rfl) (t_bdK rfl : t_bd 2 10 = some (0, 6))
          refine ev_loc f_X2_beginNext (nx := 65) rfl rfl rfl rfl ?_
          refine ev_getR f_X2_beginNext (nx := 68) rfl (hI.wf.s rfl) rfl rfl (hI.wf.r rfl) rfl rfl ?_
          refine ev_getI f_X2_beginNext (nx := 71) rfl (hI.wf.s rfl) rfl rfl rfl ?_
          obtain ⟨l73, u73⟩ := hI.b (hI.wf.s (k := 52) rfl) (t_bdK rfl : t_bd 3 0 = some (0, 6))
          refine ev_if f_X2_beginNext (t1 := 116) (t2 := 74) rfl rfl rfl (fun h74 => ?_) (fun h74 => ?_)
          · exact ev_ret f_X2_beginNext rfl rfl rfl ⟨_, _, _, rfl, hI, hX, rfl⟩
          · have u75 : (gi1 45 10).toInt ≤ 5 := t_ltu (t_nle h74) u73 rfl
            have l76 : 1 ≤ (gi1 52 0).toInt := t_ltl (t_nle h74) l72 rfl
            refine ev_loc f_X2_beginNext (nx := 75) rfl rfl rfl rfl ?_
            refine ev_getR f_X2_beginNext (nx := 78) rfl (hI.wf.s rfl) rfl rfl (hI.wf.r rfl) rfl rfl ?_
            refine ev_getR f_X2_beginNext (nx := 81) rfl (hI.wf.s rfl) rfl rfl (hI.wf.r rfl) rfl rfl ?_
            refine ev_loc f_X2_beginNext (nx := 82) rfl rfl rfl rfl ?_
            refine ev_gvI f_X2_beginNext (nx := 85) (w := (gi1 45 10)) rfl (hI.wf.s rfl) rfl rfl rfl rfl ?_
            refine ev_ialdT f_X2_beginNext (nx := 86) rfl (hI.wf.s rfl) l72 (by decide) u75 (by decide) rfl (fun w77 e77 => ?_)
            refine ev_loc f_X2_beginNext (nx := 87) rfl rfl rfl rfl ?_
            refine ev_gvI f_X2_beginNext (nx := 90) (w := (gi1 45 5)) rfl (hI.wf.s rfl) rfl rfl rfl rfl ?_
            refine ev_if f_X2_beginNext (t1 := 116) (t2 := 93) rfl rfl rfl (fun h78 => ?_) (fun h78 => ?_)
            · have l79 : 1 ≤ w77.toInt := t_ltl h78 l66 rfl
              exact ev_ret f_X2_beginNext rfl rfl rfl ⟨_, _, _, rfl, hI, hX, rfl⟩
            · have u80 : w77.toInt ≤ 301 := t_leu (t_nlt h78) u66
              refine ev_loc f_X2_beginNext (nx := 94) rfl rfl rfl rfl ?_
              refine ev_ic f_X2_beginNext (nx := 95) (v := 2) rfl (by decide) rfl ?_
              refine ev_loc f_X2_beginNext (nx := 96) rfl rfl rfl rfl ?_
              refine ev_getR f_X2_beginNext (nx := 99) rfl (hI.wf.s rfl) rfl rfl (hI.wf.r rfl) rfl rfl ?_
              refine ev_loc f_X2_beginNext (nx := 100) rfl rfl rfl rfl ?_
              refine ev_gvI f_X2_beginNext (nx := 103) (w := (gi1 45 10)) rfl (hI.wf.s rfl) rfl rfl rfl rfl ?_
              refine ev_inV4 f_X2_beginNext (nx := 106) (lo2 := [(0, .ref 45), (1, .int 2), (2, .ref 52), (3, .int (gi1 45 10))]) rfl rfl rfl rfl f_X2_begin (hI.wf.s rfl) rfl rfl rfl rfl rfl ?_
              refine ev_loc f_X2_begin (nx := 1) rfl rfl rfl rfl ?_
              refine ev_f f_X2_begin (t1 := 59) (t2 := 4) rfl rfl rfl (t_ltF (by decide : (0:Int32).toInt ≤ (0:Int)) l72 (by decide)) ?_
              refine ev_loc f_X2_begin (nx := 5) rfl rfl rfl rfl ?_
              refine ev_loc f_X2_begin (nx := 6) rfl rfl rfl rfl ?_
              refine ev_gvI f_X2_begin (nx := 9) (w := (gi1 52 0)) rfl (hI.wf.s rfl) rfl rfl rfl rfl ?_
              refine ev_if f_X2_begin (t1 := 59) (t2 := 12) rfl rfl rfl (fun h81 => ?_) (fun h81 => ?_)
              · have u82 : (gi1 52 0).toInt ≤ 5 := t_leu h81 u75
                have l83 : 1 ≤ (gi1 45 10).toInt := t_lel h81 l76
                refine ev_retK0 f_X2_begin rfl rfl rfl ?_
                refine ev_loc f_X2_beginNext (nx := 107) rfl rfl rfl rfl ?_
                refine ev_alu f_X2_beginNext (nx := 108) rfl rfl rfl rfl ?_
                refine ev_gvI f_X2_beginNext (nx := 111) (w := (gi1 45 10)) rfl (hI.wf.s rfl) rfl rfl rfl rfl ?_
                refine ev_ic f_X2_beginNext (nx := 112) (v := 1) rfl (by decide) rfl ?_
                refine ev_addC f_X2_beginNext (nx := 113) (c := 1) (l := 2) (u := 6) rfl (by decide) l83 u75 rfl rfl (by decide) (by decide) rfl (fun z84 e84 l84 u84 => ?_)
                refine ev_putIT f_X2_beginNext (nx := 116) rfl (hI.wf.s rfl) rfl rfl rfl (hI.putB (hI.wf.s rfl) rfl rfl l84 (by decide) u84 (by decide)) (hX.upI rfl) (fun g85 e85 hI hX => ?_)
                exact ev_ret f_X2_beginNext rfl rfl rfl ⟨_, _, _, rfl, hI, hX, rfl⟩
              · refine ev_loc f_X2_begin (nx := 13) rfl rfl rfl rfl ?_
                refine ev_loc f_X2_begin (nx := 14) rfl rfl rfl rfl ?_
                refine ev_putIT f_X2_begin (nx := 17) rfl (hI.wf.s rfl) rfl rfl rfl (hI.put0 (hI.wf.s rfl) rfl rfl) (hX.upI rfl) (fun g86 e86 hI hX => ?_)
                refine ev_loc f_X2_begin (nx := 18) rfl rfl rfl rfl ?_
                refine ev_loc f_X2_begin (nx := 19) rfl rfl rfl rfl ?_
                refine ev_gvI f_X2_begin (nx := 22) (w := (gi1 45 5)) rfl (hI.wf.s rfl) rfl rfl ((by rw [e86]; exact x_up2_off (Or.inr (by decide)) : g86 45 5 = gi1 45 5).trans rfl) rfl ?_
                refine ev_loc f_X2_begin (nx := 23) rfl rfl rfl rfl ?_
                refine ev_getR f_X2_begin (nx := 26) rfl (hI.wf.s rfl) rfl rfl (hI.wf.r rfl) rfl rfl ?_
                refine ev_loc f_X2_begin (nx := 27) rfl rfl rfl rfl ?_
                refine ev_ialdT f_X2_begin (nx := 28) rfl (hI.wf.s rfl) l72 (by decide) u75 (by decide) rfl (fun w87 e87 => ?_)
                refine ev_anyI f_X2_begin (nx := 29) rfl rfl rfl rfl (fun z88 => ?_)
                refine ev_putIT f_X2_begin (nx := 32) rfl (hI.wf.s rfl) rfl rfl rfl (hI.put0 (hI.wf.s rfl) rfl rfl) (hX.upI rfl) (fun g89 e89 hI hX => ?_)
                refine ev_loc f_X2_begin (nx := 33) rfl rfl rfl rfl ?_
                refine ev_alu f_X2_begin (nx := 34) rfl rfl rfl rfl ?_
                refine ev_getI f_X2_begin (nx := 37) rfl (hI.wf.s rfl) rfl rfl rfl ?_
                refine ev_loc f_X2_begin (nx := 38) rfl rfl rfl rfl ?_
                refine ev_gvI f_X2_begin (nx := 41) (w := (gi1 45 5)) rfl (hI.wf.s rfl) rfl rfl ((by rw [e89]; exact x_up2_off (Or.inr (by decide)) : g89 45 5 = g86 45 5).trans ((by rw [e86]; exact x_up2_off (Or.inr (by decide)) : g86 45 5 = gi1 45 5).trans rfl)) rfl ?_
                refine ev_loc f_X2_begin (nx := 42) rfl rfl rfl rfl ?_
                refine ev_getR f_X2_begin (nx := 45) rfl (hI.wf.s rfl) rfl rfl (hI.wf.r rfl) rfl rfl ?_
                refine ev_loc f_X2_begin (nx := 46) rfl rfl rfl rfl ?_
                refine ev_ialdT f_X2_begin (nx := 47) rfl (hI.wf.s rfl) l72 (by decide) u75 (by decide) rfl (fun w90 e90 => ?_)
                refine ev_anyI f_X2_begin (nx := 48) rfl rfl rfl rfl (fun z91 => ?_)
                refine ev_loc f_X2_begin (nx := 49) rfl rfl rfl rfl ?_
                refine ev_getR f_X2_begin (nx := 52) rfl (hI.wf.s rfl) rfl rfl (hI.wf.r rfl) rfl rfl ?_
                refine ev_loc f_X2_begin (nx := 53) rfl rfl rfl rfl ?_
                refine ev_ialdT f_X2_begin (nx := 54) rfl (hI.wf.s rfl) l72 (by decide) u75 (by decide) rfl (fun w92 e92 => ?_)
                refine ev_anyI f_X2_begin (nx := 55) rfl rfl rfl rfl (fun z93 => ?_)
                refine ev_anyI f_X2_begin (nx := 56) rfl rfl rfl rfl (fun z94 => ?_)
                refine ev_putIT f_X2_begin (nx := 59) rfl (hI.wf.s rfl) rfl rfl rfl (hI.put0 (hI.wf.s rfl) rfl rfl) (hX.upI rfl) (fun g95 e95 hI hX => ?_)
                refine ev_retK0 f_X2_begin rfl rfl rfl ?_
                refine ev_loc f_X2_beginNext (nx := 107) rfl rfl rfl rfl ?_
                refine ev_alu f_X2_beginNext (nx := 108) rfl rfl rfl rfl ?_
                refine ev_gvI f_X2_beginNext (nx := 111) (w := (gi1 45 10)) rfl (hI.wf.s rfl) rfl rfl ((by rw [e95]; exact x_up2_off (Or.inr (by decide)) : g95 45 10 = g89 45 10).trans ((by rw [e89]; exact x_up2_off (Or.inr (by decide)) : g89 45 10 = g86 45 10).trans ((by rw [e86]; exact x_up2_off (Or.inr (by decide)) : g86 45 10 = gi1 45 10).trans rfl))) rfl ?_
                refine ev_ic f_X2_beginNext (nx := 112) (v := 1) rfl (by decide) rfl ?_
                refine ev_addC f_X2_beginNext (nx := 113) (c := 1) (l := 1) (u := 6) rfl (by decide) l72 u75 rfl rfl (by decide) (by decide) rfl (fun z96 e96 l96 u96 => ?_)
                refine ev_putIT f_X2_beginNext (nx := 116) rfl (hI.wf.s rfl) rfl rfl rfl (hI.putB (hI.wf.s rfl) rfl rfl l96 (by decide) u96 (by decide)) (hX.upI rfl) (fun g97 e97 hI hX => ?_)
                exact ev_ret f_X2_beginNext rfl rfl rfl ⟨_, _, _, rfl, hI, hX, rfl⟩
        · exact ev_ret f_X2_beginNext rfl rfl rfl ⟨_, _, _, rfl, hI, hX, rfl⟩
      · have u98 : w65.toInt ≤ 301 := t_leu (t_nlt h67) u66
        refine ev_loc f_X2_beginNext (nx := 34) rfl rfl rfl rfl ?_
        refine ev_getR f_X2_beginNext (nx := 37) rfl (hI.wf.s rfl) rfl rfl (hI.wf.r rfl) rfl rfl ?_
        refine ev_loc f_X2_beginNext (nx := 38) rfl rfl rfl rfl ?_
        refine ev_ic f_X2_beginNext (nx := 39) (v := 1) rfl (by decide) rfl ?_
        refine ev_iastT f_X2_beginNext (nx := 40) rfl (hI.wf.s rfl) l64 (by decide) u1 (by decide) rfl (hI.astO (hI.wf.s rfl) (Or.inl (by decide)) (by decide +kernel)) (hX.upI (t_inA_ok rfl)) (fun g99 e99 hI hX => ?_)
        refine ev_loc f_X2_beginNext (nx := 41) rfl rfl rfl rfl ?_
        refine ev_ic f_X2_beginNext (nx := 42) (v := 1) rfl (by decide) rfl ?_
        refine ev_loc f_X2_beginNext (nx := 43) rfl rfl rfl rfl ?_
        refine ev_getR f_X2_beginNext (nx := 46) rfl (hI.wf.s rfl) rfl rfl (hI.wf.r rfl) rfl rfl ?_
        refine ev_loc f_X2_beginNext (nx := 47) rfl rfl rfl rfl ?_
        refine ev_inV4 f_X2_beginNext (nx := 50) (lo2 := [(0, .ref 45), (1, .int 1), (2, .ref 46), (3, .int w1)]) rfl rfl rfl rfl f_X2_begin (hI.wf.s rfl) rfl rfl rfl rfl rfl ?_
        refine ev_loc f_X2_begin (nx := 1) rfl rfl rfl rfl ?_
        refine ev_f f_X2_begin (t1 := 59) (t2 := 4) rfl rfl rfl (t_ltF (by decide : (0:Int32).toInt ≤ (0:Int)) l64 (by decide)) ?_
        refine ev_loc f_X2_begin (nx := 5) rfl rfl rfl rfl ?_
        refine ev_loc f_X2_begin (nx := 6) rfl rfl rfl rfl ?_
        refine ev_getI f_X2_begin (nx := 9) rfl (hI.wf.s rfl) rfl rfl rfl ?_
        obtain ⟨l100, u100⟩ := hI.b (hI.wf.s (k := 46) rfl) (t_bdK rfl : t_bd 3 0 = some (0, 6))
        refine ev_if f_X2_begin (t1 := 59) (t2 := 12) rfl rfl rfl (fun h101 => ?_) (fun h101 => ?_)
        · have u102 : (g99 46 0).toInt ≤ 5 := t_leu h101 u1
          refine ev_retK0 f_X2_begin rfl rfl rfl ?_
          refine ev_jmp f_X2_beginNext (nx := 116) rfl rfl rfl ?_
          exact ev_ret f_X2_beginNext rfl rfl rfl ⟨_, _, _, rfl, hI, hX, rfl⟩
        · have l103 : 1 ≤ (g99 46 0).toInt := t_ltl (t_nle h101) l64 rfl
          refine ev_loc f_X2_begin (nx := 13) rfl rfl rfl rfl ?_
          refine ev_loc f_X2_begin (nx := 14) rfl rfl rfl rfl ?_
          refine ev_putIT f_X2_begin (nx := 17) rfl (hI.wf.s rfl) rfl rfl rfl (hI.put0 (hI.wf.s rfl) rfl rfl) (hX.upI rfl) (fun g104 e104 hI hX => ?_)
          refine ev_loc f_X2_begin (nx := 18) rfl rfl rfl rfl ?_
          refine ev_loc f_X2_begin (nx := 19) rfl rfl rfl rfl ?_
          refine ev_gvI f_X2_begin (nx := 22) (w := (gi1 45 5)) rfl (hI.wf.s rfl) rfl rfl ((by rw [e104]; exact x_up2_off (Or.inr (by decide)) : g104 45 5 = g99 45 5).trans ((by rw [e99]; exact x_up2_off (Or.inl (by decide)) : g99 45 5 = gi1 45 5).trans rfl)) rfl ?_
          refine ev_loc f_X2_begin (nx := 23) rfl rfl rfl rfl ?_
          refine ev_getR f_X2_begin (nx := 26) rfl (hI.wf.s rfl) rfl rfl (hI.wf.r rfl) rfl rfl ?_
          refine ev_loc f_X2_begin (nx := 27) rfl rfl rfl rfl ?_
          refine ev_ialdT f_X2_begin (nx := 28) rfl (hI.wf.s rfl) l64 (by decide) u1 (by decide) rfl (fun w105 e105 => ?_)
          refine ev_anyI f_X2_begin (nx := 29) rfl rfl rfl rfl (fun z106 => ?_)
          refine ev_putIT f_X2_begin (nx := 32) rfl (hI.wf.s rfl) rfl rfl rfl (hI.put0 (hI.wf.s rfl) rfl rfl) (hX.upI rfl) (fun g107 e107 hI hX => ?_)
          refine ev_loc f_X2_begin (nx := 33) rfl rfl rfl rfl ?_
          refine ev_alu f_X2_begin (nx := 34) rfl rfl rfl rfl ?_
          refine ev_getI f_X2_begin (nx := 37) rfl (hI.wf.s rfl) rfl rfl rfl ?_
          refine ev_loc f_X2_begin (nx := 38) rfl rfl rfl rfl ?_
          refine ev_gvI f_X2_begin (nx := 41) (w := (gi1 45 5)) rfl (hI.wf.s rfl) rfl rfl ((by rw [e107]; exact x_up2_off (Or.inr (by decide)) : g107 45 5 = g104 45 5).trans ((by rw [e104]; exact x_up2_off (Or.inr (by decide)) : g104 45 5 = g99 45 5).trans ((by rw [e99]; exact x_up2_off (Or.inl (by decide)) : g99 45 5 = gi1 45 5).trans rfl))) rfl ?_
          refine ev_loc f_X2_begin (nx := 42) rfl rfl rfl rfl ?_
          refine ev_getR f_X2_begin (nx := 45) rfl (hI.wf.s rfl) rfl rfl (hI.wf.r rfl) rfl rfl ?_
          refine ev_loc f_X2_begin (nx := 46) rfl rfl rfl rfl ?_
          refine ev_ialdT f_X2_begin (nx := 47) rfl (hI.wf.s rfl) l64 (by decide) u1 (by decide) rfl (fun w108 e108 => ?_)
          refine ev_anyI f_X2_begin (nx := 48) rfl rfl rfl rfl (fun z109 => ?_)
          refine ev_loc f_X2_begin (nx := 49) rfl rfl rfl rfl ?_
          refine ev_getR f_X2_begin (nx := 52) rfl (hI.wf.s rfl) rfl rfl (hI.wf.r rfl) rfl rfl ?_
          refine ev_loc f_X2_begin (nx := 53) rfl rfl rfl rfl ?_
          refine ev_ialdT f_X2_begin (nx := 54) rfl (hI.wf.s rfl) l64 (by decide) u1 (by decide) rfl (fun w110 e110 => ?_)
          refine ev_anyI f_X2_begin (nx := 55) rfl rfl rfl rfl (fun z111 => ?_)
          refine ev_anyI f_X2_begin (nx := 56) rfl rfl rfl rfl (fun z112 => ?_)
          refine ev_putIT f_X2_begin (nx := 59) rfl (hI.wf.s rfl) rfl rfl rfl (hI.put0 (hI.wf.s rfl) rfl rfl) (hX.upI rfl) (fun g113 e113 hI hX => ?_)
          refine ev_retK0 f_X2_begin rfl rfl rfl ?_
          refine ev_jmp f_X2_beginNext (nx := 116) rfl rfl rfl ?_
          exact ev_ret f_X2_beginNext rfl rfl rfl ⟨_, _, _, rfl, hI, hX, rfl⟩
noncomputable def wl_addStep : List (Nat × Nat) := [(116, 3), (130, 9999)]
theorem c_addStep {X : x_Ext} {d : Nat} {sh : List (Nat ⊕ (Nat × Nat))} {gi : Nat → Nat → Int32} {gl : Nat → Nat → Int64} {gr : Nat → Nat → Value} (hI : t_I sh gi gr) (ar0 : Nat) (p_a0 : t_Ru sh gr ar0) (ar1 : Int32) (ar2 : Int32) (ar3 : Int32) : x_Me X (d + 1) n_X7_addStep [.ref ar0, .int ar1, .int ar2, .int ar3] (sh, gi, gl, gr) (t_P wl_addStep sh gi gl gr t_Rn) := by
  have hX : t_X wl_addStep sh gi gl gr gi gl gr := t_X.rf
  refine me_i f_X7_addStep p_a0.1 rfl rfl rfl ?_
  refine ev_loc f_X7_addStep (nx := 1) rfl rfl rfl rfl ?_
  obtain ⟨hk1, d1, r1_1, r2_1, s1_1, s2_1, n1, hn1, r4_1, r5_1, r6_1, s4_1, s5_1, s6_1⟩ := id p_a0
  have q2 := hI.2.2.2.2.1 ar0 n1 p_a0 s4_1
  refine ev_getI f_X7_addStep (nx := 4) rfl p_a0.1 rfl rfl rfl ?_
  obtain ⟨l3, u3⟩ := hI.b p_a0.1 (t_bdK rfl : t_bd 6 3 = some (0, 300))
  refine ev_loc f_X7_addStep (nx := 5) rfl rfl rfl rfl ?_
  refine ev_getR f_X7_addStep (nx := 8) (v := .ref (ar0 + 3)) rfl p_a0.1 rfl rfl r4_1 rfl rfl ?_
  obtain ⟨l4, u4⟩ := t_lenb hn1
  refine ev_alen f_X7_addStep (nx := 9) rfl s4_1 rfl rfl ?_
  refine ev_if f_X7_addStep (t1 := 52) (t2 := 12) rfl rfl rfl (fun h5 => ?_) (fun h5 => ?_)
  · exact ev_ret f_X7_addStep rfl rfl rfl ⟨_, _, _, rfl, hI, hX, rfl⟩
  · have u6 : (gi ar0 3).toInt ≤ 299 := t_ltu (t_nle h5) u4 rfl
    have l7 : 1 ≤ (Int32.ofNat n1).toInt := t_ltl (t_nle h5) l3 rfl
    refine ev_loc f_X7_addStep (nx := 13) rfl rfl rfl rfl ?_
    refine ev_getR f_X7_addStep (nx := 16) (v := .ref (ar0 + 3)) rfl p_a0.1 rfl rfl r4_1 rfl rfl ?_
    refine ev_loc f_X7_addStep (nx := 17) rfl rfl rfl rfl ?_
    refine ev_gvI f_X7_addStep (nx := 20) (w := (gi ar0 3)) rfl p_a0.1 rfl rfl rfl rfl ?_
    refine ev_loc f_X7_addStep (nx := 21) rfl rfl rfl rfl ?_
    refine ev_iastS f_X7_addStep (nx := 22) rfl s4_1 (t_ixs l3 (t_lenlt (t_nle h5) hn1)) rfl (hI.astD s4_1 (by omega) (fun k hk e => absurd e (t_Ru.ne p_a0 hk (by decide)))) (hX.upI (t_inOD s4_1 (by omega) rfl)) (fun g8 e8 hI hX => ?_)
    refine ev_loc f_X7_addStep (nx := 23) rfl rfl rfl rfl ?_
    refine ev_getR f_X7_addStep (nx := 26) (v := .ref (ar0 + 4)) rfl p_a0.1 rfl rfl r5_1 rfl rfl ?_
    refine ev_loc f_X7_addStep (nx := 27) rfl rfl rfl rfl ?_
    refine ev_gvI f_X7_addStep (nx := 30) (w := (gi ar0 3)) rfl p_a0.1 rfl rfl ((by rw [e8]; exact x_up2_off (Or.inl (t_noobj s4_1 p_a0.1)) : g8 ar0 3 = gi ar0 3).trans rfl) rfl ?_
    refine ev_loc f_X7_addStep (nx := 31) rfl rfl rfl rfl ?_
    refine ev_iastS f_X7_addStep (nx := 32) rfl s5_1 (t_ixs l3 (t_lenlt (t_nle h5) hn1)) rfl (hI.astD s5_1 (by omega) (fun k hk e => absurd e (t_Ru.ne p_a0 hk (by decide)))) (hX.upI (t_inOD s5_1 (by omega) rfl)) (fun g9 e9 hI hX => ?_)
    refine ev_loc f_X7_addStep (nx := 33) rfl rfl rfl rfl ?_
    refine ev_getR f_X7_addStep (nx := 36) (v := .ref (ar0 + 5)) rfl p_a0.1 rfl rfl r6_1 rfl rfl ?_
    refine ev_loc f_X7_addStep (nx := 37) rfl rfl rfl rfl ?_
    refine ev_gvI f_X7_addStep (nx := 40) (w := (gi ar0 3)) rfl p_a0.1 rfl rfl ((by rw [e9]; exact x_up2_off (Or.inl (t_noobj s5_1 p_a0.1)) : g9 ar0 3 = g8 ar0 3).trans ((by rw [e8]; exact x_up2_off (Or.inl (t_noobj s4_1 p_a0.1)) : g8 ar0 3 = gi ar0 3).trans rfl)) rfl ?_
    refine ev_loc f_X7_addStep (nx := 41) rfl rfl rfl rfl ?_
    refine ev_iastS f_X7_addStep (nx := 42) rfl s6_1 (t_ixs l3 (t_lenlt (t_nle h5) hn1)) rfl (hI.astD s6_1 (by omega) (fun k hk e => absurd e (t_Ru.ne p_a0 hk (by decide)))) (hX.upI (t_inOD s6_1 (by omega) rfl)) (fun g10 e10 hI hX => ?_)
    refine ev_loc f_X7_addStep (nx := 43) rfl rfl rfl rfl ?_
    refine ev_alu f_X7_addStep (nx := 44) rfl rfl rfl rfl ?_
    refine ev_gvI f_X7_addStep (nx := 47) (w := (gi ar0 3)) rfl p_a0.1 rfl rfl ((by rw [e10]; exact x_up2_off (Or.inl (t_noobj s6_1 p_a0.1)) : g10 ar0 3 = g9 ar0 3).trans ((by rw [e9]; exact x_up2_off (Or.inl (t_noobj s5_1 p_a0.1)) : g9 ar0 3 = g8 ar0 3).trans ((by rw [e8]; exact x_up2_off (Or.inl (t_noobj s4_1 p_a0.1)) : g8 ar0 3 = gi ar0 3).trans rfl))) rfl ?_
    refine ev_ic f_X7_addStep (nx := 48) (v := 1) rfl (by decide) rfl ?_
    refine ev_addC f_X7_addStep (nx := 49) (c := 1) (l := 1) (u := 300) rfl (by decide) l3 u6 rfl rfl (by decide) (by decide) rfl (fun z11 e11 l11 u11 => ?_)
    have q12 := t_lenlt (t_nle h5) hn1
    refine ev_putIT f_X7_addStep (nx := 52) rfl p_a0.1 rfl rfl rfl (hI.putG p_a0.1 (fun lo hi e => by have e : some ((0 : Int), (300 : Int)) = some (lo, hi) := e; have := hn1; cases e; exact ⟨by omega, by omega⟩) (fun _ _ n2 hn2 => by rw [s4_1] at hn2; cases hn2; omega)) (hX.upI (t_inO hI.wf p_a0.1 (t_outO hI.wf p_a0.1 rfl) rfl)) (fun g12 e12 hI hX => ?_)
    exact ev_ret f_X7_addStep rfl rfl rfl ⟨_, _, _, rfl, hI, hX, rfl⟩
noncomputable def wl_endRule : List (Nat × Nat) := [(116, 0), (130, 9999)]
theorem c_endRule {X : x_Ext} {d : Nat} {sh : List (Nat ⊕ (Nat × Nat))} {gi : Nat → Nat → Int32} {gl : Nat → Nat → Int64} {gr : Nat → Nat → Value} (hI : t_I sh gi gr) (ar0 : Nat) (p_a0 : t_Ru sh gr ar0) (ar1 : Int32) : x_Me X (d + 1) n_X7_endRule [.ref ar0, .int ar1] (sh, gi, gl, gr) (t_P wl_endRule sh gi gl gr t_Rn) := by
  have hX : t_X wl_endRule sh gi gl gr gi gl gr := t_X.rf
  refine me_i f_X7_endRule p_a0.1 rfl rfl rfl ?_
  refine ev_loc f_X7_endRule (nx := 1) rfl rfl rfl rfl ?_
  refine ev_getI f_X7_endRule (nx := 4) rfl p_a0.1 rfl rfl rfl ?_
  obtain ⟨l1, u1⟩ := hI.b p_a0.1 (t_bdK rfl : t_bd 6 0 = some (0, 12))
  refine ev_bp f_X7_endRule (nx := 6) (v := 12) rfl (by decide) rfl ?_
  refine ev_if f_X7_endRule (t1 := 42) (t2 := 9) rfl rfl rfl (fun h2 => ?_) (fun h2 => ?_)
  · have l3 : 12 ≤ (gi ar0 0).toInt := t_lel h2 (by decide : (12:Int) ≤ (12:Int32).toInt)
    exact ev_ret f_X7_endRule rfl rfl rfl ⟨_, _, _, rfl, hI, hX, rfl⟩
  · have u4 : (gi ar0 0).toInt ≤ 11 := t_ltu (t_nle h2) (by decide : (12:Int32).toInt ≤ (12:Int)) rfl
    refine ev_loc f_X7_endRule (nx := 10) rfl rfl rfl rfl ?_
    obtain ⟨hk6, d6, r1_6, r2_6, s1_6, s2_6, n6, hn6, r4_6, r5_6, r6_6, s4_6, s5_6, s6_6⟩ := id p_a0
    refine ev_getR f_X7_endRule (nx := 13) (v := .ref (ar0 + 1)) rfl p_a0.1 rfl rfl r1_6 rfl rfl ?_
    refine ev_loc f_X7_endRule (nx := 14) rfl rfl rfl rfl ?_
    refine ev_gvI f_X7_endRule (nx := 17) (w := (gi ar0 0)) rfl p_a0.1 rfl rfl rfl rfl ?_
    refine ev_loc f_X7_endRule (nx := 18) rfl rfl rfl rfl ?_
    refine ev_iastT f_X7_endRule (nx := 19) rfl s1_6 l1 (by decide) u4 (by decide) rfl (hI.astD s1_6 (by omega) (fun k hk e => absurd e (t_Ru.ne p_a0 hk (by decide)))) (hX.upI (t_inOA hI.wf s1_6 (Or.inr (by omega)) rfl)) (fun g7 e7 hI hX => ?_)
    refine ev_loc f_X7_endRule (nx := 20) rfl rfl rfl rfl ?_
    refine ev_getR f_X7_endRule (nx := 23) (v := .ref (ar0 + 2)) rfl p_a0.1 rfl rfl r2_6 rfl rfl ?_
    refine ev_loc f_X7_endRule (nx := 24) rfl rfl rfl rfl ?_
    refine ev_gvI f_X7_endRule (nx := 27) (w := (gi ar0 0)) rfl p_a0.1 rfl rfl ((by rw [e7]; exact x_up2_off (Or.inl (t_noobj s1_6 p_a0.1)) : g7 ar0 0 = gi ar0 0).trans rfl) rfl ?_
    refine ev_loc f_X7_endRule (nx := 28) rfl rfl rfl rfl ?_
    have q8 := hI.2.2.2.2.1 ar0 n6 p_a0 s4_6
    refine ev_getI f_X7_endRule (nx := 31) rfl p_a0.1 rfl rfl rfl ?_
    obtain ⟨l9, u9⟩ := hI.b p_a0.1 (t_bdK rfl : t_bd 6 3 = some (0, 300))
    refine ev_iastT f_X7_endRule (nx := 32) rfl s2_6 l1 (by decide) u4 (by decide) rfl (hI.astD s2_6 (by omega) (fun k hk e => l9)) (hX.upI (t_inOA hI.wf s2_6 (Or.inr (by omega)) rfl)) (fun g10 e10 hI hX => ?_)
    refine ev_loc f_X7_endRule (nx := 33) rfl rfl rfl rfl ?_
    refine ev_alu f_X7_endRule (nx := 34) rfl rfl rfl rfl ?_
    refine ev_gvI f_X7_endRule (nx := 37) (w := (gi ar0 0)) rfl p_a0.1 rfl rfl ((by rw [e10]; exact x_up2_off (Or.inl (t_noobj s2_6 p_a0.1)) : g10 ar0 0 = g7 ar0 0).trans ((by rw [e7]; exact x_up2_off (Or.inl (t_noobj s1_6 p_a0.1)) : g7 ar0 0 = gi ar0 0).trans rfl)) rfl ?_
    refine ev_ic f_X7_endRule (nx := 38) (v := 1) rfl (by decide) rfl ?_
    refine ev_addC f_X7_endRule (nx := 39) (c := 1) (l := 1) (u := 12) rfl (by decide) l1 u4 rfl rfl (by decide) (by decide) rfl (fun z11 e11 l11 u11 => ?_)
    refine ev_putIT f_X7_endRule (nx := 42) rfl p_a0.1 rfl rfl rfl (hI.putB p_a0.1 rfl rfl l11 (by decide) u11 (by decide)) (hX.upI (t_inO hI.wf p_a0.1 (t_outO hI.wf p_a0.1 rfl) rfl)) (fun g12 e12 hI hX => ?_)
    exact ev_ret f_X7_endRule rfl rfl rfl ⟨_, _, _, rfl, hI, hX, rfl⟩
noncomputable def wl_compares : List (Nat × Nat) := []
theorem c_compares {X : x_Ext} {d : Nat} {sh : List (Nat ⊕ (Nat × Nat))} {gi : Nat → Nat → Int32} {gl : Nat → Nat → Int64} {gr : Nat → Nat → Value} (hI : t_I sh gi gr) (ar0 : Nat) (p_a0 : t_Ru sh gr ar0) (ar1 : Int32) : x_Me X (d + 1) n_X7_compares [.ref ar0, .int ar1, .ref 59] (sh, gi, gl, gr) (t_P wl_compares sh gi gl gr (t_Ri 0 1)) := by
  have hX : t_X wl_compares sh gi gl gr gi gl gr := t_X.rf
  refine me_i f_X7_compares p_a0.1 rfl rfl rfl ?_
  refine ev_loc f_X7_compares (nx := 1) rfl rfl rfl rfl ?_
  refine ev_if f_X7_compares (t1 := 32) (t2 := 4) rfl rfl rfl (fun h1 => ?_) (fun h1 => ?_)
  · have u2 : ar1.toInt ≤ (-1) := t_ltu h1 (by decide : (0:Int32).toInt ≤ (0:Int)) rfl
    refine ev_ic f_X7_compares (nx := 33) (v := 0) rfl (by decide) rfl ?_
    exact ev_ret f_X7_compares rfl rfl rfl ⟨_, _, _, rfl, hI, hX, ⟨_, rfl, (by decide : (0:Int) ≤ (0:Int32).toInt), (Int.le_trans (by decide : (0:Int32).toInt ≤ (0:Int)) (by decide : (0:Int) ≤ 1))⟩⟩
  · have l3 : 0 ≤ ar1.toInt := t_lel (t_nlt h1) (by decide : (0:Int) ≤ (0:Int32).toInt)
    refine ev_loc f_X7_compares (nx := 5) rfl rfl rfl rfl ?_
    refine ev_loc f_X7_compares (nx := 6) rfl rfl rfl rfl ?_
    obtain ⟨hk4, d4, r1_4, r2_4, s1_4, s2_4, n4, hn4, r4_4, r5_4, r6_4, s4_4, s5_4, s6_4⟩ := id p_a0
    have q5 := hI.2.2.2.2.1 ar0 n4 p_a0 s4_4
    refine ev_getI f_X7_compares (nx := 9) rfl p_a0.1 rfl rfl rfl ?_
    obtain ⟨l6, u6⟩ := hI.b p_a0.1 (t_bdK rfl : t_bd 6 3 = some (0, 300))
    refine ev_if f_X7_compares (t1 := 32) (t2 := 12) rfl rfl rfl (fun h7 => ?_) (fun h7 => ?_)
    · refine ev_ic f_X7_compares (nx := 33) (v := 0) rfl (by decide) rfl ?_
      exact ev_ret f_X7_compares rfl rfl rfl ⟨_, _, _, rfl, hI, hX, ⟨_, rfl, (by decide : (0:Int) ≤ (0:Int32).toInt), (Int.le_trans (by decide : (0:Int32).toInt ≤ (0:Int)) (by decide : (0:Int) ≤ 1))⟩⟩
    · have u8 : ar1.toInt ≤ 299 := t_ltu (t_nle h7) u6 rfl
      have l9 : 1 ≤ (gi ar0 3).toInt := t_ltl (t_nle h7) l3 rfl
      refine ev_loc f_X7_compares (nx := 13) rfl rfl rfl rfl ?_
      refine ev_getR f_X7_compares (nx := 16) (v := .ref (ar0 + 4)) rfl p_a0.1 rfl rfl r5_4 rfl rfl ?_
      refine ev_loc f_X7_compares (nx := 17) rfl rfl rfl rfl ?_
      refine ev_ialdS f_X7_compares (nx := 18) rfl s5_4 (t_ixs l3 (t_stl (t_nle h7) q5)) rfl (fun w10 e10 => ?_)
      refine ev_if f_X7_compares (t1 := 32) (t2 := 21) rfl rfl rfl (fun h11 => ?_) (fun h11 => ?_)
      · have u12 : w10.toInt ≤ (-1) := t_ltu h11 (by decide : (0:Int32).toInt ≤ (0:Int)) rfl
        refine ev_ic f_X7_compares (nx := 33) (v := 0) rfl (by decide) rfl ?_
        exact ev_ret f_X7_compares rfl rfl rfl ⟨_, _, _, rfl, hI, hX, ⟨_, rfl, (by decide : (0:Int) ≤ (0:Int32).toInt), (Int.le_trans (by decide : (0:Int32).toInt ≤ (0:Int)) (by decide : (0:Int) ≤ 1))⟩⟩
      · have l13 : 0 ≤ w10.toInt := t_lel (t_nlt h11) (by decide : (0:Int) ≤ (0:Int32).toInt)
        refine ev_loc f_X7_compares (nx := 22) rfl rfl rfl rfl ?_
        refine ev_getR f_X7_compares (nx := 25) (v := .ref (ar0 + 4)) rfl p_a0.1 rfl rfl r5_4 rfl rfl ?_
        refine ev_loc f_X7_compares (nx := 26) rfl rfl rfl rfl ?_
        refine ev_ialdS f_X7_compares (nx := 27) rfl s5_4 (t_ixs l3 (t_stl (t_nle h7) q5)) rfl (fun w14 e14 => ?_)
        rw [e14.trans e10.symm]
        refine ev_loc f_X7_compares (nx := 28) rfl rfl rfl rfl ?_
        refine ev_alenv f_X7_compares (nx := 29) (w := 6) rfl (hI.wf.s rfl) rfl (by decide) rfl ?_
        refine ev_if f_X7_compares (t1 := 34) (t2 := 32) rfl rfl rfl (fun h15 => ?_) (fun h15 => ?_)
        · have u16 : w10.toInt ≤ 5 := t_ltu h15 (by decide : (6:Int32).toInt ≤ (6:Int)) rfl
          refine ev_loc f_X7_compares (nx := 35) rfl rfl rfl rfl ?_
          refine ev_loc f_X7_compares (nx := 36) rfl rfl rfl rfl ?_
          refine ev_getR f_X7_compares (nx := 39) (v := .ref (ar0 + 4)) rfl p_a0.1 rfl rfl r5_4 rfl rfl ?_
          refine ev_loc f_X7_compares (nx := 40) rfl rfl rfl rfl ?_
          refine ev_ialdS f_X7_compares (nx := 41) rfl s5_4 (t_ixs l3 (t_stl (t_nle h7) q5)) rfl (fun w17 e17 => ?_)
          rw [e17.trans e10.symm]
          refine ev_ialdT f_X7_compares (nx := 42) rfl (hI.wf.s rfl) l13 (by decide) u16 (by decide) rfl (fun w18 e18 => ?_)
          refine ev_loc f_X7_compares (nx := 43) (lo' := [(3, .int w18), (0, .ref ar0), (1, .int ar1), (2, .ref 59)]) rfl rfl rfl rfl ?_
          refine ev_loc f_X7_compares (nx := 44) rfl rfl rfl rfl ?_
          refine ev_getR f_X7_compares (nx := 47) (v := .ref (ar0 + 3)) rfl p_a0.1 rfl rfl r4_4 rfl rfl ?_
          refine ev_loc f_X7_compares (nx := 48) rfl rfl rfl rfl ?_
          refine ev_ialdS f_X7_compares (nx := 49) rfl s4_4 (t_ixs l3 (t_stl (t_nle h7) q5)) rfl (fun w19 e19 => ?_)
          have h20 : w19.toInt = 0 ∨ w19.toInt = 1 ∨ (w19.toInt ≠ 0 ∧ w19.toInt ≠ 1) := by have := (t_lo w19); have := (t_hi w19); omega
          rcases h20 with h20 | h20 | h20
          · refine ev_swl f_X7_compares (nx := 76) (c := 0) rfl h20 rfl ?_
            refine ev_loc f_X7_compares (nx := 77) rfl rfl rfl rfl ?_
            refine ev_loc f_X7_compares (nx := 78) rfl rfl rfl rfl ?_
            refine ev_getR f_X7_compares (nx := 81) (v := .ref (ar0 + 5)) rfl p_a0.1 rfl rfl r6_4 rfl rfl ?_
            refine ev_loc f_X7_compares (nx := 82) rfl rfl rfl rfl ?_
            refine ev_ialdS f_X7_compares (nx := 83) rfl s6_4 (t_ixs l3 (t_stl (t_nle h7) q5)) rfl (fun w21 e21 => ?_)
            refine ev_if f_X7_compares (t1 := 90) (t2 := 86) rfl rfl rfl (fun h22 => ?_) (fun h22 => ?_)
            · refine ev_ic f_X7_compares (nx := 91) (v := 0) rfl (by decide) rfl ?_
              exact ev_ret f_X7_compares rfl rfl rfl ⟨_, _, _, rfl, hI, hX, ⟨_, rfl, (by decide : (0:Int) ≤ (0:Int32).toInt), (Int.le_trans (by decide : (0:Int32).toInt ≤ (0:Int)) (by decide : (0:Int) ≤ 1))⟩⟩
            · have u23 : w18.toInt ≤ 2147483646 := t_ltu (t_nle h22) (t_hi w21) rfl
              have l24 : (-2147483647) ≤ w21.toInt := t_ltl (t_nle h22) (t_lo w18) rfl
              refine ev_ic f_X7_compares (nx := 87) (v := 1) rfl (by decide) rfl ?_
              refine ev_jmp f_X7_compares (nx := 91) rfl rfl rfl ?_
              exact ev_ret f_X7_compares rfl rfl rfl ⟨_, _, _, rfl, hI, hX, ⟨_, rfl, (Int.le_trans (by decide : (0:Int) ≤ 1) (by decide : (1:Int) ≤ (1:Int32).toInt)), (by decide : (1:Int32).toInt ≤ (1:Int))⟩⟩
          · refine ev_swl f_X7_compares (nx := 92) (c := 1) rfl h20 rfl ?_
            refine ev_loc f_X7_compares (nx := 93) rfl rfl rfl rfl ?_
            refine ev_loc f_X7_compares (nx := 94) rfl rfl rfl rfl ?_
            refine ev_getR f_X7_compares (nx := 97) (v := .ref (ar0 + 5)) rfl p_a0.1 rfl rfl r6_4 rfl rfl ?_
            refine ev_loc f_X7_compares (nx := 98) rfl rfl rfl rfl ?_
            refine ev_ialdS f_X7_compares (nx := 99) rfl s6_4 (t_ixs l3 (t_stl (t_nle h7) q5)) rfl (fun w25 e25 => ?_)
            refine ev_if f_X7_compares (t1 := 106) (t2 := 102) rfl rfl rfl (fun h26 => ?_) (fun h26 => ?_)
            · refine ev_ic f_X7_compares (nx := 107) (v := 0) rfl (by decide) rfl ?_
              exact ev_ret f_X7_compares rfl rfl rfl ⟨_, _, _, rfl, hI, hX, ⟨_, rfl, (by decide : (0:Int) ≤ (0:Int32).toInt), (Int.le_trans (by decide : (0:Int32).toInt ≤ (0:Int)) (by decide : (0:Int) ≤ 1))⟩⟩
            · have u27 : w25.toInt ≤ 2147483646 := t_ltu (t_nle h26) (t_hi w18) rfl
              have l28 : (-2147483647) ≤ w18.toInt := t_ltl (t_nle h26) (t_lo w25) rfl
              refine ev_ic f_X7_compares (nx := 103) (v := 1) rfl (by decide) rfl ?_
              refine ev_jmp f_X7_compares (nx := 107) rfl rfl rfl ?_
              exact ev_ret f_X7_compares rfl rfl rfl ⟨_, _, _, rfl, hI, hX, ⟨_, rfl, (Int.le_trans (by decide : (0:Int) ≤ 1) (by decide : (1:Int) ≤ (1:Int32).toInt)), (by decide : (1:Int32).toInt ≤ (1:Int))⟩⟩
          · refine ev_swld f_X7_compares (nx := 108) (ks := [0, 1]) rfl rfl (by decide) (by decide) rfl (by have := (t_lo w19); have := (t_hi w19); intro k hk; simp only [List.mem_cons, List.not_mem_nil, or_false] at hk; omega) ?_
            refine ev_loc f_X7_compares (nx := 109) rfl rfl rfl rfl ?_
            refine ev_loc f_X7_compares (nx := 110) rfl rfl rfl rfl ?_
            refine ev_getR f_X7_compares (nx := 113) (v := .ref (ar0 + 5)) rfl p_a0.1 rfl rfl r6_4 rfl rfl ?_
            refine ev_loc f_X7_compares (nx := 114) rfl rfl rfl rfl ?_
            refine ev_ialdS f_X7_compares (nx := 115) rfl s6_4 (t_ixs l3 (t_stl (t_nle h7) q5)) rfl (fun w29 e29 => ?_)
            refine ev_if f_X7_compares (t1 := 118) (t2 := 122) rfl rfl rfl (fun h30 => ?_) (fun h30 => ?_)
            · refine ev_ic f_X7_compares (nx := 119) (v := 1) rfl (by decide) rfl ?_
              refine ev_jmp f_X7_compares (nx := 123) rfl rfl rfl ?_
              exact ev_ret f_X7_compares rfl rfl rfl ⟨_, _, _, rfl, hI, hX, ⟨_, rfl, (Int.le_trans (by decide : (0:Int) ≤ 1) (by decide : (1:Int) ≤ (1:Int32).toInt)), (by decide : (1:Int32).toInt ≤ (1:Int))⟩⟩
            · refine ev_ic f_X7_compares (nx := 123) (v := 0) rfl (by decide) rfl ?_
              exact ev_ret f_X7_compares rfl rfl rfl ⟨_, _, _, rfl, hI, hX, ⟨_, rfl, (by decide : (0:Int) ≤ (0:Int32).toInt), (Int.le_trans (by decide : (0:Int32).toInt ≤ (0:Int)) (by decide : (0:Int) ≤ 1))⟩⟩
        · have l31 : 6 ≤ w10.toInt := t_lel (t_nlt h15) (by decide : (6:Int) ≤ (6:Int32).toInt)
          refine ev_ic f_X7_compares (nx := 33) (v := 0) rfl (by decide) rfl ?_
          exact ev_ret f_X7_compares rfl rfl rfl ⟨_, _, _, rfl, hI, hX, ⟨_, rfl, (by decide : (0:Int) ≤ (0:Int32).toInt), (Int.le_trans (by decide : (0:Int32).toInt ≤ (0:Int)) (by decide : (0:Int) ≤ 1))⟩⟩
noncomputable def wl_holds : List (Nat × Nat) := []
theorem c_holds {X : x_Ext} {d : Nat} {sh : List (Nat ⊕ (Nat × Nat))} {gi : Nat → Nat → Int32} {gl : Nat → Nat → Int64} {gr : Nat → Nat → Value} (hI : t_I sh gi gr) (ar0 : Nat) (p_a0 : t_Ru sh gr ar0) (ar1 : Int32) (l_a1 : 0 ≤ ar1.toInt) (ar2 : Int32) : x_Me X (d + 2) n_X7_holds [.ref ar0, .int ar1, .int ar2, .ref 59] (sh, gi, gl, gr) (t_P wl_holds sh gi gl gr (t_Ri 0 1)) := by
  have hX : t_X wl_holds sh gi gl gr gi gl gr := t_X.rf
  refine me_i f_X7_holds p_a0.1 rfl rfl rfl ?_
  refine ev_lc f_X7_holds (nx := 1) (v := 0) rfl (by decide) rfl ?_
  refine ev_loc f_X7_holds (nx := 3) (lo' := [(4, .long 0), (0, .ref ar0), (1, .int ar1), (2, .int ar2), (3, .ref 59)]) rfl rfl rfl rfl ?_
  refine ev_loc f_X7_holds (nx := 4) rfl rfl rfl rfl ?_
  refine ev_loc f_X7_holds (nx := 6) (lo' := [(6, .int ar1), (4, .long 0), (0, .ref ar0), (1, .int ar1), (2, .int ar2), (3, .ref 59)]) rfl rfl rfl rfl ?_
  have L1 : ∀ (m1 : Nat) (gi1 : Nat → Nat → Int32) (gl1 : Nat → Nat → Int64) (gr1 : Nat → Nat → Value) (y1_6 : Int32) (y1_4 : Int64), t_I sh gi1 gr1 → t_X wl_holds sh gi gl gr gi1 gl1 gr1 → t_Ru sh gr1 ar0 → 0 ≤ y1_6.toInt → (2147483647 - y1_6.toInt).toNat = m1 → x_Ev X (d + 2) n_X7_holds 6 [(6, .int y1_6), (4, .long y1_4), (0, .ref ar0), (1, .int ar1), (2, .int ar2), (3, .ref 59)] [] (sh, gi1, gl1, gr1) (t_P wl_holds sh gi gl gr (t_Ri 0 1)) := by
    intro m1
    induction m1 using Nat.strongRecOn with
    | _ m1 ih1 =>
    intro gi1 gl1 gr1 y1_6 y1_4 hI hX p_a0 l1_6 hm1
    refine ev_loc f_X7_holds (nx := 8) rfl rfl rfl rfl ?_
    refine ev_loc f_X7_holds (nx := 9) rfl rfl rfl rfl ?_
    refine ev_if f_X7_holds (t1 := 124) (t2 := 12) rfl rfl rfl (fun h2 => ?_) (fun h2 => ?_)
    · refine ev_loc f_X7_holds (nx := 126) rfl rfl rfl rfl ?_
      refine ev_lc f_X7_holds (nx := 127) (v := 1) rfl (by decide) rfl ?_
      refine ev_anyL f_X7_holds (nx := 128) rfl rfl rfl rfl (fun z3 => ?_)
      refine ev_lc f_X7_holds (nx := 129) (v := 1) rfl (by decide) rfl ?_
      refine ev_anyI f_X7_holds (nx := 130) rfl rfl rfl rfl (fun z4 => ?_)
      refine ev_if f_X7_holds (t1 := 133) (t2 := 137) rfl rfl rfl (fun h5 => ?_) (fun h5 => ?_)
      · have u6 : z4.toInt ≤ 0 := t_equ h5 (by decide : (0:Int32).toInt ≤ (0:Int))
        have l7 : 0 ≤ z4.toInt := t_eql h5 (by decide : (0:Int) ≤ (0:Int32).toInt)
        refine ev_ic f_X7_holds (nx := 134) (v := 1) rfl (by decide) rfl ?_
        refine ev_jmp f_X7_holds (nx := 138) rfl rfl rfl ?_
        exact ev_ret f_X7_holds rfl rfl rfl ⟨_, _, _, rfl, hI, hX, ⟨_, rfl, (Int.le_trans (by decide : (0:Int) ≤ 1) (by decide : (1:Int) ≤ (1:Int32).toInt)), (by decide : (1:Int32).toInt ≤ (1:Int))⟩⟩
      · refine ev_ic f_X7_holds (nx := 138) (v := 0) rfl (by decide) rfl ?_
        exact ev_ret f_X7_holds rfl rfl rfl ⟨_, _, _, rfl, hI, hX, ⟨_, rfl, (by decide : (0:Int) ≤ (0:Int32).toInt), (Int.le_trans (by decide : (0:Int32).toInt ≤ (0:Int)) (by decide : (0:Int) ≤ 1))⟩⟩
    · have u8 : y1_6.toInt ≤ 2147483646 := t_ltu (t_nle h2) (t_hi ar2) rfl
      have l9 : 1 ≤ ar2.toInt := t_ltl (t_nle h2) l1_6 rfl
      refine ev_loc f_X7_holds (nx := 14) rfl rfl rfl rfl ?_
      refine ev_loc f_X7_holds (nx := 15) rfl rfl rfl rfl ?_
      obtain ⟨hk10, d10, r1_10, r2_10, s1_10, s2_10, n10, hn10, r4_10, r5_10, r6_10, s4_10, s5_10, s6_10⟩ := id p_a0
      have q11 := hI.2.2.2.2.1 ar0 n10 p_a0 s4_10
      refine ev_getI f_X7_holds (nx := 18) rfl p_a0.1 rfl rfl rfl ?_
      obtain ⟨l12, u12⟩ := hI.b p_a0.1 (t_bdK rfl : t_bd 6 3 = some (0, 300))
      refine ev_if f_X7_holds (t1 := 124) (t2 := 21) rfl rfl rfl (fun h13 => ?_) (fun h13 => ?_)
      · refine ev_loc f_X7_holds (nx := 126) rfl rfl rfl rfl ?_
        refine ev_lc f_X7_holds (nx := 127) (v := 1) rfl (by decide) rfl ?_
        refine ev_anyL f_X7_holds (nx := 128) rfl rfl rfl rfl (fun z14 => ?_)
        refine ev_lc f_X7_holds (nx := 129) (v := 1) rfl (by decide) rfl ?_
        refine ev_anyI f_X7_holds (nx := 130) rfl rfl rfl rfl (fun z15 => ?_)
        refine ev_if f_X7_holds (t1 := 133) (t2 := 137) rfl rfl rfl (fun h16 => ?_) (fun h16 => ?_)
        · have u17 : z15.toInt ≤ 0 := t_equ h16 (by decide : (0:Int32).toInt ≤ (0:Int))
          have l18 : 0 ≤ z15.toInt := t_eql h16 (by decide : (0:Int) ≤ (0:Int32).toInt)
          refine ev_ic f_X7_holds (nx := 134) (v := 1) rfl (by decide) rfl ?_
          refine ev_jmp f_X7_holds (nx := 138) rfl rfl rfl ?_
          exact ev_ret f_X7_holds rfl rfl rfl ⟨_, _, _, rfl, hI, hX, ⟨_, rfl, (Int.le_trans (by decide : (0:Int) ≤ 1) (by decide : (1:Int) ≤ (1:Int32).toInt)), (by decide : (1:Int32).toInt ≤ (1:Int))⟩⟩
        · refine ev_ic f_X7_holds (nx := 138) (v := 0) rfl (by decide) rfl ?_
          exact ev_ret f_X7_holds rfl rfl rfl ⟨_, _, _, rfl, hI, hX, ⟨_, rfl, (by decide : (0:Int) ≤ (0:Int32).toInt), (Int.le_trans (by decide : (0:Int32).toInt ≤ (0:Int)) (by decide : (0:Int) ≤ 1))⟩⟩
      · have u19 : y1_6.toInt ≤ 299 := t_ltu (t_nle h13) u12 rfl
        have l20 : 1 ≤ (gi1 ar0 3).toInt := t_ltl (t_nle h13) l1_6 rfl
        refine ev_loc f_X7_holds (nx := 23) rfl rfl rfl rfl ?_
        refine ev_ic f_X7_holds (nx := 24) (v := 1) rfl (by decide) rfl ?_
        refine ev_anyL f_X7_holds (nx := 25) rfl rfl rfl rfl (fun z21 => ?_)
        refine ev_loc f_X7_holds (nx := 27) (lo' := [(7, .long z21), (6, .int y1_6), (4, .long y1_4), (0, .ref ar0), (1, .int ar1), (2, .int ar2), (3, .ref 59)]) rfl rfl rfl rfl ?_
        refine ev_loc f_X7_holds (nx := 28) rfl rfl rfl rfl ?_
        refine ev_getR f_X7_holds (nx := 31) (v := .ref (ar0 + 3)) rfl p_a0.1 rfl rfl r4_10 rfl rfl ?_
        refine ev_loc f_X7_holds (nx := 33) rfl rfl rfl rfl ?_
        refine ev_ialdS f_X7_holds (nx := 34) rfl s4_10 (t_ixs l1_6 (t_stl (t_nle h13) q11)) rfl (fun w22 e22 => ?_)
        have h23 : w22.toInt = 3 ∨ w22.toInt = 4 ∨ w22.toInt = 5 ∨ (w22.toInt ≠ 3 ∧ w22.toInt ≠ 4 ∧ w22.toInt ≠ 5) := by have := (t_lo w22); have := (t_hi w22); omega
        rcases h23 with h23 | h23 | h23 | h23
        · refine ev_swt f_X7_holds (nx := 60) (c := 3) rfl h23 rfl ?_
          refine ev_loc f_X7_holds (nx := 62) rfl rfl rfl rfl ?_
          refine ev_lc f_X7_holds (nx := 63) (v := 1) rfl (by decide) rfl ?_
          refine ev_anyL f_X7_holds (nx := 64) rfl rfl rfl rfl (fun z24 => ?_)
          refine ev_loc f_X7_holds (nx := 66) (lo' := [(4, .long z24), (7, .long z21), (6, .int y1_6), (0, .ref ar0), (1, .int ar1), (2, .int ar2), (3, .ref 59)]) rfl rfl rfl rfl ?_
          refine ev_jmp f_X7_holds (nx := 118) rfl rfl rfl ?_
          refine ev_incR f_X7_holds (nx := 121) (c := 1) (l := 1) (u := 300) rfl rfl (by decide) (by decide) l1_6 u19 rfl rfl (by decide) (by decide) rfl (fun z25 e25 l25 u25 => ?_)
          refine ev_jmp f_X7_holds (nx := 6) rfl rfl rfl ?_
          refine ev_sub (lo := [(6, .int z25), (4, .long z24), (0, .ref ar0), (1, .int ar1), (2, .int ar2), (3, .ref 59)]) rfl (t_sc rfl (t_sc rfl (t_sc rfl (t_sc rfl (t_sc rfl (t_sc rfl t_sn)))))) ?_
          exact ih1 _ (by omega) gi1 gl1 gr1 (z25) (z24) hI hX p_a0 (Int.le_trans (by decide : (0:Int) ≤ 1) l25) rfl
        · refine ev_swt f_X7_holds (nx := 69) (c := 4) rfl h23 rfl ?_
          refine ev_loc f_X7_holds (nx := 71) rfl rfl rfl rfl ?_
          refine ev_loc f_X7_holds (nx := 73) rfl rfl rfl rfl ?_
          refine ev_ldL f_X7_holds (nx := 76) (v := -2) rfl (by decide) rfl ?_
          refine ev_anyL f_X7_holds (nx := 77) rfl rfl rfl rfl (fun z26 => ?_)
          refine ev_anyL f_X7_holds (nx := 78) rfl rfl rfl rfl (fun z27 => ?_)
          refine ev_loc f_X7_holds (nx := 80) (lo' := [(4, .long z27), (7, .long z21), (6, .int y1_6), (0, .ref ar0), (1, .int ar1), (2, .int ar2), (3, .ref 59)]) rfl rfl rfl rfl ?_
          refine ev_jmp f_X7_holds (nx := 118) rfl rfl rfl ?_
          refine ev_incR f_X7_holds (nx := 121) (c := 1) (l := 1) (u := 300) rfl rfl (by decide) (by decide) l1_6 u19 rfl rfl (by decide) (by decide) rfl (fun z28 e28 l28 u28 => ?_)
          refine ev_jmp f_X7_holds (nx := 6) rfl rfl rfl ?_
          refine ev_sub (lo := [(6, .int z28), (4, .long z27), (0, .ref ar0), (1, .int ar1), (2, .int ar2), (3, .ref 59)]) rfl (t_sc rfl (t_sc rfl (t_sc rfl (t_sc rfl (t_sc rfl (t_sc rfl t_sn)))))) ?_
          exact ih1 _ (by omega) gi1 gl1 gr1 (z28) (z27) hI hX p_a0 (Int.le_trans (by decide : (0:Int) ≤ 1) l28) rfl
        · refine ev_swt f_X7_holds (nx := 83) (c := 5) rfl h23 rfl ?_
          refine ev_loc f_X7_holds (nx := 85) rfl rfl rfl rfl ?_
          refine ev_loc f_X7_holds (nx := 87) rfl rfl rfl rfl ?_
          refine ev_lc f_X7_holds (nx := 88) (v := 1) rfl (by decide) rfl ?_
          refine ev_anyL f_X7_holds (nx := 89) rfl rfl rfl rfl (fun z29 => ?_)
          refine ev_anyL f_X7_holds (nx := 90) rfl rfl rfl rfl (fun z30 => ?_)
          refine ev_loc f_X7_holds (nx := 92) (lo' := [(4, .long z30), (7, .long z21), (6, .int y1_6), (0, .ref ar0), (1, .int ar1), (2, .int ar2), (3, .ref 59)]) rfl rfl rfl rfl ?_
          refine ev_jmp f_X7_holds (nx := 118) rfl rfl rfl ?_
          refine ev_incR f_X7_holds (nx := 121) (c := 1) (l := 1) (u := 300) rfl rfl (by decide) (by decide) l1_6 u19 rfl rfl (by decide) (by decide) rfl (fun z31 e31 l31 u31 => ?_)
          refine ev_jmp f_X7_holds (nx := 6) rfl rfl rfl ?_
          refine ev_sub (lo := [(6, .int z31), (4, .long z30), (0, .ref ar0), (1, .int ar1), (2, .int ar2), (3, .ref 59)]) rfl (t_sc rfl (t_sc rfl (t_sc rfl (t_sc rfl (t_sc rfl (t_sc rfl t_sn)))))) ?_
          exact ih1 _ (by omega) gi1 gl1 gr1 (z31) (z30) hI hX p_a0 (Int.le_trans (by decide : (0:Int) ≤ 1) l31) rfl
        · refine ev_swtd f_X7_holds (nx := 95) rfl (by omega) (by decide) rfl ?_
          refine ev_loc f_X7_holds (nx := 97) rfl rfl rfl rfl ?_
          refine ev_ic f_X7_holds (nx := 98) (v := 1) rfl (by decide) rfl ?_
          refine ev_anyL f_X7_holds (nx := 99) rfl rfl rfl rfl (fun z32 => ?_)
          refine ev_loc f_X7_holds (nx := 100) rfl rfl rfl rfl ?_
          refine ev_loc f_X7_holds (nx := 102) rfl rfl rfl rfl ?_
          refine ev_loc f_X7_holds (nx := 103) rfl rfl rfl rfl ?_
          refine ev_cI f_X7_holds (nx := 106) (r := [.long z32]) rfl rfl rfl rfl rfl rfl rfl (c_compares hI (ar0) p_a0 (y1_6)) rfl hX rfl (fun w33 gi33 gl33 gr33 l33 u33 hI hX hC33 => ?_)
          replace p_a0 := p_a0.ext hC33.2
          refine ev_if f_X7_holds (t1 := 113) (t2 := 109) rfl rfl rfl (fun h34 => ?_) (fun h34 => ?_)
          · have u35 : w33.toInt ≤ 0 := t_equ h34 (by decide : (0:Int32).toInt ≤ (0:Int))
            refine ev_ic f_X7_holds (nx := 114) (v := 0) rfl (by decide) rfl ?_
            refine ev_aluvL f_X7_holds (nx := 115) (w := 0) rfl rfl rfl (by decide) rfl ?_
            refine ev_anyL f_X7_holds (nx := 116) rfl rfl rfl rfl (fun z36 => ?_)
            refine ev_loc f_X7_holds (nx := 118) (lo' := [(4, .long z36), (7, .long z21), (6, .int y1_6), (0, .ref ar0), (1, .int ar1), (2, .int ar2), (3, .ref 59)]) rfl rfl rfl rfl ?_
            refine ev_incR f_X7_holds (nx := 121) (c := 1) (l := 1) (u := 300) rfl rfl (by decide) (by decide) l1_6 u19 rfl rfl (by decide) (by decide) rfl (fun z37 e37 l37 u37 => ?_)
            refine ev_jmp f_X7_holds (nx := 6) rfl rfl rfl ?_
            refine ev_sub (lo := [(6, .int z37), (4, .long z36), (0, .ref ar0), (1, .int ar1), (2, .int ar2), (3, .ref 59)]) rfl (t_sc rfl (t_sc rfl (t_sc rfl (t_sc rfl (t_sc rfl (t_sc rfl t_sn)))))) ?_
            exact ih1 _ (by omega) gi33 gl33 gr33 (z37) (z36) hI hX p_a0 (Int.le_trans (by decide : (0:Int) ≤ 1) l37) rfl
          · have l38 : 1 ≤ w33.toInt := t_nel h34 l33 rfl rfl
            refine ev_ic f_X7_holds (nx := 110) (v := 1) rfl (by decide) rfl ?_
            refine ev_jmp f_X7_holds (nx := 114) rfl rfl rfl ?_
            refine ev_aluvL f_X7_holds (nx := 115) (w := 1) rfl rfl rfl (by decide) rfl ?_
            refine ev_anyL f_X7_holds (nx := 116) rfl rfl rfl rfl (fun z39 => ?_)
            refine ev_loc f_X7_holds (nx := 118) (lo' := [(4, .long z39), (7, .long z21), (6, .int y1_6), (0, .ref ar0), (1, .int ar1), (2, .int ar2), (3, .ref 59)]) rfl rfl rfl rfl ?_
            refine ev_incR f_X7_holds (nx := 121) (c := 1) (l := 1) (u := 300) rfl rfl (by decide) (by decide) l1_6 u19 rfl rfl (by decide) (by decide) rfl (fun z40 e40 l40 u40 => ?_)
            refine ev_jmp f_X7_holds (nx := 6) rfl rfl rfl ?_
            refine ev_sub (lo := [(6, .int z40), (4, .long z39), (0, .ref ar0), (1, .int ar1), (2, .int ar2), (3, .ref 59)]) rfl (t_sc rfl (t_sc rfl (t_sc rfl (t_sc rfl (t_sc rfl (t_sc rfl t_sn)))))) ?_
            exact ih1 _ (by omega) gi33 gl33 gr33 (z40) (z39) hI hX p_a0 (Int.le_trans (by decide : (0:Int) ≤ 1) l40) rfl
  refine ev_sub (lo := [(6, .int ar1), (4, .long 0), (0, .ref ar0), (1, .int ar1), (2, .int ar2), (3, .ref 59)]) rfl (t_sc rfl (t_sc rfl (t_sc rfl (t_sc rfl (t_sc rfl (t_sc rfl t_sn)))))) ?_
  exact L1 _ gi gl gr (ar1) (0) hI hX p_a0 l_a1 rfl
noncomputable def wl_actBy : List (Nat × Nat) := []
theorem c_actBy {X : x_Ext} {d : Nat} {sh : List (Nat ⊕ (Nat × Nat))} {gi : Nat → Nat → Int32} {gl : Nat → Nat → Int64} {gr : Nat → Nat → Value} (hI : t_I sh gi gr) (ar0 : Nat) (p_a0 : t_Ru sh gr ar0) : x_Me X (d + 3) n_X7_actBy [.ref ar0, .ref 59] (sh, gi, gl, gr) (t_P wl_actBy sh gi gl gr (t_Ri (-2147483648) 2147483647)) := by
  have hX : t_X wl_actBy sh gi gl gr gi gl gr := t_X.rf
  refine me_i f_X7_actBy p_a0.1 rfl rfl rfl ?_
  refine ev_ic f_X7_actBy (nx := 1) (v := 0) rfl (by decide) rfl ?_
  refine ev_loc f_X7_actBy (nx := 2) (lo' := [(2, .int 0), (0, .ref ar0), (1, .ref 59)]) rfl rfl rfl rfl ?_
  refine ev_ic f_X7_actBy (nx := 3) (v := 0) rfl (by decide) rfl ?_
  refine ev_loc f_X7_actBy (nx := 4) (lo' := [(3, .int 0), (2, .int 0), (0, .ref ar0), (1, .ref 59)]) rfl rfl rfl rfl ?_
  have L1 : ∀ (m1 : Nat) (gi1 : Nat → Nat → Int32) (gl1 : Nat → Nat → Int64) (gr1 : Nat → Nat → Value) (y1_3 : Int32) (y1_2 : Int32), t_I sh gi1 gr1 → t_X wl_actBy sh gi gl gr gi1 gl1 gr1 → t_Ru sh gr1 ar0 → 0 ≤ y1_3.toInt → y1_3.toInt ≤ 12 → 0 ≤ y1_2.toInt → (12 - y1_3.toInt).toNat = m1 → x_Ev X (d + 3) n_X7_actBy 4 [(3, .int y1_3), (2, .int y1_2), (0, .ref ar0), (1, .ref 59)] [] (sh, gi1, gl1, gr1) (t_P wl_actBy sh gi gl gr (t_Ri (-2147483648) 2147483647)) := by
    intro m1
    induction m1 using Nat.strongRecOn with
    | _ m1 ih1 =>
    intro gi1 gl1 gr1 y1_3 y1_2 hI hX p_a0 l1_3 u1_3 l1_2 hm1
    refine ev_loc f_X7_actBy (nx := 5) rfl rfl rfl rfl ?_
    refine ev_loc f_X7_actBy (nx := 6) rfl rfl rfl rfl ?_
    refine ev_getI f_X7_actBy (nx := 9) rfl p_a0.1 rfl rfl rfl ?_
    obtain ⟨l2, u2⟩ := hI.b p_a0.1 (t_bdK rfl : t_bd 6 0 = some (0, 12))
    refine ev_if f_X7_actBy (t1 := 47) (t2 := 12) rfl rfl rfl (fun h3 => ?_) (fun h3 => ?_)
    · refine ev_ic f_X7_actBy (nx := 48) (v := 2) rfl (by decide) rfl ?_
      exact ev_ret f_X7_actBy rfl rfl rfl ⟨_, _, _, rfl, hI, hX, ⟨_, rfl, (Int.le_trans (by decide : ((-2147483648):Int) ≤ 2) (by decide : (2:Int) ≤ (2:Int32).toInt)), (Int.le_trans (by decide : (2:Int32).toInt ≤ (2:Int)) (by decide : (2:Int) ≤ 2147483647))⟩⟩
    · have u4 : y1_3.toInt ≤ 11 := t_ltu (t_nle h3) u2 rfl
      have l5 : 1 ≤ (gi1 ar0 0).toInt := t_ltl (t_nle h3) l1_3 rfl
      refine ev_loc f_X7_actBy (nx := 13) rfl rfl rfl rfl ?_
      refine ev_loc f_X7_actBy (nx := 14) rfl rfl rfl rfl ?_
      refine ev_loc f_X7_actBy (nx := 15) rfl rfl rfl rfl ?_
      obtain ⟨hk7, d7, r1_7, r2_7, s1_7, s2_7, n7, hn7, r4_7, r5_7, r6_7, s4_7, s5_7, s6_7⟩ := id p_a0
      refine ev_getR f_X7_actBy (nx := 18) (v := .ref (ar0 + 2)) rfl p_a0.1 rfl rfl r2_7 rfl rfl ?_
      refine ev_loc f_X7_actBy (nx := 19) rfl rfl rfl rfl ?_
      refine ev_ialdT f_X7_actBy (nx := 20) rfl s2_7 l1_3 (by decide) u4 (by decide) rfl (fun w8 e8 => ?_)
      have l8 := hI.2.2.2.2.2 ar0 y1_3.toNatClampNeg p_a0
      rw [← e8] at l8
      refine ev_loc f_X7_actBy (nx := 21) rfl rfl rfl rfl ?_
      refine ev_cI f_X7_actBy (nx := 24) (r := []) rfl rfl rfl rfl rfl rfl rfl (c_holds hI (ar0) p_a0 (y1_2) l1_2 (w8)) rfl hX rfl (fun w9 gi9 gl9 gr9 l9 u9 hI hX hC9 => ?_)
      replace p_a0 := p_a0.ext hC9.2
      refine ev_if f_X7_actBy (t1 := 34) (t2 := 27) rfl rfl rfl (fun h10 => ?_) (fun h10 => ?_)
      · have u11 : w9.toInt ≤ 0 := t_equ h10 (by decide : (0:Int32).toInt ≤ (0:Int))
        refine ev_loc f_X7_actBy (nx := 35) rfl rfl rfl rfl ?_
        refine ev_getR f_X7_actBy (nx := 38) (v := .ref (ar0 + 2)) rfl p_a0.1 rfl rfl ((hC9.1 ar0 2 (t_ninO hI.wf p_a0.1 (t_outO hI.wf p_a0.1 rfl) rfl)).2.2.trans r2_7) rfl rfl ?_
        refine ev_loc f_X7_actBy (nx := 39) rfl rfl rfl rfl ?_
        refine ev_ialdT f_X7_actBy (nx := 40) rfl s2_7 l1_3 (by decide) u4 (by decide) rfl (fun w12 e12 => ?_)
        have l12 := hI.2.2.2.2.2 ar0 y1_3.toNatClampNeg p_a0
        rw [← e12] at l12
        refine ev_loc f_X7_actBy (nx := 41) (lo' := [(2, .int w12), (3, .int y1_3), (0, .ref ar0), (1, .ref 59)]) rfl rfl rfl rfl ?_
        refine ev_incR f_X7_actBy (nx := 44) (c := 1) (l := 1) (u := 12) rfl rfl (by decide) (by decide) l1_3 u4 rfl rfl (by decide) (by decide) rfl (fun z13 e13 l13 u13 => ?_)
        refine ev_jmp f_X7_actBy (nx := 4) rfl rfl rfl ?_
        refine ev_sub (lo := [(3, .int z13), (2, .int w12), (0, .ref ar0), (1, .ref 59)]) rfl (t_sc rfl (t_sc rfl (t_sc rfl (t_sc rfl t_sn)))) ?_
        exact ih1 _ (by omega) gi9 gl9 gr9 (z13) (w12) hI hX p_a0 (Int.le_trans (by decide : (0:Int) ≤ 1) l13) u13 l12 rfl
      · have l14 : 1 ≤ w9.toInt := t_nel h10 l9 rfl rfl
        refine ev_loc f_X7_actBy (nx := 28) rfl rfl rfl rfl ?_
        refine ev_getR f_X7_actBy (nx := 31) (v := .ref (ar0 + 1)) rfl p_a0.1 rfl rfl ((hC9.1 ar0 1 (t_ninO hI.wf p_a0.1 (t_outO hI.wf p_a0.1 rfl) rfl)).2.2.trans r1_7) rfl rfl ?_
        refine ev_loc f_X7_actBy (nx := 32) rfl rfl rfl rfl ?_
        refine ev_ialdT f_X7_actBy (nx := 33) rfl s1_7 l1_3 (by decide) u4 (by decide) rfl (fun w15 e15 => ?_)
        exact ev_ret f_X7_actBy rfl rfl rfl ⟨_, _, _, rfl, hI, hX, ⟨_, rfl, (t_lo w15), (t_hi w15)⟩⟩
  refine ev_sub (lo := [(3, .int 0), (2, .int 0), (0, .ref ar0), (1, .ref 59)]) rfl (t_sc rfl (t_sc rfl (t_sc rfl (t_sc rfl t_sn)))) ?_
  exact L1 _ gi gl gr (0) (0) hI hX p_a0 (by decide : (0:Int) ≤ (0:Int32).toInt) (Int.le_trans (by decide : (0:Int32).toInt ≤ (0:Int)) (by decide : (0:Int) ≤ 12)) (by decide : (0:Int) ≤ (0:Int32).toInt) rfl
noncomputable def wl_obey : List (Nat × Nat) := [(45, 7), (45, 8), (45, 12), (45, 13), (58, 9999), (59, 9999)]
theorem c_obey {X : x_Ext} {d : Nat} {sh : List (Nat ⊕ (Nat × Nat))} {gi : Nat → Nat → Int32} {gl : Nat → Nat → Int64} {gr : Nat → Nat → Value} (hI : t_I sh gi gr) (ar1 : Nat) (p_a1 : t_Rv sh gr ar1) (ar2 : Nat) (p_a2 : t_Ru sh gr ar2) : x_Me X (d + 4) n_X2_obey [.ref 45, .ref ar1, .ref ar2] (sh, gi, gl, gr) (t_P wl_obey sh gi gl gr t_Rn) := by
  have hX : t_X wl_obey sh gi gl gr gi gl gr := t_X.rf
  refine me_i f_X2_obey (hI.wf.s rfl) rfl rfl rfl ?_
  refine ev_loc f_X2_obey (nx := 1) rfl rfl rfl rfl ?_
  refine ev_c0 f_X2_obey (nx := 4) (r := []) rfl rfl rfl rfl rfl rfl rfl (c_gatherFacts hI ) rfl hX rfl (fun gi1 gl1 gr1 hI hX hC1 => ?_)
  replace p_a1 := p_a1.ext hC1.2
  replace p_a2 := p_a2.ext hC1.2
  refine ev_loc f_X2_obey (nx := 5) rfl rfl rfl rfl ?_
  refine ev_loc f_X2_obey (nx := 6) rfl rfl rfl rfl ?_
  refine ev_getR f_X2_obey (nx := 9) rfl (hI.wf.s rfl) rfl rfl (hI.wf.r rfl) rfl rfl ?_
  refine ev_cI f_X2_obey (nx := 12) (r := []) rfl rfl rfl rfl rfl rfl rfl (c_actBy hI (ar2) p_a2) rfl hX rfl (fun w2 gi2 gl2 gr2 l2 u2 hI hX hC2 => ?_)
  replace p_a1 := p_a1.ext hC2.2
  replace p_a2 := p_a2.ext hC2.2
  refine ev_loc f_X2_obey (nx := 13) (lo' := [(3, .int w2), (0, .ref 45), (1, .ref ar1), (2, .ref ar2)]) rfl rfl rfl rfl ?_
  refine ev_loc f_X2_obey (nx := 14) rfl rfl rfl rfl ?_
  refine ev_getI f_X2_obey (nx := 17) rfl (hI.wf.s rfl) rfl rfl rfl ?_
  refine ev_if f_X2_obey (t1 := 33) (t2 := 20) rfl rfl rfl (fun h3 => ?_) (fun h3 => ?_)
  · have u4 : (gi2 45 6).toInt ≤ 0 := t_equ h3 (by decide : (0:Int32).toInt ≤ (0:Int))
    have l5 : 0 ≤ (gi2 45 6).toInt := t_eql h3 (by decide : (0:Int) ≤ (0:Int32).toInt)
    refine ev_loc f_X2_obey (nx := 34) rfl rfl rfl rfl ?_
    refine ev_if f_X2_obey (t1 := 37) (t2 := 41) rfl rfl rfl (fun h6 => ?_) (fun h6 => ?_)
    · have u7 : w2.toInt ≤ 0 := t_equ h6 (by decide : (0:Int32).toInt ≤ (0:Int))
      have l8 : 0 ≤ w2.toInt := t_eql h6 (by decide : (0:Int) ≤ (0:Int32).toInt)
      refine ev_ic f_X2_obey (nx := 38) (v := 1) rfl (by decide) rfl ?_
      refine ev_jmp f_X2_obey (nx := 42) rfl rfl rfl ?_
      refine ev_loc f_X2_obey (nx := 44) (lo' := [(4, .int 1), (3, .int w2), (0, .ref 45), (1, .ref ar1), (2, .ref ar2)]) rfl rfl rfl rfl ?_
      refine ev_loc f_X2_obey (nx := 46) rfl rfl rfl rfl ?_
      refine ev_f f_X2_obey (t1 := 49) (t2 := 50) rfl rfl rfl (by decide) ?_
      refine ev_loc f_X2_obey (nx := 51) rfl rfl rfl rfl ?_
      refine ev_ic f_X2_obey (nx := 52) (v := 3) rfl (by decide) rfl ?_
      refine ev_putIT f_X2_obey (nx := 55) rfl (hI.wf.s rfl) rfl rfl rfl (hI.put0 (hI.wf.s rfl) rfl rfl) (hX.upI rfl) (fun g9 e9 hI hX => ?_)
      refine ev_loc f_X2_obey (nx := 56) rfl rfl rfl rfl ?_
      refine ev_loc f_X2_obey (nx := 57) rfl rfl rfl rfl ?_
      refine ev_getI f_X2_obey (nx := 60) rfl (hI.wf.s rfl) rfl rfl rfl ?_
      obtain ⟨l10, u10⟩ := hI.b (hI.wf.s (k := 45) rfl) (t_bdK rfl : t_bd 2 5 = some (0, 301))
      refine ev_loc f_X2_obey (nx := 61) rfl rfl rfl rfl ?_
      refine ev_loc f_X2_obey (nx := 62) rfl rfl rfl rfl ?_
      refine ev_getI f_X2_obey (nx := 65) rfl p_a1.1 rfl rfl rfl ?_
      refine ev_loc f_X2_obey (nx := 66) rfl rfl rfl rfl ?_
      refine ev_gvI f_X2_obey (nx := 69) (w := (g9 45 5)) rfl (hI.wf.s rfl) rfl rfl rfl rfl ?_
      refine ev_inV3 f_X2_obey (nx := 72) (lo2 := [(0, .ref ar1), (1, .int (g9 ar1 3)), (2, .int (g9 45 5))]) rfl rfl rfl rfl f_X5_turnLength p_a1.1 rfl rfl rfl rfl rfl ?_
      refine ev_loc f_X5_turnLength (nx := 1) rfl rfl rfl rfl ?_
      refine ev_loc f_X5_turnLength (nx := 2) rfl rfl rfl rfl ?_
      refine ev_getI f_X5_turnLength (nx := 5) rfl p_a1.1 rfl rfl rfl ?_
      refine ev_if f_X5_turnLength (t1 := 17) (t2 := 8) rfl rfl rfl (fun h11 => ?_) (fun h11 => ?_)
      · have l12 : 1 ≤ (g9 ar1 5).toInt := t_ltl h11 l10 rfl
        refine ev_loc f_X5_turnLength (nx := 18) rfl rfl rfl rfl ?_
        refine ev_retK1 f_X5_turnLength rfl rfl rfl ?_
        refine ev_anyI f_X2_obey (nx := 73) rfl rfl rfl rfl (fun z13 => ?_)
        refine ev_putIT f_X2_obey (nx := 76) rfl (hI.wf.s rfl) rfl rfl rfl (hI.put0 (hI.wf.s rfl) rfl rfl) (hX.upI rfl) (fun g14 e14 hI hX => ?_)
        refine ev_loc f_X2_obey (nx := 77) rfl rfl rfl rfl ?_
        refine ev_alu f_X2_obey (nx := 78) rfl rfl rfl rfl ?_
        refine ev_getI f_X2_obey (nx := 81) rfl (hI.wf.s rfl) rfl rfl rfl ?_
        refine ev_ic f_X2_obey (nx := 82) (v := 1) rfl (by decide) rfl ?_
        refine ev_anyI f_X2_obey (nx := 83) rfl rfl rfl rfl (fun z15 => ?_)
        refine ev_putIT f_X2_obey (nx := 86) rfl (hI.wf.s rfl) rfl rfl rfl (hI.put0 (hI.wf.s rfl) rfl rfl) (hX.upI rfl) (fun g16 e16 hI hX => ?_)
        refine ev_ic f_X2_obey (nx := 87) (v := 0) rfl (by decide) rfl ?_
        refine ev_loc f_X2_obey (nx := 89) (lo' := [(5, .int 0), (4, .int 1), (3, .int w2), (0, .ref 45), (1, .ref ar1), (2, .ref ar2)]) rfl rfl rfl rfl ?_
        have L17 : ∀ (m17 : Nat) (gi17 : Nat → Nat → Int32) (gl17 : Nat → Nat → Int64) (gr17 : Nat → Nat → Value) (y17_5 : Int32), t_I sh gi17 gr17 → t_X wl_obey sh gi gl gr gi17 gl17 gr17 → t_Rv sh gr17 ar1 → t_Ru sh gr17 ar2 → 0 ≤ y17_5.toInt → y17_5.toInt ≤ 6 → gi17 45 6 = (gi2 45 6) → gi17 45 7 = 3 → (6 - y17_5.toInt).toNat = m17 → x_Ev X (d + 4) n_X2_obey 89 [(5, .int y17_5), (4, .int 1), (3, .int w2), (0, .ref 45), (1, .ref ar1), (2, .ref ar2)] [] (sh, gi17, gl17, gr17) (t_P wl_obey sh gi gl gr t_Rn) := by
          intro m17
          induction m17 using Nat.strongRecOn with
          | _ m17 ih17 =>
          intro gi17 gl17 gr17 y17_5 hI hX p_a1 p_a2 l17_5 u17_5 c17_0 c17_1 hm17
          refine ev_loc f_X2_obey (nx := 91) rfl rfl rfl rfl ?_
          refine ev_loc f_X2_obey (nx := 92) rfl rfl rfl rfl ?_
          refine ev_getR f_X2_obey (nx := 95) rfl (hI.wf.s rfl) rfl rfl (hI.wf.r rfl) rfl rfl ?_
          refine ev_getI f_X2_obey (nx := 98) rfl (hI.wf.s rfl) rfl rfl rfl ?_
          obtain ⟨l18, u18⟩ := hI.b (hI.wf.s (k := 46) rfl) (t_bdK rfl : t_bd 3 0 = some (0, 6))
          refine ev_if f_X2_obey (t1 := 113) (t2 := 101) rfl rfl rfl (fun h19 => ?_) (fun h19 => ?_)
          · exact ev_ret f_X2_obey rfl rfl rfl ⟨_, _, _, rfl, hI, hX, rfl⟩
          · have u20 : y17_5.toInt ≤ 5 := t_ltu (t_nle h19) u18 rfl
            have l21 : 1 ≤ (gi17 46 0).toInt := t_ltl (t_nle h19) l17_5 rfl
            refine ev_loc f_X2_obey (nx := 102) rfl rfl rfl rfl ?_
            refine ev_loc f_X2_obey (nx := 104) rfl rfl rfl rfl ?_
            refine ev_c0 f_X2_obey (nx := 107) (r := []) rfl rfl rfl rfl rfl rfl rfl (c_strikeIfDue hI (y17_5)) rfl hX rfl (fun gi22 gl22 gr22 hI hX hC22 => ?_)
            replace p_a1 := p_a1.ext hC22.2
            replace p_a2 := p_a2.ext hC22.2
            refine ev_incR f_X2_obey (nx := 110) (c := 1) (l := 1) (u := 6) rfl rfl (by decide) (by decide) l17_5 u20 rfl rfl (by decide) (by decide) rfl (fun z23 e23 l23 u23 => ?_)
            refine ev_jmp f_X2_obey (nx := 89) rfl rfl rfl ?_
            refine ev_sub (lo := [(5, .int z23), (4, .int 1), (3, .int w2), (0, .ref 45), (1, .ref ar1), (2, .ref ar2)]) rfl (t_sc rfl (t_sc rfl (t_sc rfl (t_sc rfl (t_sc rfl (t_sc rfl t_sn)))))) ?_
            exact ih17 _ (by omega) gi22 gl22 gr22 (z23) hI hX p_a1 p_a2 (Int.le_trans (by decide : (0:Int) ≤ 1) l23) u23 ((hC22.1 45 6 rfl).1.trans c17_0) ((hC22.1 45 7 rfl).1.trans c17_1) rfl
        refine ev_sub (lo := [(5, .int 0), (4, .int 1), (3, .int w2), (0, .ref 45), (1, .ref ar1), (2, .ref ar2)]) rfl (t_sc rfl (t_sc rfl (t_sc rfl (t_sc rfl (t_sc rfl (t_sc rfl t_sn)))))) ?_
        exact L17 _ g16 gl2 gr2 (0) hI hX p_a1 p_a2 (by decide : (0:Int) ≤ (0:Int32).toInt) (Int.le_trans (by decide : (0:Int32).toInt ≤ (0:Int)) (by decide : (0:Int) ≤ 6)) ((by rw [e16]; exact x_up2_off (Or.inr (by decide)) : g16 45 6 = g14 45 6).trans ((by rw [e14]; exact x_up2_off (Or.inr (by decide)) : g14 45 6 = g9 45 6).trans ((by rw [e9]; exact x_up2_off (Or.inr (by decide)) : g9 45 6 = gi2 45 6).trans rfl))) ((by rw [e16]; exact x_up2_off (Or.inr (by decide)) : g16 45 7 = g14 45 7).trans ((by rw [e14]; exact x_up2_off (Or.inr (by decide)) : g14 45 7 = g9 45 7).trans (by rw [e9]; exact x_up2_at _ _ _ _ : g9 45 7 = 3))) rfl
      · have u24 : (g9 ar1 5).toInt ≤ 301 := t_leu (t_nlt h11) u10
        refine ev_loc f_X5_turnLength (nx := 9) rfl rfl rfl rfl ?_
        refine ev_loc f_X5_turnLength (nx := 10) rfl rfl rfl rfl ?_
        refine ev_getI f_X5_turnLength (nx := 13) rfl p_a1.1 rfl rfl rfl ?_
        refine ev_anyI f_X5_turnLength (nx := 14) rfl rfl rfl rfl (fun z25 => ?_)
        refine ev_jmp f_X5_turnLength (nx := 18) rfl rfl rfl ?_
        refine ev_retK1 f_X5_turnLength rfl rfl rfl ?_
        refine ev_anyI f_X2_obey (nx := 73) rfl rfl rfl rfl (fun z26 => ?_)
        refine ev_putIT f_X2_obey (nx := 76) rfl (hI.wf.s rfl) rfl rfl rfl (hI.put0 (hI.wf.s rfl) rfl rfl) (hX.upI rfl) (fun g27 e27 hI hX => ?_)
        refine ev_loc f_X2_obey (nx := 77) rfl rfl rfl rfl ?_
        refine ev_alu f_X2_obey (nx := 78) rfl rfl rfl rfl ?_
        refine ev_getI f_X2_obey (nx := 81) rfl (hI.wf.s rfl) rfl rfl rfl ?_
        refine ev_ic f_X2_obey (nx := 82) (v := 1) rfl (by decide) rfl ?_
        refine ev_anyI f_X2_obey (nx := 83) rfl rfl rfl rfl (fun z28 => ?_)
        refine ev_putIT f_X2_obey (nx := 86) rfl (hI.wf.s rfl) rfl rfl rfl (hI.put0 (hI.wf.s rfl) rfl rfl) (hX.upI rfl) (fun g29 e29 hI hX => ?_)
        refine ev_ic f_X2_obey (nx := 87) (v := 0) rfl (by decide) rfl ?_
        refine ev_loc f_X2_obey (nx := 89) (lo' := [(5, .int 0), (4, .int 1), (3, .int w2), (0, .ref 45), (1, .ref ar1), (2, .ref ar2)]) rfl rfl rfl rfl ?_
        have L30 : ∀ (m30 : Nat) (gi30 : Nat → Nat → Int32) (gl30 : Nat → Nat → Int64) (gr30 : Nat → Nat → Value) (y30_5 : Int32), t_I sh gi30 gr30 → t_X wl_obey sh gi gl gr gi30 gl30 gr30 → t_Rv sh gr30 ar1 → t_Ru sh gr30 ar2 → 0 ≤ y30_5.toInt → y30_5.toInt ≤ 6 → gi30 45 6 = (gi2 45 6) → gi30 45 7 = 3 → (6 - y30_5.toInt).toNat = m30 → x_Ev X (d + 4) n_X2_obey 89 [(5, .int y30_5), (4, .int 1), (3, .int w2), (0, .ref 45), (1, .ref ar1), (2, .ref ar2)] [] (sh, gi30, gl30, gr30) (t_P wl_obey sh gi gl gr t_Rn) := by
          intro m30
          induction m30 using Nat.strongRecOn with
          | _ m30 ih30 =>
          intro gi30 gl30 gr30 y30_5 hI hX p_a1 p_a2 l30_5 u30_5 c30_0 c30_1 hm30
          refine ev_loc f_X2_obey (nx := 91) rfl rfl rfl rfl ?_
          refine ev_loc f_X2_obey (nx := 92) rfl rfl rfl rfl ?_
          refine ev_getR f_X2_obey (nx := 95) rfl (hI.wf.s rfl) rfl rfl (hI.wf.r rfl) rfl rfl ?_
          refine ev_getI f_X2_obey (nx := 98) rfl (hI.wf.s rfl) rfl rfl rfl ?_
          obtain ⟨l31, u31⟩ := hI.b (hI.wf.s (k := 46) rfl) (t_bdK rfl : t_bd 3 0 = some (0, 6))
          refine ev_if f_X2_obey (t1 := 113) (t2 := 101) rfl rfl rfl (fun h32 => ?_) (fun h32 => ?_)
          · exact ev_ret f_X2_obey rfl rfl rfl ⟨_, _, _, rfl, hI, hX, rfl⟩
          · have u33 : y30_5.toInt ≤ 5 := t_ltu (t_nle h32) u31 rfl
            have l34 : 1 ≤ (gi30 46 0).toInt := t_ltl (t_nle h32) l30_5 rfl
            refine ev_loc f_X2_obey (nx := 102) rfl rfl rfl rfl ?_
            refine ev_loc f_X2_obey (nx := 104) rfl rfl rfl rfl ?_
            refine ev_c0 f_X2_obey (nx := 107) (r := []) rfl rfl rfl rfl rfl rfl rfl (c_strikeIfDue hI (y30_5)) rfl hX rfl (fun gi35 gl35 gr35 hI hX hC35 => ?_)
            replace p_a1 := p_a1.ext hC35.2
            replace p_a2 := p_a2.ext hC35.2
            refine ev_incR f_X2_obey (nx := 110) (c := 1) (l := 1) (u := 6) rfl rfl (by decide) (by decide) l30_5 u33 rfl rfl (by decide) (by decide) rfl (fun z36 e36 l36 u36 => ?_)
            refine ev_jmp f_X2_obey (nx := 89) rfl rfl rfl ?_
            refine ev_sub (lo := [(5, .int z36), (4, .int 1), (3, .int w2), (0, .ref 45), (1, .ref ar1), (2, .ref ar2)]) rfl (t_sc rfl (t_sc rfl (t_sc rfl (t_sc rfl (t_sc rfl (t_sc rfl t_sn)))))) ?_
            exact ih30 _ (by omega) gi35 gl35 gr35 (z36) hI hX p_a1 p_a2 (Int.le_trans (by decide : (0:Int) ≤ 1) l36) u36 ((hC35.1 45 6 rfl).1.trans c30_0) ((hC35.1 45 7 rfl).1.trans c30_1) rfl
        refine ev_sub (lo := [(5, .int 0), (4, .int 1), (3, .int w2), (0, .ref 45), (1, .ref ar1), (2, .ref ar2)]) rfl (t_sc rfl (t_sc rfl (t_sc rfl (t_sc rfl (t_sc rfl (t_sc rfl t_sn)))))) ?_
        exact L30 _ g29 gl2 gr2 (0) hI hX p_a1 p_a2 (by decide : (0:Int) ≤ (0:Int32).toInt) (Int.le_trans (by decide : (0:Int32).toInt ≤ (0:Int)) (by decide : (0:Int) ≤ 6)) ((by rw [e29]; exact x_up2_off (Or.inr (by decide)) : g29 45 6 = g27 45 6).trans ((by rw [e27]; exact x_up2_off (Or.inr (by decide)) : g27 45 6 = g9 45 6).trans ((by rw [e9]; exact x_up2_off (Or.inr (by decide)) : g9 45 6 = gi2 45 6).trans rfl))) ((by rw [e29]; exact x_up2_off (Or.inr (by decide)) : g29 45 7 = g27 45 7).trans ((by rw [e27]; exact x_up2_off (Or.inr (by decide)) : g27 45 7 = g9 45 7).trans (by rw [e9]; exact x_up2_at _ _ _ _ : g9 45 7 = 3))) rfl
    · refine ev_ic f_X2_obey (nx := 42) (v := 0) rfl (by decide) rfl ?_
      refine ev_loc f_X2_obey (nx := 44) (lo' := [(4, .int 0), (3, .int w2), (0, .ref 45), (1, .ref ar1), (2, .ref ar2)]) rfl rfl rfl rfl ?_
      refine ev_loc f_X2_obey (nx := 46) rfl rfl rfl rfl ?_
      refine ev_t f_X2_obey (t1 := 49) (t2 := 50) rfl rfl rfl (by decide) ?_
      exact ev_ret f_X2_obey rfl rfl rfl ⟨_, _, _, rfl, hI, hX, rfl⟩
  · refine ev_loc f_X2_obey (nx := 21) rfl rfl rfl rfl ?_
    refine ev_ic f_X2_obey (nx := 22) (v := 1) rfl (by decide) rfl ?_
    refine ev_if f_X2_obey (t1 := 25) (t2 := 29) rfl rfl rfl (fun h37 => ?_) (fun h37 => ?_)
    · have u38 : w2.toInt ≤ 1 := t_equ h37 (by decide : (1:Int32).toInt ≤ (1:Int))
      have l39 : 1 ≤ w2.toInt := t_eql h37 (by decide : (1:Int) ≤ (1:Int32).toInt)
      refine ev_ic f_X2_obey (nx := 26) (v := 1) rfl (by decide) rfl ?_
      refine ev_jmp f_X2_obey (nx := 42) rfl rfl rfl ?_
      refine ev_loc f_X2_obey (nx := 44) (lo' := [(4, .int 1), (3, .int w2), (0, .ref 45), (1, .ref ar1), (2, .ref ar2)]) rfl rfl rfl rfl ?_
      refine ev_loc f_X2_obey (nx := 46) rfl rfl rfl rfl ?_
      refine ev_f f_X2_obey (t1 := 49) (t2 := 50) rfl rfl rfl (by decide) ?_
      refine ev_loc f_X2_obey (nx := 51) rfl rfl rfl rfl ?_
      refine ev_ic f_X2_obey (nx := 52) (v := 3) rfl (by decide) rfl ?_
      refine ev_putIT f_X2_obey (nx := 55) rfl (hI.wf.s rfl) rfl rfl rfl (hI.put0 (hI.wf.s rfl) rfl rfl) (hX.upI rfl) (fun g40 e40 hI hX => ?_)
      refine ev_loc f_X2_obey (nx := 56) rfl rfl rfl rfl ?_
      refine ev_loc f_X2_obey (nx := 57) rfl rfl rfl rfl ?_
      refine ev_getI f_X2_obey (nx := 60) rfl (hI.wf.s rfl) rfl rfl rfl ?_
      obtain ⟨l41, u41⟩ := hI.b (hI.wf.s (k := 45) rfl) (t_bdK rfl : t_bd 2 5 = some (0, 301))
      refine ev_loc f_X2_obey (nx := 61) rfl rfl rfl rfl ?_
      refine ev_loc f_X2_obey (nx := 62) rfl rfl rfl rfl ?_
      refine ev_getI f_X2_obey (nx := 65) rfl p_a1.1 rfl rfl rfl ?_
      refine ev_loc f_X2_obey (nx := 66) rfl rfl rfl rfl ?_
      refine ev_gvI f_X2_obey (nx := 69) (w := (g40 45 5)) rfl (hI.wf.s rfl) rfl rfl rfl rfl ?_
      refine ev_inV3 f_X2_obey (nx := 72) (lo2 := [(0, .ref ar1), (1, .int (g40 ar1 3)), (2, .int (g40 45 5))]) rfl rfl rfl rfl f_X5_turnLength p_a1.1 rfl rfl rfl rfl rfl ?_
      refine ev_loc f_X5_turnLength (nx := 1) rfl rfl rfl rfl ?_
      refine ev_loc f_X5_turnLength (nx := 2) rfl rfl rfl rfl ?_
      refine ev_getI f_X5_turnLength (nx := 5) rfl p_a1.1 rfl rfl rfl ?_
      refine ev_if f_X5_turnLength (t1 := 17) (t2 := 8) rfl rfl rfl (fun h42 => ?_) (fun h42 => ?_)
      · have l43 : 1 ≤ (g40 ar1 5).toInt := t_ltl h42 l41 rfl
        refine ev_loc f_X5_turnLength (nx := 18) rfl rfl rfl rfl ?_
        refine ev_retK1 f_X5_turnLength rfl rfl rfl ?_
        refine ev_anyI f_X2_obey (nx := 73) rfl rfl rfl rfl (fun z44 => ?_)
        refine ev_putIT f_X2_obey (nx := 76) rfl (hI.wf.s rfl) rfl rfl rfl (hI.put0 (hI.wf.s rfl) rfl rfl) (hX.upI rfl) (fun g45 e45 hI hX => ?_)
        refine ev_loc f_X2_obey (nx := 77) rfl rfl rfl rfl ?_
        refine ev_alu f_X2_obey (nx := 78) rfl rfl rfl rfl ?_
        refine ev_getI f_X2_obey (nx := 81) rfl (hI.wf.s rfl) rfl rfl rfl ?_
        refine ev_ic f_X2_obey (nx := 82) (v := 1) rfl (by decide) rfl ?_
        refine ev_anyI f_X2_obey (nx := 83) rfl rfl rfl rfl (fun z46 => ?_)
        refine ev_putIT f_X2_obey (nx := 86) rfl (hI.wf.s rfl) rfl rfl rfl (hI.put0 (hI.wf.s rfl) rfl rfl) (hX.upI rfl) (fun g47 e47 hI hX => ?_)
        refine ev_ic f_X2_obey (nx := 87) (v := 0) rfl (by decide) rfl ?_
        refine ev_loc f_X2_obey (nx := 89) (lo' := [(5, .int 0), (4, .int 1), (3, .int w2), (0, .ref 45), (1, .ref ar1), (2, .ref ar2)]) rfl rfl rfl rfl ?_
        have L48 : ∀ (m48 : Nat) (gi48 : Nat → Nat → Int32) (gl48 : Nat → Nat → Int64) (gr48 : Nat → Nat → Value) (y48_5 : Int32), t_I sh gi48 gr48 → t_X wl_obey sh gi gl gr gi48 gl48 gr48 → t_Rv sh gr48 ar1 → t_Ru sh gr48 ar2 → 0 ≤ y48_5.toInt → y48_5.toInt ≤ 6 → gi48 45 6 = (gi2 45 6) → gi48 45 7 = 3 → (6 - y48_5.toInt).toNat = m48 → x_Ev X (d + 4) n_X2_obey 89 [(5, .int y48_5), (4, .int 1), (3, .int w2), (0, .ref 45), (1, .ref ar1), (2, .ref ar2)] [] (sh, gi48, gl48, gr48) (t_P wl_obey sh gi gl gr t_Rn) := by
          intro m48
          induction m48 using Nat.strongRecOn with
          | _ m48 ih48 =>
          intro gi48 gl48 gr48 y48_5 hI hX p_a1 p_a2 l48_5 u48_5 c48_0 c48_1 hm48
          refine ev_loc f_X2_obey (nx := 91) rfl rfl rfl rfl ?_
          refine ev_loc f_X2_obey (nx := 92) rfl rfl rfl rfl ?_
          refine ev_getR f_X2_obey (nx := 95) rfl (hI.wf.s rfl) rfl rfl (hI.wf.r rfl) rfl rfl ?_
          refine ev_getI f_X2_obey (nx := 98) rfl (hI.wf.s rfl) rfl rfl rfl ?_
          obtain ⟨l49, u49⟩ := hI.b (hI.wf.s (k := 46) rfl) (t_bdK rfl : t_bd 3 0 = some (0, 6))
          refine ev_if f_X2_obey (t1 := 113) (t2 := 101) rfl rfl rfl (fun h50 => ?_) (fun h50 => ?_)
          · exact ev_ret f_X2_obey rfl rfl rfl ⟨_, _, _, rfl, hI, hX, rfl⟩
          · have u51 : y48_5.toInt ≤ 5 := t_ltu (t_nle h50) u49 rfl
            have l52 : 1 ≤ (gi48 46 0).toInt := t_ltl (t_nle h50) l48_5 rfl
            refine ev_loc f_X2_obey (nx := 102) rfl rfl rfl rfl ?_
            refine ev_loc f_X2_obey (nx := 104) rfl rfl rfl rfl ?_
            refine ev_c0 f_X2_obey (nx := 107) (r := []) rfl rfl rfl rfl rfl rfl rfl (c_strikeIfDue hI (y48_5)) rfl hX rfl (fun gi53 gl53 gr53 hI hX hC53 => ?_)
            replace p_a1 := p_a1.ext hC53.2
            replace p_a2 := p_a2.ext hC53.2
            refine ev_incR f_X2_obey (nx := 110) (c := 1) (l := 1) (u := 6) rfl rfl (by decide) (by decide) l48_5 u51 rfl rfl (by decide) (by decide) rfl (fun z54 e54 l54 u54 => ?_)
            refine ev_jmp f_X2_obey (nx := 89) rfl rfl rfl ?_
            refine ev_sub (lo := [(5, .int z54), (4, .int 1), (3, .int w2), (0, .ref 45), (1, .ref ar1), (2, .ref ar2)]) rfl (t_sc rfl (t_sc rfl (t_sc rfl (t_sc rfl (t_sc rfl (t_sc rfl t_sn)))))) ?_
            exact ih48 _ (by omega) gi53 gl53 gr53 (z54) hI hX p_a1 p_a2 (Int.le_trans (by decide : (0:Int) ≤ 1) l54) u54 ((hC53.1 45 6 rfl).1.trans c48_0) ((hC53.1 45 7 rfl).1.trans c48_1) rfl
        refine ev_sub (lo := [(5, .int 0), (4, .int 1), (3, .int w2), (0, .ref 45), (1, .ref ar1), (2, .ref ar2)]) rfl (t_sc rfl (t_sc rfl (t_sc rfl (t_sc rfl (t_sc rfl (t_sc rfl t_sn)))))) ?_
        exact L48 _ g47 gl2 gr2 (0) hI hX p_a1 p_a2 (by decide : (0:Int) ≤ (0:Int32).toInt) (Int.le_trans (by decide : (0:Int32).toInt ≤ (0:Int)) (by decide : (0:Int) ≤ 6)) ((by rw [e47]; exact x_up2_off (Or.inr (by decide)) : g47 45 6 = g45 45 6).trans ((by rw [e45]; exact x_up2_off (Or.inr (by decide)) : g45 45 6 = g40 45 6).trans ((by rw [e40]; exact x_up2_off (Or.inr (by decide)) : g40 45 6 = gi2 45 6).trans rfl))) ((by rw [e47]; exact x_up2_off (Or.inr (by decide)) : g47 45 7 = g45 45 7).trans ((by rw [e45]; exact x_up2_off (Or.inr (by decide)) : g45 45 7 = g40 45 7).trans (by rw [e40]; exact x_up2_at _ _ _ _ : g40 45 7 = 3))) rfl
      · have u55 : (g40 ar1 5).toInt ≤ 301 := t_leu (t_nlt h42) u41
        refine ev_loc f_X5_turnLength (nx := 9) rfl rfl rfl rfl ?_
        refine ev_loc f_X5_turnLength (nx := 10) rfl rfl rfl rfl ?_
        refine ev_getI f_X5_turnLength (nx := 13) rfl p_a1.1 rfl rfl rfl ?_
        refine ev_anyI f_X5_turnLength (nx := 14) rfl rfl rfl rfl (fun z56 => ?_)
        refine ev_jmp f_X5_turnLength (nx := 18) rfl rfl rfl ?_
        refine ev_retK1 f_X5_turnLength rfl rfl rfl ?_
        refine ev_anyI f_X2_obey (nx := 73) rfl rfl rfl rfl (fun z57 => ?_)
        refine ev_putIT f_X2_obey (nx := 76) rfl (hI.wf.s rfl) rfl rfl rfl (hI.put0 (hI.wf.s rfl) rfl rfl) (hX.upI rfl) (fun g58 e58 hI hX => ?_)
        refine ev_loc f_X2_obey (nx := 77) rfl rfl rfl rfl ?_
        refine ev_alu f_X2_obey (nx := 78) rfl rfl rfl rfl ?_
        refine ev_getI f_X2_obey (nx := 81) rfl (hI.wf.s rfl) rfl rfl rfl ?_
        refine ev_ic f_X2_obey (nx := 82) (v := 1) rfl (by decide) rfl ?_
        refine ev_anyI f_X2_obey (nx := 83) rfl rfl rfl rfl (fun z59 => ?_)
        refine ev_putIT f_X2_obey (nx := 86) rfl (hI.wf.s rfl) rfl rfl rfl (hI.put0 (hI.wf.s rfl) rfl rfl) (hX.upI rfl) (fun g60 e60 hI hX => ?_)
        refine ev_ic f_X2_obey (nx := 87) (v := 0) rfl (by decide) rfl ?_
        refine ev_loc f_X2_obey (nx := 89) (lo' := [(5, .int 0), (4, .int 1), (3, .int w2), (0, .ref 45), (1, .ref ar1), (2, .ref ar2)]) rfl rfl rfl rfl ?_
        have L61 : ∀ (m61 : Nat) (gi61 : Nat → Nat → Int32) (gl61 : Nat → Nat → Int64) (gr61 : Nat → Nat → Value) (y61_5 : Int32), t_I sh gi61 gr61 → t_X wl_obey sh gi gl gr gi61 gl61 gr61 → t_Rv sh gr61 ar1 → t_Ru sh gr61 ar2 → 0 ≤ y61_5.toInt → y61_5.toInt ≤ 6 → gi61 45 6 = (gi2 45 6) → gi61 45 7 = 3 → (6 - y61_5.toInt).toNat = m61 → x_Ev X (d + 4) n_X2_obey 89 [(5, .int y61_5), (4, .int 1), (3, .int w2), (0, .ref 45), (1, .ref ar1), (2, .ref ar2)] [] (sh, gi61, gl61, gr61) (t_P wl_obey sh gi gl gr t_Rn) := by
          intro m61
          induction m61 using Nat.strongRecOn with
          | _ m61 ih61 =>
          intro gi61 gl61 gr61 y61_5 hI hX p_a1 p_a2 l61_5 u61_5 c61_0 c61_1 hm61
          refine ev_loc f_X2_obey (nx := 91) rfl rfl rfl rfl ?_
          refine ev_loc f_X2_obey (nx := 92) rfl rfl rfl rfl ?_
          refine ev_getR f_X2_obey (nx := 95) rfl (hI.wf.s rfl) rfl rfl (hI.wf.r rfl) rfl rfl ?_
          refine ev_getI f_X2_obey (nx := 98) rfl (hI.wf.s rfl) rfl rfl rfl ?_
          obtain ⟨l62, u62⟩ := hI.b (hI.wf.s (k := 46) rfl) (t_bdK rfl : t_bd 3 0 = some (0, 6))
          refine ev_if f_X2_obey (t1 := 113) (t2 := 101) rfl rfl rfl (fun h63 => ?_) (fun h63 => ?_)
          · exact ev_ret f_X2_obey rfl rfl rfl ⟨_, _, _, rfl, hI, hX, rfl⟩
          · have u64 : y61_5.toInt ≤ 5 := t_ltu (t_nle h63) u62 rfl
            have l65 : 1 ≤ (gi61 46 0).toInt := t_ltl (t_nle h63) l61_5 rfl
            refine ev_loc f_X2_obey (nx := 102) rfl rfl rfl rfl ?_
            refine ev_loc f_X2_obey (nx := 104) rfl rfl rfl rfl ?_
            refine ev_c0 f_X2_obey (nx := 107) (r := []) rfl rfl rfl rfl rfl rfl rfl (c_strikeIfDue hI (y61_5)) rfl hX rfl (fun gi66 gl66 gr66 hI hX hC66 => ?_)
            replace p_a1 := p_a1.ext hC66.2
            replace p_a2 := p_a2.ext hC66.2
            refine ev_incR f_X2_obey (nx := 110) (c := 1) (l := 1) (u := 6) rfl rfl (by decide) (by decide) l61_5 u64 rfl rfl (by decide) (by decide) rfl (fun z67 e67 l67 u67 => ?_)
            refine ev_jmp f_X2_obey (nx := 89) rfl rfl rfl ?_
            refine ev_sub (lo := [(5, .int z67), (4, .int 1), (3, .int w2), (0, .ref 45), (1, .ref ar1), (2, .ref ar2)]) rfl (t_sc rfl (t_sc rfl (t_sc rfl (t_sc rfl (t_sc rfl (t_sc rfl t_sn)))))) ?_
            exact ih61 _ (by omega) gi66 gl66 gr66 (z67) hI hX p_a1 p_a2 (Int.le_trans (by decide : (0:Int) ≤ 1) l67) u67 ((hC66.1 45 6 rfl).1.trans c61_0) ((hC66.1 45 7 rfl).1.trans c61_1) rfl
        refine ev_sub (lo := [(5, .int 0), (4, .int 1), (3, .int w2), (0, .ref 45), (1, .ref ar1), (2, .ref ar2)]) rfl (t_sc rfl (t_sc rfl (t_sc rfl (t_sc rfl (t_sc rfl (t_sc rfl t_sn)))))) ?_
        exact L61 _ g60 gl2 gr2 (0) hI hX p_a1 p_a2 (by decide : (0:Int) ≤ (0:Int32).toInt) (Int.le_trans (by decide : (0:Int32).toInt ≤ (0:Int)) (by decide : (0:Int) ≤ 6)) ((by rw [e60]; exact x_up2_off (Or.inr (by decide)) : g60 45 6 = g58 45 6).trans ((by rw [e58]; exact x_up2_off (Or.inr (by decide)) : g58 45 6 = g40 45 6).trans ((by rw [e40]; exact x_up2_off (Or.inr (by decide)) : g40 45 6 = gi2 45 6).trans rfl))) ((by rw [e60]; exact x_up2_off (Or.inr (by decide)) : g60 45 7 = g58 45 7).trans ((by rw [e58]; exact x_up2_off (Or.inr (by decide)) : g58 45 7 = g40 45 7).trans (by rw [e40]; exact x_up2_at _ _ _ _ : g40 45 7 = 3))) rfl
    · refine ev_ic f_X2_obey (nx := 30) (v := 0) rfl (by decide) rfl ?_
      refine ev_jmp f_X2_obey (nx := 42) rfl rfl rfl ?_
      refine ev_loc f_X2_obey (nx := 44) (lo' := [(4, .int 0), (3, .int w2), (0, .ref 45), (1, .ref ar1), (2, .ref ar2)]) rfl rfl rfl rfl ?_
      refine ev_loc f_X2_obey (nx := 46) rfl rfl rfl rfl ?_
      refine ev_t f_X2_obey (t1 := 49) (t2 := 50) rfl rfl rfl (by decide) ?_
      exact ev_ret f_X2_obey rfl rfl rfl ⟨_, _, _, rfl, hI, hX, rfl⟩
