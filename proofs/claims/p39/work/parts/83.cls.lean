/-! ===== printed by cls.py: typed contracts of the class ===== -/
noncomputable def wl_h_mark : List (Nat × Nat) := [(0, 0), (0, 12), (19, 9999), (20, 9999)]
theorem c_h_mark {X : x_Ext} {d : Nat} {sh : List (Nat ⊕ (Nat × Nat))} {gi : Nat → Nat → Int32} {gl : Nat → Nat → Int64} {gr : Nat → Nat → Value} (hI : t_I sh gi gr) : x_Me X (d + 2) n_X11_mark [.ref 0] (sh, gi, gl, gr) (t_P wl_h_mark sh gi gl gr (t_Ri (-1) 3)) := by
  have hX : t_X wl_h_mark sh gi gl gr gi gl gr := t_X.rf
  refine me_i f_X11_mark (hI.wf.s rfl) rfl rfl rfl ?_
  refine ev_loc f_X11_mark (nx := 1) rfl rfl rfl rfl ?_
  refine ev_getI f_X11_mark (nx := 4) rfl (hI.wf.s rfl) rfl rfl rfl ?_
  obtain ⟨l1, u1⟩ := hI.b (hI.wf.s (k := 0) rfl) (t_bdK rfl : t_bd 10 12 = some (0, 3))
  refine ev_ic f_X11_mark (nx := 5) (v := 3) rfl (by decide) rfl ?_
  refine ev_if f_X11_mark (t1 := 14) (t2 := 8) rfl rfl rfl (fun h2 => ?_) (fun h2 => ?_)
  · have u3 : (gi 0 12).toInt ≤ 2 := t_ltu h2 (by decide : (3:Int32).toInt ≤ (3:Int)) rfl
    refine ev_loc f_X11_mark (nx := 15) rfl rfl rfl rfl ?_
    refine ev_getR f_X11_mark (nx := 18) rfl (hI.wf.s rfl) rfl rfl (hI.wf.r rfl) rfl rfl ?_
    refine ev_loc f_X11_mark (nx := 19) rfl rfl rfl rfl ?_
    refine ev_gvI f_X11_mark (nx := 22) (w := (gi 0 12)) rfl (hI.wf.s rfl) rfl rfl rfl rfl ?_
    refine ev_loc f_X11_mark (nx := 23) rfl rfl rfl rfl ?_
    obtain ⟨a4, e4, p4⟩ := hI.2.2.2.1.1
    refine ev_getR f_X11_mark (nx := 26) rfl (hI.wf.s rfl) rfl rfl e4 rfl rfl ?_
    have hE5 := t_eqf_upA (gr := gr) (j := ((gi 0 12) : Int32).toNatClampNeg) (v := .ref a4) (hI.wf.s (k := 19) rfl)
    have hT5 := t_mk19 hI (m := ((gi 0 12) : Int32).toNatClampNeg) (v := .ref a4) (Or.inr ⟨_, rfl, p4⟩)
    replace p4 := p4.ext hE5
    refine ev_aastT f_X11_mark (nx := 27) rfl (hI.wf.s rfl) rfl p4.1 l1 (by decide) u3 (by decide) rfl hT5 (hX.upR (t_inA_ok rfl) hE5) (fun g5 e5 hI hX => ?_)
    rw [← e5] at p4
    refine ev_loc f_X11_mark (nx := 28) rfl rfl rfl rfl ?_
    refine ev_getR f_X11_mark (nx := 31) rfl (hI.wf.s rfl) rfl rfl (hI.wf.r rfl) rfl rfl ?_
    refine ev_loc f_X11_mark (nx := 32) rfl rfl rfl rfl ?_
    refine ev_gvI f_X11_mark (nx := 35) (w := (gi 0 12)) rfl (hI.wf.s rfl) rfl rfl rfl rfl ?_
    refine ev_loc f_X11_mark (nx := 36) rfl rfl rfl rfl ?_
    rcases hI.2.2.2.1.2.1 with e6 | ⟨a6, e6, p6⟩
    · refine ev_getR f_X11_mark (nx := 39) rfl (hI.wf.s rfl) rfl rfl e6 rfl rfl ?_
      have hE7 := t_eqf_upA (gr := g5) (j := ((gi 0 12) : Int32).toNatClampNeg) (v := .null) (hI.wf.s (k := 20) rfl)
      have hT7 := t_mk20 hI (m := ((gi 0 12) : Int32).toNatClampNeg) (v := .null) (Or.inl rfl)
      replace p4 := p4.ext hE7
      refine ev_aastN f_X11_mark (nx := 40) rfl (hI.wf.s rfl) rfl l1 (by decide) u3 (by decide) rfl hT7 (hX.upR (t_inA_ok rfl) hE7) (fun g7 e7 hI hX => ?_)
      rw [← e7] at p4
      refine ev_loc f_X11_mark (nx := 41) rfl rfl rfl rfl ?_
      refine ev_alu f_X11_mark (nx := 42) rfl rfl rfl rfl ?_
      refine ev_gvI f_X11_mark (nx := 45) (w := (gi 0 12)) rfl (hI.wf.s rfl) rfl rfl rfl rfl ?_
      refine ev_ic f_X11_mark (nx := 46) (v := 1) rfl (by decide) rfl ?_
      refine ev_addC f_X11_mark (nx := 47) (c := 1) (l := 1) (u := 3) rfl (by decide) l1 u3 rfl rfl (by decide) (by decide) rfl (fun z8 e8 l8 u8 => ?_)
      refine ev_putIT f_X11_mark (nx := 50) rfl (hI.wf.s rfl) rfl rfl rfl (hI.putB (hI.wf.s rfl) rfl rfl l8 (by decide) u8 (by decide)) (hX.upI rfl) (fun g9 e9 hI hX => ?_)
      refine ev_loc f_X11_mark (nx := 51) rfl rfl rfl rfl ?_
      refine ev_loc f_X11_mark (nx := 52) rfl rfl rfl rfl ?_
      refine ev_gvI f_X11_mark (nx := 55) (w := z8) rfl (hI.wf.s rfl) rfl rfl (by rw [e9]; exact x_up2_at _ _ _ _ : g9 0 12 = z8) rfl ?_
      refine ev_inV2 f_X11_mark (nx := 58) (lo2 := [(0, .ref 0), (1, .int z8)]) rfl rfl rfl rfl f_X11_answer (hI.wf.s rfl) rfl rfl rfl rfl rfl ?_
      refine ev_loc f_X11_answer (nx := 1) rfl rfl rfl rfl ?_
      refine ev_ic f_X11_answer (nx := 2) (v := 0) rfl (by decide) rfl ?_
      refine ev_putIT f_X11_answer (nx := 5) rfl (hI.wf.s rfl) rfl rfl rfl (hI.put0 (hI.wf.s rfl) rfl rfl) (hX.upI rfl) (fun g10 e10 hI hX => ?_)
      refine ev_loc f_X11_answer (nx := 6) rfl rfl rfl rfl ?_
      refine ev_retK1 f_X11_answer rfl rfl rfl ?_
      exact ev_ret f_X11_mark rfl rfl rfl ⟨_, _, _, rfl, hI, hX, ⟨_, rfl, (Int.le_trans (by decide : ((-1):Int) ≤ 1) l8), u8⟩⟩
    · refine ev_getR f_X11_mark (nx := 39) rfl (hI.wf.s rfl) rfl rfl e6 rfl rfl ?_
      have hE11 := t_eqf_upA (gr := g5) (j := ((gi 0 12) : Int32).toNatClampNeg) (v := .ref a6) (hI.wf.s (k := 20) rfl)
      have hT11 := t_mk20 hI (m := ((gi 0 12) : Int32).toNatClampNeg) (v := .ref a6) (Or.inr ⟨_, rfl, p6⟩)
      replace p4 := p4.ext hE11
      replace p6 := p6.ext hE11
      refine ev_aastT f_X11_mark (nx := 40) rfl (hI.wf.s rfl) rfl p6.1 l1 (by decide) u3 (by decide) rfl hT11 (hX.upR (t_inA_ok rfl) hE11) (fun g11 e11 hI hX => ?_)
      rw [← e11] at p4
      rw [← e11] at p6
      refine ev_loc f_X11_mark (nx := 41) rfl rfl rfl rfl ?_
      refine ev_alu f_X11_mark (nx := 42) rfl rfl rfl rfl ?_
      refine ev_gvI f_X11_mark (nx := 45) (w := (gi 0 12)) rfl (hI.wf.s rfl) rfl rfl rfl rfl ?_
      refine ev_ic f_X11_mark (nx := 46) (v := 1) rfl (by decide) rfl ?_
      refine ev_addC f_X11_mark (nx := 47) (c := 1) (l := 1) (u := 3) rfl (by decide) l1 u3 rfl rfl (by decide) (by decide) rfl (fun z12 e12 l12 u12 => ?_)
      refine ev_putIT f_X11_mark (nx := 50) rfl (hI.wf.s rfl) rfl rfl rfl (hI.putB (hI.wf.s rfl) rfl rfl l12 (by decide) u12 (by decide)) (hX.upI rfl) (fun g13 e13 hI hX => ?_)
      refine ev_loc f_X11_mark (nx := 51) rfl rfl rfl rfl ?_
      refine ev_loc f_X11_mark (nx := 52) rfl rfl rfl rfl ?_
      refine ev_gvI f_X11_mark (nx := 55) (w := z12) rfl (hI.wf.s rfl) rfl rfl (by rw [e13]; exact x_up2_at _ _ _ _ : g13 0 12 = z12) rfl ?_
      refine ev_inV2 f_X11_mark (nx := 58) (lo2 := [(0, .ref 0), (1, .int z12)]) rfl rfl rfl rfl f_X11_answer (hI.wf.s rfl) rfl rfl rfl rfl rfl ?_
      refine ev_loc f_X11_answer (nx := 1) rfl rfl rfl rfl ?_
      refine ev_ic f_X11_answer (nx := 2) (v := 0) rfl (by decide) rfl ?_
      refine ev_putIT f_X11_answer (nx := 5) rfl (hI.wf.s rfl) rfl rfl rfl (hI.put0 (hI.wf.s rfl) rfl rfl) (hX.upI rfl) (fun g14 e14 hI hX => ?_)
      refine ev_loc f_X11_answer (nx := 6) rfl rfl rfl rfl ?_
      refine ev_retK1 f_X11_answer rfl rfl rfl ?_
      exact ev_ret f_X11_mark rfl rfl rfl ⟨_, _, _, rfl, hI, hX, ⟨_, rfl, (Int.le_trans (by decide : ((-1):Int) ≤ 1) l12), u12⟩⟩
  · have l15 : 3 ≤ (gi 0 12).toInt := t_lel (t_nlt h2) (by decide : (3:Int) ≤ (3:Int32).toInt)
    refine ev_loc f_X11_mark (nx := 9) rfl rfl rfl rfl ?_
    refine ev_ic f_X11_mark (nx := 10) (v := 4) rfl (by decide) rfl ?_
    refine ev_inV2 f_X11_mark (nx := 13) (lo2 := [(0, .ref 0), (1, .int 4)]) rfl rfl rfl rfl f_X11_refuse (hI.wf.s rfl) rfl rfl rfl rfl rfl ?_
    refine ev_loc f_X11_refuse (nx := 1) rfl rfl rfl rfl ?_
    refine ev_loc f_X11_refuse (nx := 2) rfl rfl rfl rfl ?_
    refine ev_putIT f_X11_refuse (nx := 5) rfl (hI.wf.s rfl) rfl rfl rfl (hI.put0 (hI.wf.s rfl) rfl rfl) (hX.upI rfl) (fun g16 e16 hI hX => ?_)
    refine ev_ic f_X11_refuse (nx := 6) (v := -1) rfl (by decide) rfl ?_
    refine ev_retK1 f_X11_refuse rfl rfl rfl ?_
    exact ev_ret f_X11_mark rfl rfl rfl ⟨_, _, _, rfl, hI, hX, ⟨_, rfl, (by decide : ((-1):Int) ≤ ((-1):Int32).toInt), (Int.le_trans (by decide : ((-1):Int32).toInt ≤ ((-1):Int)) (by decide : ((-1):Int) ≤ 3))⟩⟩
noncomputable def wl_h_back : List (Nat × Nat) := [(0, 0), (0, 6), (0, 7), (0, 12)]
theorem c_h_back {X : x_Ext} {d : Nat} {sh : List (Nat ⊕ (Nat × Nat))} {gi : Nat → Nat → Int32} {gl : Nat → Nat → Int64} {gr : Nat → Nat → Value} (hI : t_I sh gi gr) : x_Me X (d + 2) n_X11_back [.ref 0] (sh, gi, gl, gr) (t_P wl_h_back sh gi gl gr (t_Ri (-1) 2)) := by
  have hX : t_X wl_h_back sh gi gl gr gi gl gr := t_X.rf
  refine me_i f_X11_back (hI.wf.s rfl) rfl rfl rfl ?_
  refine ev_loc f_X11_back (nx := 1) rfl rfl rfl rfl ?_
  refine ev_getI f_X11_back (nx := 4) rfl (hI.wf.s rfl) rfl rfl rfl ?_
  obtain ⟨l1, u1⟩ := hI.b (hI.wf.s (k := 0) rfl) (t_bdK rfl : t_bd 10 12 = some (0, 3))
  refine ev_ic f_X11_back (nx := 5) (v := 1) rfl (by decide) rfl ?_
  refine ev_if f_X11_back (t1 := 22) (t2 := 8) rfl rfl rfl (fun h2 => ?_) (fun h2 => ?_)
  · have u3 : (gi 0 12).toInt ≤ 0 := t_ltu h2 (by decide : (1:Int32).toInt ≤ (1:Int)) rfl
    refine ev_loc f_X11_back (nx := 23) rfl rfl rfl rfl ?_
    refine ev_bp f_X11_back (nx := 25) (v := 6) rfl (by decide) rfl ?_
    refine ev_inV2 f_X11_back (nx := 28) (lo2 := [(0, .ref 0), (1, .int 6)]) rfl rfl rfl rfl f_X11_refuse (hI.wf.s rfl) rfl rfl rfl rfl rfl ?_
    refine ev_loc f_X11_refuse (nx := 1) rfl rfl rfl rfl ?_
    refine ev_loc f_X11_refuse (nx := 2) rfl rfl rfl rfl ?_
    refine ev_putIT f_X11_refuse (nx := 5) rfl (hI.wf.s rfl) rfl rfl rfl (hI.put0 (hI.wf.s rfl) rfl rfl) (hX.upI rfl) (fun g4 e4 hI hX => ?_)
    refine ev_ic f_X11_refuse (nx := 6) (v := -1) rfl (by decide) rfl ?_
    refine ev_retK1 f_X11_refuse rfl rfl rfl ?_
    exact ev_ret f_X11_back rfl rfl rfl ⟨_, _, _, rfl, hI, hX, ⟨_, rfl, (by decide : ((-1):Int) ≤ ((-1):Int32).toInt), (Int.le_trans (by decide : ((-1):Int32).toInt ≤ ((-1):Int)) (by decide : ((-1):Int) ≤ 2))⟩⟩
  · have l5 : 1 ≤ (gi 0 12).toInt := t_lel (t_nlt h2) (by decide : (1:Int) ≤ (1:Int32).toInt)
    refine ev_loc f_X11_back (nx := 9) rfl rfl rfl rfl ?_
    refine ev_getR f_X11_back (nx := 12) rfl (hI.wf.s rfl) rfl rfl (hI.wf.r rfl) rfl rfl ?_
    refine ev_loc f_X11_back (nx := 13) rfl rfl rfl rfl ?_
    refine ev_gvI f_X11_back (nx := 16) (w := (gi 0 12)) rfl (hI.wf.s rfl) rfl rfl rfl rfl ?_
    refine ev_ic f_X11_back (nx := 17) (v := 1) rfl (by decide) rfl ?_
    refine ev_subC f_X11_back (nx := 18) (c := 1) (l := 0) (u := 2) rfl (by decide) l5 u1 rfl rfl (by decide) (by decide) rfl (fun z6 e6 l6 u6 => ?_)
    rcases hI.2.2.2.1.2.2.1 z6.toNatClampNeg (t_idx (n := 3) l6 (by decide) u6 (by decide)).2 with e7 | ⟨a7, e7, p7⟩
    · refine ev_aald f_X11_back (nx := 19) rfl (hI.wf.s rfl) rfl (t_idx (n := 3) l6 (by decide) u6 (by decide)).1 (t_idx (n := 3) l6 (by decide) u6 (by decide)).2 e7 rfl rfl ?_
      refine ev_jmp f_X11_back (nx := 22) rfl rfl rfl ?_
      refine ev_loc f_X11_back (nx := 23) rfl rfl rfl rfl ?_
      refine ev_bp f_X11_back (nx := 25) (v := 6) rfl (by decide) rfl ?_
      refine ev_inV2 f_X11_back (nx := 28) (lo2 := [(0, .ref 0), (1, .int 6)]) rfl rfl rfl rfl f_X11_refuse (hI.wf.s rfl) rfl rfl rfl rfl rfl ?_
      refine ev_loc f_X11_refuse (nx := 1) rfl rfl rfl rfl ?_
      refine ev_loc f_X11_refuse (nx := 2) rfl rfl rfl rfl ?_
      refine ev_putIT f_X11_refuse (nx := 5) rfl (hI.wf.s rfl) rfl rfl rfl (hI.put0 (hI.wf.s rfl) rfl rfl) (hX.upI rfl) (fun g8 e8 hI hX => ?_)
      refine ev_ic f_X11_refuse (nx := 6) (v := -1) rfl (by decide) rfl ?_
      refine ev_retK1 f_X11_refuse rfl rfl rfl ?_
      exact ev_ret f_X11_back rfl rfl rfl ⟨_, _, _, rfl, hI, hX, ⟨_, rfl, (by decide : ((-1):Int) ≤ ((-1):Int32).toInt), (Int.le_trans (by decide : ((-1):Int32).toInt ≤ ((-1):Int)) (by decide : ((-1):Int) ≤ 2))⟩⟩
    · refine ev_aald f_X11_back (nx := 19) rfl (hI.wf.s rfl) rfl (t_idx (n := 3) l6 (by decide) u6 (by decide)).1 (t_idx (n := 3) l6 (by decide) u6 (by decide)).2 e7 rfl rfl ?_
      refine ev_jmp f_X11_back (nx := 29) rfl rfl rfl ?_
      refine ev_loc f_X11_back (nx := 30) rfl rfl rfl rfl ?_
      refine ev_alu f_X11_back (nx := 31) rfl rfl rfl rfl ?_
      refine ev_gvI f_X11_back (nx := 34) (w := (gi 0 12)) rfl (hI.wf.s rfl) rfl rfl rfl rfl ?_
      refine ev_ic f_X11_back (nx := 35) (v := 1) rfl (by decide) rfl ?_
      refine ev_subC f_X11_back (nx := 36) (c := 1) (l := 0) (u := 2) rfl (by decide) l5 u1 rfl rfl (by decide) (by decide) rfl (fun z9 e9 l9 u9 => ?_)
      refine ev_putIT f_X11_back (nx := 39) rfl (hI.wf.s rfl) rfl rfl rfl (hI.putB (hI.wf.s rfl) rfl rfl l9 (by decide) u9 (by decide)) (hX.upI rfl) (fun g10 e10 hI hX => ?_)
      refine ev_loc f_X11_back (nx := 40) rfl rfl rfl rfl ?_
      refine ev_loc f_X11_back (nx := 41) rfl rfl rfl rfl ?_
      refine ev_getR f_X11_back (nx := 44) rfl (hI.wf.s rfl) rfl rfl (hI.wf.r rfl) rfl rfl ?_
      refine ev_loc f_X11_back (nx := 45) rfl rfl rfl rfl ?_
      refine ev_gvI f_X11_back (nx := 48) (w := z9) rfl (hI.wf.s rfl) rfl rfl (by rw [e10]; exact x_up2_at _ _ _ _ : g10 0 12 = z9) rfl ?_
      refine ev_aald f_X11_back (nx := 49) (v := .ref a7) rfl (hI.wf.s rfl) rfl (t_idx (n := 3) l9 (by decide) u9 (by decide)).1 (t_idx (n := 3) l9 (by decide) u9 (by decide)).2 (by rw [t_ceq (by omega : z9.toInt = z6.toInt)]; exact e7) rfl rfl ?_
      have hE12 := t_eqf_up (gr := gr) (j := 6) (v := .ref a7) (hI.wf.s (k := 0) rfl) rfl
      have hT12 := t_putRiver hI p7
      replace p7 := p7.ext hE12
      refine ev_putRT f_X11_back (nx := 52) rfl (hI.wf.s rfl) rfl rfl rfl rfl hT12 (hX.upR rfl hE12) (fun g12 e12 hI hX => ?_)
      rw [← e12] at p7
      refine ev_loc f_X11_back (nx := 53) rfl rfl rfl rfl ?_
      refine ev_loc f_X11_back (nx := 54) rfl rfl rfl rfl ?_
      refine ev_getR f_X11_back (nx := 57) rfl (hI.wf.s rfl) rfl rfl (hI.wf.r rfl) rfl rfl ?_
      refine ev_loc f_X11_back (nx := 58) rfl rfl rfl rfl ?_
      refine ev_gvI f_X11_back (nx := 61) (w := z9) rfl (hI.wf.s rfl) rfl rfl (by rw [e10]; exact x_up2_at _ _ _ _ : g10 0 12 = z9) rfl ?_
      rcases hI.2.2.2.1.2.2.2.1 z9.toNatClampNeg (t_idx (n := 3) l9 (by decide) u9 (by decide)).2 with e13 | ⟨a13, e13, p13⟩
      · refine ev_aald f_X11_back (nx := 62) rfl (hI.wf.s rfl) rfl (t_idx (n := 3) l9 (by decide) u9 (by decide)).1 (t_idx (n := 3) l9 (by decide) u9 (by decide)).2 e13 rfl rfl ?_
        have hE14 := t_eqf_up (gr := g12) (j := 7) (v := .null) (hI.wf.s (k := 0) rfl) rfl
        have hT14 := t_putRules hI (v := .null) (Or.inl rfl)
        replace p7 := p7.ext hE14
        refine ev_putRT f_X11_back (nx := 65) rfl (hI.wf.s rfl) rfl rfl rfl rfl hT14 (hX.upR rfl hE14) (fun g14 e14 hI hX => ?_)
        rw [← e14] at p7
        refine ev_loc f_X11_back (nx := 66) rfl rfl rfl rfl ?_
        refine ev_loc f_X11_back (nx := 67) rfl rfl rfl rfl ?_
        refine ev_gvI f_X11_back (nx := 70) (w := z9) rfl (hI.wf.s rfl) rfl rfl (by rw [e10]; exact x_up2_at _ _ _ _ : g10 0 12 = z9) rfl ?_
        refine ev_inV2 f_X11_back (nx := 73) (lo2 := [(0, .ref 0), (1, .int z9)]) rfl rfl rfl rfl f_X11_answer (hI.wf.s rfl) rfl rfl rfl rfl rfl ?_
        refine ev_loc f_X11_answer (nx := 1) rfl rfl rfl rfl ?_
        refine ev_ic f_X11_answer (nx := 2) (v := 0) rfl (by decide) rfl ?_
        refine ev_putIT f_X11_answer (nx := 5) rfl (hI.wf.s rfl) rfl rfl rfl (hI.put0 (hI.wf.s rfl) rfl rfl) (hX.upI rfl) (fun g15 e15 hI hX => ?_)
        refine ev_loc f_X11_answer (nx := 6) rfl rfl rfl rfl ?_
        refine ev_retK1 f_X11_answer rfl rfl rfl ?_
        exact ev_ret f_X11_back rfl rfl rfl ⟨_, _, _, rfl, hI, hX, ⟨_, rfl, (Int.le_trans (by decide : ((-1):Int) ≤ 0) l9), u9⟩⟩
      · refine ev_aald f_X11_back (nx := 62) rfl (hI.wf.s rfl) rfl (t_idx (n := 3) l9 (by decide) u9 (by decide)).1 (t_idx (n := 3) l9 (by decide) u9 (by decide)).2 e13 rfl rfl ?_
        have hE16 := t_eqf_up (gr := g12) (j := 7) (v := .ref a13) (hI.wf.s (k := 0) rfl) rfl
        have hT16 := t_putRules hI (v := .ref a13) (Or.inr ⟨_, rfl, p13⟩)
        replace p7 := p7.ext hE16
        replace p13 := p13.ext hE16
        refine ev_putRT f_X11_back (nx := 65) rfl (hI.wf.s rfl) rfl rfl rfl rfl hT16 (hX.upR rfl hE16) (fun g16 e16 hI hX => ?_)
        rw [← e16] at p7
        rw [← e16] at p13
        refine ev_loc f_X11_back (nx := 66) rfl rfl rfl rfl ?_
        refine ev_loc f_X11_back (nx := 67) rfl rfl rfl rfl ?_
        refine ev_gvI f_X11_back (nx := 70) (w := z9) rfl (hI.wf.s rfl) rfl rfl (by rw [e10]; exact x_up2_at _ _ _ _ : g10 0 12 = z9) rfl ?_
        refine ev_inV2 f_X11_back (nx := 73) (lo2 := [(0, .ref 0), (1, .int z9)]) rfl rfl rfl rfl f_X11_answer (hI.wf.s rfl) rfl rfl rfl rfl rfl ?_
        refine ev_loc f_X11_answer (nx := 1) rfl rfl rfl rfl ?_
        refine ev_ic f_X11_answer (nx := 2) (v := 0) rfl (by decide) rfl ?_
        refine ev_putIT f_X11_answer (nx := 5) rfl (hI.wf.s rfl) rfl rfl rfl (hI.put0 (hI.wf.s rfl) rfl rfl) (hX.upI rfl) (fun g17 e17 hI hX => ?_)
        refine ev_loc f_X11_answer (nx := 6) rfl rfl rfl rfl ?_
        refine ev_retK1 f_X11_answer rfl rfl rfl ?_
        exact ev_ret f_X11_back rfl rfl rfl ⟨_, _, _, rfl, hI, hX, ⟨_, rfl, (Int.le_trans (by decide : ((-1):Int) ≤ 0) l9), u9⟩⟩
noncomputable def wl_h_write : List (Nat × Nat) := [(0, 0), (62, 9999), (64, 9999), (66, 9999), (68, 9999)]
theorem c_h_write {X : x_Ext} {d : Nat} {sh : List (Nat ⊕ (Nat × Nat))} {gi : Nat → Nat → Int32} {gl : Nat → Nat → Int64} {gr : Nat → Nat → Value} (hI : t_I sh gi gr) (ar1 : Int32) (ar2 : Int32) (ar3 : Int64) : x_Me X (d + 3) n_X11_write [.ref 0, .int ar1, .int ar2, .long ar3] (sh, gi, gl, gr) (t_P wl_h_write sh gi gl gr (t_Ri 0 1)) := by
  have hX : t_X wl_h_write sh gi gl gr gi gl gr := t_X.rf
  refine me_i f_X11_write (hI.wf.s rfl) rfl rfl rfl ?_
  refine ev_loc f_X11_write (nx := 1) rfl rfl rfl rfl ?_
  refine ev_loc f_X11_write (nx := 2) rfl rfl rfl rfl ?_
  refine ev_loc f_X11_write (nx := 3) rfl rfl rfl rfl ?_
  refine ev_inV3 f_X11_write (nx := 6) (lo2 := [(0, .ref 0), (1, .int ar1), (2, .int ar2)]) rfl rfl rfl rfl f_X11_wrongPlace (hI.wf.s rfl) rfl rfl rfl rfl rfl ?_
  refine ev_loc f_X11_wrongPlace (nx := 1) rfl rfl rfl rfl ?_
  refine ev_loc f_X11_wrongPlace (nx := 2) rfl rfl rfl rfl ?_
  refine ev_inV2 f_X11_wrongPlace (nx := 5) (lo2 := [(0, .ref 0), (1, .int ar1)]) rfl rfl rfl rfl f_X11_isTray (hI.wf.s rfl) rfl rfl rfl rfl rfl ?_
  refine ev_loc f_X11_isTray (nx := 1) rfl rfl rfl rfl ?_
  refine ev_if f_X11_isTray (t1 := 26) (t2 := 4) rfl rfl rfl (fun h1 => ?_) (fun h1 => ?_)
  · have u2 : ar1.toInt ≤ (-1) := t_ltu h1 (by decide : (0:Int32).toInt ≤ (0:Int)) rfl
    refine ev_ic f_X11_isTray (nx := 27) (v := 0) rfl (by decide) rfl ?_
    refine ev_retK1 f_X11_isTray rfl rfl rfl ?_
    refine ev_t f_X11_wrongPlace (t1 := 8) (t2 := 10) rfl rfl rfl (by decide) ?_
    refine ev_ic f_X11_wrongPlace (nx := 9) (v := 1) rfl (by decide) rfl ?_
    refine ev_retK1 f_X11_wrongPlace rfl rfl rfl ?_
    refine ev_loc f_X11_write (nx := 8) (lo' := [(5, .int 1), (0, .ref 0), (1, .int ar1), (2, .int ar2), (3, .long ar3)]) rfl rfl rfl rfl ?_
    refine ev_loc f_X11_write (nx := 10) rfl rfl rfl rfl ?_
    refine ev_f f_X11_write (t1 := 20) (t2 := 13) rfl rfl rfl (by decide) ?_
    refine ev_loc f_X11_write (nx := 14) rfl rfl rfl rfl ?_
    refine ev_loc f_X11_write (nx := 16) rfl rfl rfl rfl ?_
    refine ev_inV2 f_X11_write (nx := 19) (lo2 := [(0, .ref 0), (1, .int 1)]) rfl rfl rfl rfl f_X11_deny (hI.wf.s rfl) rfl rfl rfl rfl rfl ?_
    refine ev_loc f_X11_deny (nx := 1) rfl rfl rfl rfl ?_
    refine ev_loc f_X11_deny (nx := 2) rfl rfl rfl rfl ?_
    refine ev_putIT f_X11_deny (nx := 5) rfl (hI.wf.s rfl) rfl rfl rfl (hI.put0 (hI.wf.s rfl) rfl rfl) (hX.upI rfl) (fun g3 e3 hI hX => ?_)
    refine ev_ic f_X11_deny (nx := 6) (v := 0) rfl (by decide) rfl ?_
    refine ev_retK1 f_X11_deny rfl rfl rfl ?_
    exact ev_ret f_X11_write rfl rfl rfl ⟨_, _, _, rfl, hI, hX, ⟨_, rfl, (by decide : (0:Int) ≤ (0:Int32).toInt), (Int.le_trans (by decide : (0:Int32).toInt ≤ (0:Int)) (by decide : (0:Int) ≤ 1))⟩⟩
  · have l4 : 0 ≤ ar1.toInt := t_lel (t_nlt h1) (by decide : (0:Int) ≤ (0:Int32).toInt)
    refine ev_loc f_X11_isTray (nx := 5) rfl rfl rfl rfl ?_
    refine ev_loc f_X11_isTray (nx := 6) rfl rfl rfl rfl ?_
    refine ev_getR f_X11_isTray (nx := 9) rfl (hI.wf.s rfl) rfl rfl (hI.wf.r rfl) rfl rfl ?_
    refine ev_alenv f_X11_isTray (nx := 10) (w := 4) rfl (hI.wf.s rfl) rfl (by decide) rfl ?_
    refine ev_if f_X11_isTray (t1 := 26) (t2 := 13) rfl rfl rfl (fun h5 => ?_) (fun h5 => ?_)
    · have l6 : 4 ≤ ar1.toInt := t_lel h5 (by decide : (4:Int) ≤ (4:Int32).toInt)
      refine ev_ic f_X11_isTray (nx := 27) (v := 0) rfl (by decide) rfl ?_
      refine ev_retK1 f_X11_isTray rfl rfl rfl ?_
      refine ev_t f_X11_wrongPlace (t1 := 8) (t2 := 10) rfl rfl rfl (by decide) ?_
      refine ev_ic f_X11_wrongPlace (nx := 9) (v := 1) rfl (by decide) rfl ?_
      refine ev_retK1 f_X11_wrongPlace rfl rfl rfl ?_
      refine ev_loc f_X11_write (nx := 8) (lo' := [(5, .int 1), (0, .ref 0), (1, .int ar1), (2, .int ar2), (3, .long ar3)]) rfl rfl rfl rfl ?_
      refine ev_loc f_X11_write (nx := 10) rfl rfl rfl rfl ?_
      refine ev_f f_X11_write (t1 := 20) (t2 := 13) rfl rfl rfl (by decide) ?_
      refine ev_loc f_X11_write (nx := 14) rfl rfl rfl rfl ?_
      refine ev_loc f_X11_write (nx := 16) rfl rfl rfl rfl ?_
      refine ev_inV2 f_X11_write (nx := 19) (lo2 := [(0, .ref 0), (1, .int 1)]) rfl rfl rfl rfl f_X11_deny (hI.wf.s rfl) rfl rfl rfl rfl rfl ?_
      refine ev_loc f_X11_deny (nx := 1) rfl rfl rfl rfl ?_
      refine ev_loc f_X11_deny (nx := 2) rfl rfl rfl rfl ?_
      refine ev_putIT f_X11_deny (nx := 5) rfl (hI.wf.s rfl) rfl rfl rfl (hI.put0 (hI.wf.s rfl) rfl rfl) (hX.upI rfl) (fun g7 e7 hI hX => ?_)
      refine ev_ic f_X11_deny (nx := 6) (v := 0) rfl (by decide) rfl ?_
      refine ev_retK1 f_X11_deny rfl rfl rfl ?_
      exact ev_ret f_X11_write rfl rfl rfl ⟨_, _, _, rfl, hI, hX, ⟨_, rfl, (by decide : (0:Int) ≤ (0:Int32).toInt), (Int.le_trans (by decide : (0:Int32).toInt ≤ (0:Int)) (by decide : (0:Int) ≤ 1))⟩⟩
    · have u8 : ar1.toInt ≤ 3 := t_ltu (t_nle h5) (by decide : (4:Int32).toInt ≤ (4:Int)) rfl
      refine ev_loc f_X11_isTray (nx := 14) rfl rfl rfl rfl ?_
      refine ev_getR f_X11_isTray (nx := 17) rfl (hI.wf.s rfl) rfl rfl (hI.wf.r rfl) rfl rfl ?_
      refine ev_loc f_X11_isTray (nx := 18) rfl rfl rfl rfl ?_
      obtain ⟨a9, e9, p9⟩ := t_tray hI.wf l4 (by decide) u8 (by decide)
      refine ev_aald f_X11_isTray (nx := 19) rfl (hI.wf.s rfl) rfl (t_idx (n := 4) l4 (by decide) u8 (by decide)).1 (t_idx (n := 4) l4 (by decide) u8 (by decide)).2 e9 rfl rfl ?_
      refine ev_jmp f_X11_isTray (nx := 22) rfl rfl rfl ?_
      refine ev_ic f_X11_isTray (nx := 23) (v := 1) rfl (by decide) rfl ?_
      refine ev_jmp f_X11_isTray (nx := 27) rfl rfl rfl ?_
      refine ev_retK1 f_X11_isTray rfl rfl rfl ?_
      refine ev_f f_X11_wrongPlace (t1 := 8) (t2 := 10) rfl rfl rfl (by decide) ?_
      refine ev_loc f_X11_wrongPlace (nx := 11) rfl rfl rfl rfl ?_
      refine ev_getR f_X11_wrongPlace (nx := 14) rfl (hI.wf.s rfl) rfl rfl (hI.wf.r rfl) rfl rfl ?_
      refine ev_loc f_X11_wrongPlace (nx := 15) rfl rfl rfl rfl ?_
      obtain ⟨a10, e10, p10⟩ := t_tray hI.wf l4 (by decide) u8 (by decide)
      refine ev_aald f_X11_wrongPlace (nx := 16) rfl (hI.wf.s rfl) rfl (t_idx (n := 4) l4 (by decide) u8 (by decide)).1 (t_idx (n := 4) l4 (by decide) u8 (by decide)).2 e10 rfl rfl ?_
      refine ev_inV1 f_X11_wrongPlace (nx := 19) (lo2 := [(0, .ref a10)]) rfl rfl rfl rfl f_X10_isMissing p10.1 rfl rfl rfl rfl rfl ?_
      refine ev_loc f_X10_isMissing (nx := 1) rfl rfl rfl rfl ?_
      refine ev_getI f_X10_isMissing (nx := 4) rfl p10.1 rfl rfl rfl ?_
      obtain ⟨l11, u11⟩ := hI.b p10.1 (t_bdK rfl : t_bd 9 2 = some ((-1), 60))
      refine ev_ic f_X10_isMissing (nx := 5) (v := -1) rfl (by decide) rfl ?_
      refine ev_if f_X10_isMissing (t1 := 8) (t2 := 12) rfl rfl rfl (fun h12 => ?_) (fun h12 => ?_)
      · have u13 : (gi a10 2).toInt ≤ (-1) := t_equ h12 (by decide : ((-1):Int32).toInt ≤ ((-1):Int))
        refine ev_ic f_X10_isMissing (nx := 9) (v := 1) rfl (by decide) rfl ?_
        refine ev_jmp f_X10_isMissing (nx := 13) rfl rfl rfl ?_
        refine ev_retK1 f_X10_isMissing rfl rfl rfl ?_
        refine ev_f f_X11_wrongPlace (t1 := 24) (t2 := 22) rfl rfl rfl (by decide) ?_
        refine ev_ic f_X11_wrongPlace (nx := 23) (v := 2) rfl (by decide) rfl ?_
        refine ev_retK1 f_X11_wrongPlace rfl rfl rfl ?_
        refine ev_loc f_X11_write (nx := 8) (lo' := [(5, .int 2), (0, .ref 0), (1, .int ar1), (2, .int ar2), (3, .long ar3)]) rfl rfl rfl rfl ?_
        refine ev_loc f_X11_write (nx := 10) rfl rfl rfl rfl ?_
        refine ev_f f_X11_write (t1 := 20) (t2 := 13) rfl rfl rfl (by decide) ?_
        refine ev_loc f_X11_write (nx := 14) rfl rfl rfl rfl ?_
        refine ev_loc f_X11_write (nx := 16) rfl rfl rfl rfl ?_
        refine ev_inV2 f_X11_write (nx := 19) (lo2 := [(0, .ref 0), (1, .int 2)]) rfl rfl rfl rfl f_X11_deny (hI.wf.s rfl) rfl rfl rfl rfl rfl ?_
        refine ev_loc f_X11_deny (nx := 1) rfl rfl rfl rfl ?_
        refine ev_loc f_X11_deny (nx := 2) rfl rfl rfl rfl ?_
        refine ev_putIT f_X11_deny (nx := 5) rfl (hI.wf.s rfl) rfl rfl rfl (hI.put0 (hI.wf.s rfl) rfl rfl) (hX.upI rfl) (fun g14 e14 hI hX => ?_)
        refine ev_ic f_X11_deny (nx := 6) (v := 0) rfl (by decide) rfl ?_
        refine ev_retK1 f_X11_deny rfl rfl rfl ?_
        exact ev_ret f_X11_write rfl rfl rfl ⟨_, _, _, rfl, hI, hX, ⟨_, rfl, (by decide : (0:Int) ≤ (0:Int32).toInt), (Int.le_trans (by decide : (0:Int32).toInt ≤ (0:Int)) (by decide : (0:Int) ≤ 1))⟩⟩
      · have l15 : 0 ≤ (gi a10 2).toInt := t_nel h12 l11 rfl rfl
        refine ev_ic f_X10_isMissing (nx := 13) (v := 0) rfl (by decide) rfl ?_
        refine ev_retK1 f_X10_isMissing rfl rfl rfl ?_
        refine ev_t f_X11_wrongPlace (t1 := 24) (t2 := 22) rfl rfl rfl (by decide) ?_
        refine ev_loc f_X11_wrongPlace (nx := 25) rfl rfl rfl rfl ?_
        refine ev_if f_X11_wrongPlace (t1 := 46) (t2 := 28) rfl rfl rfl (fun h16 => ?_) (fun h16 => ?_)
        · have u17 : ar2.toInt ≤ (-1) := t_ltu h16 (by decide : (0:Int32).toInt ≤ (0:Int)) rfl
          refine ev_ic f_X11_wrongPlace (nx := 47) (v := 3) rfl (by decide) rfl ?_
          refine ev_retK1 f_X11_wrongPlace rfl rfl rfl ?_
          refine ev_loc f_X11_write (nx := 8) (lo' := [(5, .int 3), (0, .ref 0), (1, .int ar1), (2, .int ar2), (3, .long ar3)]) rfl rfl rfl rfl ?_
          refine ev_loc f_X11_write (nx := 10) rfl rfl rfl rfl ?_
          refine ev_f f_X11_write (t1 := 20) (t2 := 13) rfl rfl rfl (by decide) ?_
          refine ev_loc f_X11_write (nx := 14) rfl rfl rfl rfl ?_
          refine ev_loc f_X11_write (nx := 16) rfl rfl rfl rfl ?_
          refine ev_inV2 f_X11_write (nx := 19) (lo2 := [(0, .ref 0), (1, .int 3)]) rfl rfl rfl rfl f_X11_deny (hI.wf.s rfl) rfl rfl rfl rfl rfl ?_
          refine ev_loc f_X11_deny (nx := 1) rfl rfl rfl rfl ?_
          refine ev_loc f_X11_deny (nx := 2) rfl rfl rfl rfl ?_
          refine ev_putIT f_X11_deny (nx := 5) rfl (hI.wf.s rfl) rfl rfl rfl (hI.put0 (hI.wf.s rfl) rfl rfl) (hX.upI rfl) (fun g18 e18 hI hX => ?_)
          refine ev_ic f_X11_deny (nx := 6) (v := 0) rfl (by decide) rfl ?_
          refine ev_retK1 f_X11_deny rfl rfl rfl ?_
          exact ev_ret f_X11_write rfl rfl rfl ⟨_, _, _, rfl, hI, hX, ⟨_, rfl, (by decide : (0:Int) ≤ (0:Int32).toInt), (Int.le_trans (by decide : (0:Int32).toInt ≤ (0:Int)) (by decide : (0:Int) ≤ 1))⟩⟩
        · have l19 : 0 ≤ ar2.toInt := t_lel (t_nlt h16) (by decide : (0:Int) ≤ (0:Int32).toInt)
          refine ev_loc f_X11_wrongPlace (nx := 29) rfl rfl rfl rfl ?_
          refine ev_getR f_X11_wrongPlace (nx := 32) rfl (hI.wf.s rfl) rfl rfl (hI.wf.r rfl) rfl rfl ?_
          refine ev_loc f_X11_wrongPlace (nx := 33) rfl rfl rfl rfl ?_
          obtain ⟨a20, e20, p20⟩ := t_tray hI.wf l4 (by decide) u8 (by decide)
          refine ev_aald f_X11_wrongPlace (nx := 34) rfl (hI.wf.s rfl) rfl (t_idx (n := 4) l4 (by decide) u8 (by decide)).1 (t_idx (n := 4) l4 (by decide) u8 (by decide)).2 e20 rfl rfl ?_
          refine ev_loc f_X11_wrongPlace (nx := 35) rfl rfl rfl rfl ?_
          refine ev_ic f_X11_wrongPlace (nx := 36) (v := 1) rfl (by decide) rfl ?_
          refine ev_inV3 f_X11_wrongPlace (nx := 39) (lo2 := [(0, .ref a20), (1, .int ar2), (2, .int 1)]) rfl rfl rfl rfl f_X10_hasStretch p20.1 rfl rfl rfl rfl rfl ?_
          refine ev_loc f_X10_hasStretch (nx := 1) rfl rfl rfl rfl ?_
          refine ev_loc f_X10_hasStretch (nx := 2) rfl rfl rfl rfl ?_
          refine ev_getI f_X10_hasStretch (nx := 5) rfl p20.1 rfl rfl rfl ?_
          obtain ⟨l21, u21⟩ := hI.b p20.1 (t_bdK rfl : t_bd 9 2 = some ((-1), 60))
          refine ev_if f_X10_hasStretch (t1 := 22) (t2 := 8) rfl rfl rfl (fun h22 => ?_) (fun h22 => ?_)
          · refine ev_ic f_X10_hasStretch (nx := 23) (v := 0) rfl (by decide) rfl ?_
            refine ev_retK1 f_X10_hasStretch rfl rfl rfl ?_
            refine ev_t f_X11_wrongPlace (t1 := 46) (t2 := 42) rfl rfl rfl (by decide) ?_
            refine ev_ic f_X11_wrongPlace (nx := 47) (v := 3) rfl (by decide) rfl ?_
            refine ev_retK1 f_X11_wrongPlace rfl rfl rfl ?_
            refine ev_loc f_X11_write (nx := 8) (lo' := [(5, .int 3), (0, .ref 0), (1, .int ar1), (2, .int ar2), (3, .long ar3)]) rfl rfl rfl rfl ?_
            refine ev_loc f_X11_write (nx := 10) rfl rfl rfl rfl ?_
            refine ev_f f_X11_write (t1 := 20) (t2 := 13) rfl rfl rfl (by decide) ?_
            refine ev_loc f_X11_write (nx := 14) rfl rfl rfl rfl ?_
            refine ev_loc f_X11_write (nx := 16) rfl rfl rfl rfl ?_
            refine ev_inV2 f_X11_write (nx := 19) (lo2 := [(0, .ref 0), (1, .int 3)]) rfl rfl rfl rfl f_X11_deny (hI.wf.s rfl) rfl rfl rfl rfl rfl ?_
            refine ev_loc f_X11_deny (nx := 1) rfl rfl rfl rfl ?_
            refine ev_loc f_X11_deny (nx := 2) rfl rfl rfl rfl ?_
            refine ev_putIT f_X11_deny (nx := 5) rfl (hI.wf.s rfl) rfl rfl rfl (hI.put0 (hI.wf.s rfl) rfl rfl) (hX.upI rfl) (fun g23 e23 hI hX => ?_)
            refine ev_ic f_X11_deny (nx := 6) (v := 0) rfl (by decide) rfl ?_
            refine ev_retK1 f_X11_deny rfl rfl rfl ?_
            exact ev_ret f_X11_write rfl rfl rfl ⟨_, _, _, rfl, hI, hX, ⟨_, rfl, (by decide : (0:Int) ≤ (0:Int32).toInt), (Int.le_trans (by decide : (0:Int32).toInt ≤ (0:Int)) (by decide : (0:Int) ≤ 1))⟩⟩
          · have u24 : ar2.toInt ≤ 60 := t_leu (t_nlt h22) u21
            have l25 : 0 ≤ (gi a20 2).toInt := t_lel (t_nlt h22) l19
            refine ev_loc f_X10_hasStretch (nx := 9) rfl rfl rfl rfl ?_
            refine ev_loc f_X10_hasStretch (nx := 10) rfl rfl rfl rfl ?_
            refine ev_gvI f_X10_hasStretch (nx := 13) (w := (gi a20 2)) rfl p20.1 rfl rfl rfl rfl ?_
            refine ev_loc f_X10_hasStretch (nx := 14) rfl rfl rfl rfl ?_
            refine ev_subR f_X10_hasStretch (nx := 15) (l := (-60)) (u := 60) rfl l25 u21 l19 u24 rfl rfl (by decide) (by decide) rfl (fun z26 e26 l26 u26 => ?_)
            refine ev_if f_X10_hasStretch (t1 := 22) (t2 := 18) rfl rfl rfl (fun h27 => ?_) (fun h27 => ?_)
            · have u28 : z26.toInt ≤ 0 := t_ltu h27 (by decide : (1:Int32).toInt ≤ (1:Int)) rfl
              refine ev_ic f_X10_hasStretch (nx := 23) (v := 0) rfl (by decide) rfl ?_
              refine ev_retK1 f_X10_hasStretch rfl rfl rfl ?_
              refine ev_t f_X11_wrongPlace (t1 := 46) (t2 := 42) rfl rfl rfl (by decide) ?_
              refine ev_ic f_X11_wrongPlace (nx := 47) (v := 3) rfl (by decide) rfl ?_
              refine ev_retK1 f_X11_wrongPlace rfl rfl rfl ?_
              refine ev_loc f_X11_write (nx := 8) (lo' := [(5, .int 3), (0, .ref 0), (1, .int ar1), (2, .int ar2), (3, .long ar3)]) rfl rfl rfl rfl ?_
              refine ev_loc f_X11_write (nx := 10) rfl rfl rfl rfl ?_
              refine ev_f f_X11_write (t1 := 20) (t2 := 13) rfl rfl rfl (by decide) ?_
              refine ev_loc f_X11_write (nx := 14) rfl rfl rfl rfl ?_
              refine ev_loc f_X11_write (nx := 16) rfl rfl rfl rfl ?_
              refine ev_inV2 f_X11_write (nx := 19) (lo2 := [(0, .ref 0), (1, .int 3)]) rfl rfl rfl rfl f_X11_deny (hI.wf.s rfl) rfl rfl rfl rfl rfl ?_
              refine ev_loc f_X11_deny (nx := 1) rfl rfl rfl rfl ?_
              refine ev_loc f_X11_deny (nx := 2) rfl rfl rfl rfl ?_
              refine ev_putIT f_X11_deny (nx := 5) rfl (hI.wf.s rfl) rfl rfl rfl (hI.put0 (hI.wf.s rfl) rfl rfl) (hX.upI rfl) (fun g29 e29 hI hX => ?_)
              refine ev_ic f_X11_deny (nx := 6) (v := 0) rfl (by decide) rfl ?_
              refine ev_retK1 f_X11_deny rfl rfl rfl ?_
              exact ev_ret f_X11_write rfl rfl rfl ⟨_, _, _, rfl, hI, hX, ⟨_, rfl, (by decide : (0:Int) ≤ (0:Int32).toInt), (Int.le_trans (by decide : (0:Int32).toInt ≤ (0:Int)) (by decide : (0:Int) ≤ 1))⟩⟩
            · have l30 : 1 ≤ z26.toInt := t_lel (t_nlt h27) (by decide : (1:Int) ≤ (1:Int32).toInt)
              have u31 : ar2.toInt ≤ 59 := by have := u21; omega
              refine ev_ic f_X10_hasStretch (nx := 19) (v := 1) rfl (by decide) rfl ?_
              refine ev_jmp f_X10_hasStretch (nx := 23) rfl rfl rfl ?_
              refine ev_retK1 f_X10_hasStretch rfl rfl rfl ?_
              refine ev_f f_X11_wrongPlace (t1 := 46) (t2 := 42) rfl rfl rfl (by decide) ?_
              refine ev_ic f_X11_wrongPlace (nx := 43) (v := 0) rfl (by decide) rfl ?_
              refine ev_jmp f_X11_wrongPlace (nx := 47) rfl rfl rfl ?_
              refine ev_retK1 f_X11_wrongPlace rfl rfl rfl ?_
              refine ev_loc f_X11_write (nx := 8) (lo' := [(5, .int 0), (0, .ref 0), (1, .int ar1), (2, .int ar2), (3, .long ar3)]) rfl rfl rfl rfl ?_
              refine ev_loc f_X11_write (nx := 10) rfl rfl rfl rfl ?_
              refine ev_t f_X11_write (t1 := 20) (t2 := 13) rfl rfl rfl (by decide) ?_
              refine ev_loc f_X11_write (nx := 21) rfl rfl rfl rfl ?_
              refine ev_getR f_X11_write (nx := 24) rfl (hI.wf.s rfl) rfl rfl (hI.wf.r rfl) rfl rfl ?_
              refine ev_loc f_X11_write (nx := 25) rfl rfl rfl rfl ?_
              obtain ⟨a32, e32, p32⟩ := t_tray hI.wf l4 (by decide) u8 (by decide)
              refine ev_aald f_X11_write (nx := 26) rfl (hI.wf.s rfl) rfl (t_idx (n := 4) l4 (by decide) u8 (by decide)).1 (t_idx (n := 4) l4 (by decide) u8 (by decide)).2 e32 rfl rfl ?_
              refine ev_loc f_X11_write (nx := 27) rfl rfl rfl rfl ?_
              refine ev_loc f_X11_write (nx := 28) rfl rfl rfl rfl ?_
              refine ev_inV3 f_X11_write (nx := 31) (lo2 := [(0, .ref a32), (1, .int ar2), (2, .long ar3)]) rfl rfl rfl rfl f_X10_put p32.1 rfl rfl rfl rfl rfl ?_
              refine ev_loc f_X10_put (nx := 1) rfl rfl rfl rfl ?_
              refine ev_f f_X10_put (t1 := 13) (t2 := 4) rfl rfl rfl (t_ltF (by decide : (0:Int32).toInt ≤ (0:Int)) l19 (by decide)) ?_
              refine ev_loc f_X10_put (nx := 5) rfl rfl rfl rfl ?_
              refine ev_loc f_X10_put (nx := 6) rfl rfl rfl rfl ?_
              have e33 := p32.2.1.1
              have s33 := p32.2.1.2
              refine ev_getR f_X10_put (nx := 9) rfl p32.1 rfl rfl e33 rfl rfl ?_
              refine ev_alenv f_X10_put (nx := 10) (w := 60) rfl s33 rfl (by decide) rfl ?_
              refine ev_t f_X10_put (t1 := 14) (t2 := 13) rfl rfl rfl (t_ltT u31 (by decide : (60:Int) ≤ (60:Int32).toInt) (by decide)) ?_
              refine ev_loc f_X10_put (nx := 15) rfl rfl rfl rfl ?_
              refine ev_getI f_X10_put (nx := 18) rfl p32.1 rfl rfl rfl ?_
              have h34 : (gi a32 1).toInt = 0 ∨ (gi a32 1).toInt = 1 ∨ (gi a32 1).toInt = 2 ∨ ((gi a32 1).toInt ≠ 0 ∧ (gi a32 1).toInt ≠ 1 ∧ (gi a32 1).toInt ≠ 2) := by have := (t_lo (gi a32 1)); have := (t_hi (gi a32 1)); omega
              rcases h34 with h34 | h34 | h34 | h34
              · refine ev_swt f_X10_put (nx := 44) (c := 0) rfl h34 rfl ?_
                refine ev_loc f_X10_put (nx := 45) rfl rfl rfl rfl ?_
                refine ev_getR f_X10_put (nx := 48) (v := .ref (a32 + 1)) rfl p32.1 rfl rfl e33 rfl rfl ?_
                refine ev_loc f_X10_put (nx := 49) rfl rfl rfl rfl ?_
                refine ev_loc f_X10_put (nx := 50) rfl rfl rfl rfl ?_
                refine ev_anyI f_X10_put (nx := 51) rfl rfl rfl rfl (fun z35 => ?_)
                refine ev_anyI f_X10_put (nx := 52) rfl rfl rfl rfl (fun z36 => ?_)
                refine ev_anyL f_X10_put (nx := 53) rfl rfl rfl rfl (fun z37 => ?_)
                refine ev_lastT f_X10_put (nx := 54) rfl s33 l19 (by decide) u31 (by decide) rfl (hX.upL (t_in4A p32.2.2 rfl)) (fun g38 e38 hX => ?_)
                refine ev_jmp f_X10_put (nx := 89) rfl rfl rfl ?_
                refine ev_retK0 f_X10_put rfl rfl rfl ?_
                refine ev_loc f_X11_write (nx := 32) rfl rfl rfl rfl ?_
                refine ev_inV1 f_X11_write (nx := 35) (lo2 := [(0, .ref 0)]) rfl rfl rfl rfl f_X11_grant (hI.wf.s rfl) rfl rfl rfl rfl rfl ?_
                refine ev_loc f_X11_grant (nx := 1) rfl rfl rfl rfl ?_
                refine ev_ic f_X11_grant (nx := 2) (v := 0) rfl (by decide) rfl ?_
                refine ev_putIT f_X11_grant (nx := 5) rfl (hI.wf.s rfl) rfl rfl rfl (hI.put0 (hI.wf.s rfl) rfl rfl) (hX.upI rfl) (fun g39 e39 hI hX => ?_)
                refine ev_ic f_X11_grant (nx := 6) (v := 1) rfl (by decide) rfl ?_
                refine ev_retK1 f_X11_grant rfl rfl rfl ?_
                exact ev_ret f_X11_write rfl rfl rfl ⟨_, _, _, rfl, hI, hX, ⟨_, rfl, (Int.le_trans (by decide : (0:Int) ≤ 1) (by decide : (1:Int) ≤ (1:Int32).toInt)), (by decide : (1:Int32).toInt ≤ (1:Int))⟩⟩
              · refine ev_swt f_X10_put (nx := 57) (c := 1) rfl h34 rfl ?_
                refine ev_loc f_X10_put (nx := 58) rfl rfl rfl rfl ?_
                refine ev_getR f_X10_put (nx := 61) (v := .ref (a32 + 1)) rfl p32.1 rfl rfl e33 rfl rfl ?_
                refine ev_loc f_X10_put (nx := 62) rfl rfl rfl rfl ?_
                refine ev_loc f_X10_put (nx := 63) rfl rfl rfl rfl ?_
                refine ev_anyI f_X10_put (nx := 64) rfl rfl rfl rfl (fun z40 => ?_)
                refine ev_anyI f_X10_put (nx := 65) rfl rfl rfl rfl (fun z41 => ?_)
                refine ev_anyL f_X10_put (nx := 66) rfl rfl rfl rfl (fun z42 => ?_)
                refine ev_lastT f_X10_put (nx := 67) rfl s33 l19 (by decide) u31 (by decide) rfl (hX.upL (t_in4A p32.2.2 rfl)) (fun g43 e43 hX => ?_)
                refine ev_jmp f_X10_put (nx := 89) rfl rfl rfl ?_
                refine ev_retK0 f_X10_put rfl rfl rfl ?_
                refine ev_loc f_X11_write (nx := 32) rfl rfl rfl rfl ?_
                refine ev_inV1 f_X11_write (nx := 35) (lo2 := [(0, .ref 0)]) rfl rfl rfl rfl f_X11_grant (hI.wf.s rfl) rfl rfl rfl rfl rfl ?_
                refine ev_loc f_X11_grant (nx := 1) rfl rfl rfl rfl ?_
                refine ev_ic f_X11_grant (nx := 2) (v := 0) rfl (by decide) rfl ?_
                refine ev_putIT f_X11_grant (nx := 5) rfl (hI.wf.s rfl) rfl rfl rfl (hI.put0 (hI.wf.s rfl) rfl rfl) (hX.upI rfl) (fun g44 e44 hI hX => ?_)
                refine ev_ic f_X11_grant (nx := 6) (v := 1) rfl (by decide) rfl ?_
                refine ev_retK1 f_X11_grant rfl rfl rfl ?_
                exact ev_ret f_X11_write rfl rfl rfl ⟨_, _, _, rfl, hI, hX, ⟨_, rfl, (Int.le_trans (by decide : (0:Int) ≤ 1) (by decide : (1:Int) ≤ (1:Int32).toInt)), (by decide : (1:Int32).toInt ≤ (1:Int))⟩⟩
              · refine ev_swt f_X10_put (nx := 70) (c := 2) rfl h34 rfl ?_
                refine ev_loc f_X10_put (nx := 71) rfl rfl rfl rfl ?_
                refine ev_getR f_X10_put (nx := 74) (v := .ref (a32 + 1)) rfl p32.1 rfl rfl e33 rfl rfl ?_
                refine ev_loc f_X10_put (nx := 75) rfl rfl rfl rfl ?_
                refine ev_loc f_X10_put (nx := 76) rfl rfl rfl rfl ?_
                refine ev_anyI f_X10_put (nx := 77) rfl rfl rfl rfl (fun z45 => ?_)
                refine ev_anyL f_X10_put (nx := 78) rfl rfl rfl rfl (fun z46 => ?_)
                refine ev_lastT f_X10_put (nx := 79) rfl s33 l19 (by decide) u31 (by decide) rfl (hX.upL (t_in4A p32.2.2 rfl)) (fun g47 e47 hX => ?_)
                refine ev_jmp f_X10_put (nx := 89) rfl rfl rfl ?_
                refine ev_retK0 f_X10_put rfl rfl rfl ?_
                refine ev_loc f_X11_write (nx := 32) rfl rfl rfl rfl ?_
                refine ev_inV1 f_X11_write (nx := 35) (lo2 := [(0, .ref 0)]) rfl rfl rfl rfl f_X11_grant (hI.wf.s rfl) rfl rfl rfl rfl rfl ?_
                refine ev_loc f_X11_grant (nx := 1) rfl rfl rfl rfl ?_
                refine ev_ic f_X11_grant (nx := 2) (v := 0) rfl (by decide) rfl ?_
                refine ev_putIT f_X11_grant (nx := 5) rfl (hI.wf.s rfl) rfl rfl rfl (hI.put0 (hI.wf.s rfl) rfl rfl) (hX.upI rfl) (fun g48 e48 hI hX => ?_)
                refine ev_ic f_X11_grant (nx := 6) (v := 1) rfl (by decide) rfl ?_
                refine ev_retK1 f_X11_grant rfl rfl rfl ?_
                exact ev_ret f_X11_write rfl rfl rfl ⟨_, _, _, rfl, hI, hX, ⟨_, rfl, (Int.le_trans (by decide : (0:Int) ≤ 1) (by decide : (1:Int) ≤ (1:Int32).toInt)), (by decide : (1:Int32).toInt ≤ (1:Int))⟩⟩
              · refine ev_swtd f_X10_put (nx := 82) rfl (by omega) (by decide) rfl ?_
                refine ev_loc f_X10_put (nx := 83) rfl rfl rfl rfl ?_
                refine ev_getR f_X10_put (nx := 86) (v := .ref (a32 + 1)) rfl p32.1 rfl rfl e33 rfl rfl ?_
                refine ev_loc f_X10_put (nx := 87) rfl rfl rfl rfl ?_
                refine ev_loc f_X10_put (nx := 88) rfl rfl rfl rfl ?_
                refine ev_lastT f_X10_put (nx := 89) rfl s33 l19 (by decide) u31 (by decide) rfl (hX.upL (t_in4A p32.2.2 rfl)) (fun g49 e49 hX => ?_)
                refine ev_retK0 f_X10_put rfl rfl rfl ?_
                refine ev_loc f_X11_write (nx := 32) rfl rfl rfl rfl ?_
                refine ev_inV1 f_X11_write (nx := 35) (lo2 := [(0, .ref 0)]) rfl rfl rfl rfl f_X11_grant (hI.wf.s rfl) rfl rfl rfl rfl rfl ?_
                refine ev_loc f_X11_grant (nx := 1) rfl rfl rfl rfl ?_
                refine ev_ic f_X11_grant (nx := 2) (v := 0) rfl (by decide) rfl ?_
                refine ev_putIT f_X11_grant (nx := 5) rfl (hI.wf.s rfl) rfl rfl rfl (hI.put0 (hI.wf.s rfl) rfl rfl) (hX.upI rfl) (fun g50 e50 hI hX => ?_)
                refine ev_ic f_X11_grant (nx := 6) (v := 1) rfl (by decide) rfl ?_
                refine ev_retK1 f_X11_grant rfl rfl rfl ?_
                exact ev_ret f_X11_write rfl rfl rfl ⟨_, _, _, rfl, hI, hX, ⟨_, rfl, (Int.le_trans (by decide : (0:Int) ≤ 1) (by decide : (1:Int) ≤ (1:Int32).toInt)), (by decide : (1:Int32).toInt ≤ (1:Int))⟩⟩
noncomputable def wl_h_read : List (Nat × Nat) := [(0, 0)]
theorem c_h_read {X : x_Ext} {d : Nat} {sh : List (Nat ⊕ (Nat × Nat))} {gi : Nat → Nat → Int32} {gl : Nat → Nat → Int64} {gr : Nat → Nat → Value} (hI : t_I sh gi gr) (ar1 : Int32) (ar2 : Int32) : x_Me X (d + 3) n_X11_read [.ref 0, .int ar1, .int ar2] (sh, gi, gl, gr) (t_P wl_h_read sh gi gl gr t_Rl) := by
  have hX : t_X wl_h_read sh gi gl gr gi gl gr := t_X.rf
  refine me_i f_X11_read (hI.wf.s rfl) rfl rfl rfl ?_
  refine ev_loc f_X11_read (nx := 1) rfl rfl rfl rfl ?_
  refine ev_loc f_X11_read (nx := 2) rfl rfl rfl rfl ?_
  refine ev_loc f_X11_read (nx := 3) rfl rfl rfl rfl ?_
  refine ev_inV3 f_X11_read (nx := 6) (lo2 := [(0, .ref 0), (1, .int ar1), (2, .int ar2)]) rfl rfl rfl rfl f_X11_wrongPlace (hI.wf.s rfl) rfl rfl rfl rfl rfl ?_
  refine ev_loc f_X11_wrongPlace (nx := 1) rfl rfl rfl rfl ?_
  refine ev_loc f_X11_wrongPlace (nx := 2) rfl rfl rfl rfl ?_
  refine ev_inV2 f_X11_wrongPlace (nx := 5) (lo2 := [(0, .ref 0), (1, .int ar1)]) rfl rfl rfl rfl f_X11_isTray (hI.wf.s rfl) rfl rfl rfl rfl rfl ?_
  refine ev_loc f_X11_isTray (nx := 1) rfl rfl rfl rfl ?_
  refine ev_if f_X11_isTray (t1 := 26) (t2 := 4) rfl rfl rfl (fun h1 => ?_) (fun h1 => ?_)
  · have u2 : ar1.toInt ≤ (-1) := t_ltu h1 (by decide : (0:Int32).toInt ≤ (0:Int)) rfl
    refine ev_ic f_X11_isTray (nx := 27) (v := 0) rfl (by decide) rfl ?_
    refine ev_retK1 f_X11_isTray rfl rfl rfl ?_
    refine ev_t f_X11_wrongPlace (t1 := 8) (t2 := 10) rfl rfl rfl (by decide) ?_
    refine ev_ic f_X11_wrongPlace (nx := 9) (v := 1) rfl (by decide) rfl ?_
    refine ev_retK1 f_X11_wrongPlace rfl rfl rfl ?_
    refine ev_loc f_X11_read (nx := 7) (lo' := [(3, .int 1), (0, .ref 0), (1, .int ar1), (2, .int ar2)]) rfl rfl rfl rfl ?_
    refine ev_loc f_X11_read (nx := 8) rfl rfl rfl rfl ?_
    refine ev_f f_X11_read (t1 := 18) (t2 := 11) rfl rfl rfl (by decide) ?_
    refine ev_loc f_X11_read (nx := 12) rfl rfl rfl rfl ?_
    refine ev_loc f_X11_read (nx := 13) rfl rfl rfl rfl ?_
    refine ev_inV2 f_X11_read (nx := 16) (lo2 := [(0, .ref 0), (1, .int 1)]) rfl rfl rfl rfl f_X11_refuse (hI.wf.s rfl) rfl rfl rfl rfl rfl ?_
    refine ev_loc f_X11_refuse (nx := 1) rfl rfl rfl rfl ?_
    refine ev_loc f_X11_refuse (nx := 2) rfl rfl rfl rfl ?_
    refine ev_putIT f_X11_refuse (nx := 5) rfl (hI.wf.s rfl) rfl rfl rfl (hI.put0 (hI.wf.s rfl) rfl rfl) (hX.upI rfl) (fun g3 e3 hI hX => ?_)
    refine ev_ic f_X11_refuse (nx := 6) (v := -1) rfl (by decide) rfl ?_
    refine ev_retK1 f_X11_refuse rfl rfl rfl ?_
    refine ev_aluvL f_X11_read (nx := 17) (w := -1) rfl rfl rfl (by decide) rfl ?_
    exact ev_ret f_X11_read rfl rfl rfl ⟨_, _, _, rfl, hI, hX, ⟨_, rfl⟩⟩
  · have l4 : 0 ≤ ar1.toInt := t_lel (t_nlt h1) (by decide : (0:Int) ≤ (0:Int32).toInt)
    refine ev_loc f_X11_isTray (nx := 5) rfl rfl rfl rfl ?_
    refine ev_loc f_X11_isTray (nx := 6) rfl rfl rfl rfl ?_
    refine ev_getR f_X11_isTray (nx := 9) rfl (hI.wf.s rfl) rfl rfl (hI.wf.r rfl) rfl rfl ?_
    refine ev_alenv f_X11_isTray (nx := 10) (w := 4) rfl (hI.wf.s rfl) rfl (by decide) rfl ?_
    refine ev_if f_X11_isTray (t1 := 26) (t2 := 13) rfl rfl rfl (fun h5 => ?_) (fun h5 => ?_)
    · have l6 : 4 ≤ ar1.toInt := t_lel h5 (by decide : (4:Int) ≤ (4:Int32).toInt)
      refine ev_ic f_X11_isTray (nx := 27) (v := 0) rfl (by decide) rfl ?_
      refine ev_retK1 f_X11_isTray rfl rfl rfl ?_
      refine ev_t f_X11_wrongPlace (t1 := 8) (t2 := 10) rfl rfl rfl (by decide) ?_
      refine ev_ic f_X11_wrongPlace (nx := 9) (v := 1) rfl (by decide) rfl ?_
      refine ev_retK1 f_X11_wrongPlace rfl rfl rfl ?_
      refine ev_loc f_X11_read (nx := 7) (lo' := [(3, .int 1), (0, .ref 0), (1, .int ar1), (2, .int ar2)]) rfl rfl rfl rfl ?_
      refine ev_loc f_X11_read (nx := 8) rfl rfl rfl rfl ?_
      refine ev_f f_X11_read (t1 := 18) (t2 := 11) rfl rfl rfl (by decide) ?_
      refine ev_loc f_X11_read (nx := 12) rfl rfl rfl rfl ?_
      refine ev_loc f_X11_read (nx := 13) rfl rfl rfl rfl ?_
      refine ev_inV2 f_X11_read (nx := 16) (lo2 := [(0, .ref 0), (1, .int 1)]) rfl rfl rfl rfl f_X11_refuse (hI.wf.s rfl) rfl rfl rfl rfl rfl ?_
      refine ev_loc f_X11_refuse (nx := 1) rfl rfl rfl rfl ?_
      refine ev_loc f_X11_refuse (nx := 2) rfl rfl rfl rfl ?_
      refine ev_putIT f_X11_refuse (nx := 5) rfl (hI.wf.s rfl) rfl rfl rfl (hI.put0 (hI.wf.s rfl) rfl rfl) (hX.upI rfl) (fun g7 e7 hI hX => ?_)
      refine ev_ic f_X11_refuse (nx := 6) (v := -1) rfl (by decide) rfl ?_
      refine ev_retK1 f_X11_refuse rfl rfl rfl ?_
      refine ev_aluvL f_X11_read (nx := 17) (w := -1) rfl rfl rfl (by decide) rfl ?_
      exact ev_ret f_X11_read rfl rfl rfl ⟨_, _, _, rfl, hI, hX, ⟨_, rfl⟩⟩
    · have u8 : ar1.toInt ≤ 3 := t_ltu (t_nle h5) (by decide : (4:Int32).toInt ≤ (4:Int)) rfl
      refine ev_loc f_X11_isTray (nx := 14) rfl rfl rfl rfl ?_
      refine ev_getR f_X11_isTray (nx := 17) rfl (hI.wf.s rfl) rfl rfl (hI.wf.r rfl) rfl rfl ?_
      refine ev_loc f_X11_isTray (nx := 18) rfl rfl rfl rfl ?_
      obtain ⟨a9, e9, p9⟩ := t_tray hI.wf l4 (by decide) u8 (by decide)
      refine ev_aald f_X11_isTray (nx := 19) rfl (hI.wf.s rfl) rfl (t_idx (n := 4) l4 (by decide) u8 (by decide)).1 (t_idx (n := 4) l4 (by decide) u8 (by decide)).2 e9 rfl rfl ?_
      refine ev_jmp f_X11_isTray (nx := 22) rfl rfl rfl ?_
      refine ev_ic f_X11_isTray (nx := 23) (v := 1) rfl (by decide) rfl ?_
      refine ev_jmp f_X11_isTray (nx := 27) rfl rfl rfl ?_
      refine ev_retK1 f_X11_isTray rfl rfl rfl ?_
      refine ev_f f_X11_wrongPlace (t1 := 8) (t2 := 10) rfl rfl rfl (by decide) ?_
      refine ev_loc f_X11_wrongPlace (nx := 11) rfl rfl rfl rfl ?_
      refine ev_getR f_X11_wrongPlace (nx := 14) rfl (hI.wf.s rfl) rfl rfl (hI.wf.r rfl) rfl rfl ?_
      refine ev_loc f_X11_wrongPlace (nx := 15) rfl rfl rfl rfl ?_
      obtain ⟨a10, e10, p10⟩ := t_tray hI.wf l4 (by decide) u8 (by decide)
      refine ev_aald f_X11_wrongPlace (nx := 16) rfl (hI.wf.s rfl) rfl (t_idx (n := 4) l4 (by decide) u8 (by decide)).1 (t_idx (n := 4) l4 (by decide) u8 (by decide)).2 e10 rfl rfl ?_
      refine ev_inV1 f_X11_wrongPlace (nx := 19) (lo2 := [(0, .ref a10)]) rfl rfl rfl rfl f_X10_isMissing p10.1 rfl rfl rfl rfl rfl ?_
      refine ev_loc f_X10_isMissing (nx := 1) rfl rfl rfl rfl ?_
      refine ev_getI f_X10_isMissing (nx := 4) rfl p10.1 rfl rfl rfl ?_
      obtain ⟨l11, u11⟩ := hI.b p10.1 (t_bdK rfl : t_bd 9 2 = some ((-1), 60))
      refine ev_ic f_X10_isMissing (nx := 5) (v := -1) rfl (by decide) rfl ?_
      refine ev_if f_X10_isMissing (t1 := 8) (t2 := 12) rfl rfl rfl (fun h12 => ?_) (fun h12 => ?_)
      · have u13 : (gi a10 2).toInt ≤ (-1) := t_equ h12 (by decide : ((-1):Int32).toInt ≤ ((-1):Int))
        refine ev_ic f_X10_isMissing (nx := 9) (v := 1) rfl (by decide) rfl ?_
        refine ev_jmp f_X10_isMissing (nx := 13) rfl rfl rfl ?_
        refine ev_retK1 f_X10_isMissing rfl rfl rfl ?_
        refine ev_f f_X11_wrongPlace (t1 := 24) (t2 := 22) rfl rfl rfl (by decide) ?_
        refine ev_ic f_X11_wrongPlace (nx := 23) (v := 2) rfl (by decide) rfl ?_
        refine ev_retK1 f_X11_wrongPlace rfl rfl rfl ?_
        refine ev_loc f_X11_read (nx := 7) (lo' := [(3, .int 2), (0, .ref 0), (1, .int ar1), (2, .int ar2)]) rfl rfl rfl rfl ?_
        refine ev_loc f_X11_read (nx := 8) rfl rfl rfl rfl ?_
        refine ev_f f_X11_read (t1 := 18) (t2 := 11) rfl rfl rfl (by decide) ?_
        refine ev_loc f_X11_read (nx := 12) rfl rfl rfl rfl ?_
        refine ev_loc f_X11_read (nx := 13) rfl rfl rfl rfl ?_
        refine ev_inV2 f_X11_read (nx := 16) (lo2 := [(0, .ref 0), (1, .int 2)]) rfl rfl rfl rfl f_X11_refuse (hI.wf.s rfl) rfl rfl rfl rfl rfl ?_
        refine ev_loc f_X11_refuse (nx := 1) rfl rfl rfl rfl ?_
        refine ev_loc f_X11_refuse (nx := 2) rfl rfl rfl rfl ?_
        refine ev_putIT f_X11_refuse (nx := 5) rfl (hI.wf.s rfl) rfl rfl rfl (hI.put0 (hI.wf.s rfl) rfl rfl) (hX.upI rfl) (fun g14 e14 hI hX => ?_)
        refine ev_ic f_X11_refuse (nx := 6) (v := -1) rfl (by decide) rfl ?_
        refine ev_retK1 f_X11_refuse rfl rfl rfl ?_
        refine ev_aluvL f_X11_read (nx := 17) (w := -1) rfl rfl rfl (by decide) rfl ?_
        exact ev_ret f_X11_read rfl rfl rfl ⟨_, _, _, rfl, hI, hX, ⟨_, rfl⟩⟩
      · have l15 : 0 ≤ (gi a10 2).toInt := t_nel h12 l11 rfl rfl
        refine ev_ic f_X10_isMissing (nx := 13) (v := 0) rfl (by decide) rfl ?_
        refine ev_retK1 f_X10_isMissing rfl rfl rfl ?_
        refine ev_t f_X11_wrongPlace (t1 := 24) (t2 := 22) rfl rfl rfl (by decide) ?_
        refine ev_loc f_X11_wrongPlace (nx := 25) rfl rfl rfl rfl ?_
        refine ev_if f_X11_wrongPlace (t1 := 46) (t2 := 28) rfl rfl rfl (fun h16 => ?_) (fun h16 => ?_)
        · have u17 : ar2.toInt ≤ (-1) := t_ltu h16 (by decide : (0:Int32).toInt ≤ (0:Int)) rfl
          refine ev_ic f_X11_wrongPlace (nx := 47) (v := 3) rfl (by decide) rfl ?_
          refine ev_retK1 f_X11_wrongPlace rfl rfl rfl ?_
          refine ev_loc f_X11_read (nx := 7) (lo' := [(3, .int 3), (0, .ref 0), (1, .int ar1), (2, .int ar2)]) rfl rfl rfl rfl ?_
          refine ev_loc f_X11_read (nx := 8) rfl rfl rfl rfl ?_
          refine ev_f f_X11_read (t1 := 18) (t2 := 11) rfl rfl rfl (by decide) ?_
          refine ev_loc f_X11_read (nx := 12) rfl rfl rfl rfl ?_
          refine ev_loc f_X11_read (nx := 13) rfl rfl rfl rfl ?_
          refine ev_inV2 f_X11_read (nx := 16) (lo2 := [(0, .ref 0), (1, .int 3)]) rfl rfl rfl rfl f_X11_refuse (hI.wf.s rfl) rfl rfl rfl rfl rfl ?_
          refine ev_loc f_X11_refuse (nx := 1) rfl rfl rfl rfl ?_
          refine ev_loc f_X11_refuse (nx := 2) rfl rfl rfl rfl ?_
          refine ev_putIT f_X11_refuse (nx := 5) rfl (hI.wf.s rfl) rfl rfl rfl (hI.put0 (hI.wf.s rfl) rfl rfl) (hX.upI rfl) (fun g18 e18 hI hX => ?_)
          refine ev_ic f_X11_refuse (nx := 6) (v := -1) rfl (by decide) rfl ?_
          refine ev_retK1 f_X11_refuse rfl rfl rfl ?_
          refine ev_aluvL f_X11_read (nx := 17) (w := -1) rfl rfl rfl (by decide) rfl ?_
          exact ev_ret f_X11_read rfl rfl rfl ⟨_, _, _, rfl, hI, hX, ⟨_, rfl⟩⟩
        · have l19 : 0 ≤ ar2.toInt := t_lel (t_nlt h16) (by decide : (0:Int) ≤ (0:Int32).toInt)
          refine ev_loc f_X11_wrongPlace (nx := 29) rfl rfl rfl rfl ?_
          refine ev_getR f_X11_wrongPlace (nx := 32) rfl (hI.wf.s rfl) rfl rfl (hI.wf.r rfl) rfl rfl ?_
          refine ev_loc f_X11_wrongPlace (nx := 33) rfl rfl rfl rfl ?_
          obtain ⟨a20, e20, p20⟩ := t_tray hI.wf l4 (by decide) u8 (by decide)
          refine ev_aald f_X11_wrongPlace (nx := 34) rfl (hI.wf.s rfl) rfl (t_idx (n := 4) l4 (by decide) u8 (by decide)).1 (t_idx (n := 4) l4 (by decide) u8 (by decide)).2 e20 rfl rfl ?_
          refine ev_loc f_X11_wrongPlace (nx := 35) rfl rfl rfl rfl ?_
          refine ev_ic f_X11_wrongPlace (nx := 36) (v := 1) rfl (by decide) rfl ?_
          refine ev_inV3 f_X11_wrongPlace (nx := 39) (lo2 := [(0, .ref a20), (1, .int ar2), (2, .int 1)]) rfl rfl rfl rfl f_X10_hasStretch p20.1 rfl rfl rfl rfl rfl ?_
          refine ev_loc f_X10_hasStretch (nx := 1) rfl rfl rfl rfl ?_
          refine ev_loc f_X10_hasStretch (nx := 2) rfl rfl rfl rfl ?_
          refine ev_getI f_X10_hasStretch (nx := 5) rfl p20.1 rfl rfl rfl ?_
          obtain ⟨l21, u21⟩ := hI.b p20.1 (t_bdK rfl : t_bd 9 2 = some ((-1), 60))
          refine ev_if f_X10_hasStretch (t1 := 22) (t2 := 8) rfl rfl rfl (fun h22 => ?_) (fun h22 => ?_)
          · refine ev_ic f_X10_hasStretch (nx := 23) (v := 0) rfl (by decide) rfl ?_
            refine ev_retK1 f_X10_hasStretch rfl rfl rfl ?_
            refine ev_t f_X11_wrongPlace (t1 := 46) (t2 := 42) rfl rfl rfl (by decide) ?_
            refine ev_ic f_X11_wrongPlace (nx := 47) (v := 3) rfl (by decide) rfl ?_
            refine ev_retK1 f_X11_wrongPlace rfl rfl rfl ?_
            refine ev_loc f_X11_read (nx := 7) (lo' := [(3, .int 3), (0, .ref 0), (1, .int ar1), (2, .int ar2)]) rfl rfl rfl rfl ?_
            refine ev_loc f_X11_read (nx := 8) rfl rfl rfl rfl ?_
            refine ev_f f_X11_read (t1 := 18) (t2 := 11) rfl rfl rfl (by decide) ?_
            refine ev_loc f_X11_read (nx := 12) rfl rfl rfl rfl ?_
            refine ev_loc f_X11_read (nx := 13) rfl rfl rfl rfl ?_
            refine ev_inV2 f_X11_read (nx := 16) (lo2 := [(0, .ref 0), (1, .int 3)]) rfl rfl rfl rfl f_X11_refuse (hI.wf.s rfl) rfl rfl rfl rfl rfl ?_
            refine ev_loc f_X11_refuse (nx := 1) rfl rfl rfl rfl ?_
            refine ev_loc f_X11_refuse (nx := 2) rfl rfl rfl rfl ?_
            refine ev_putIT f_X11_refuse (nx := 5) rfl (hI.wf.s rfl) rfl rfl rfl (hI.put0 (hI.wf.s rfl) rfl rfl) (hX.upI rfl) (fun g23 e23 hI hX => ?_)
            refine ev_ic f_X11_refuse (nx := 6) (v := -1) rfl (by decide) rfl ?_
            refine ev_retK1 f_X11_refuse rfl rfl rfl ?_
            refine ev_aluvL f_X11_read (nx := 17) (w := -1) rfl rfl rfl (by decide) rfl ?_
            exact ev_ret f_X11_read rfl rfl rfl ⟨_, _, _, rfl, hI, hX, ⟨_, rfl⟩⟩
          · have u24 : ar2.toInt ≤ 60 := t_leu (t_nlt h22) u21
            have l25 : 0 ≤ (gi a20 2).toInt := t_lel (t_nlt h22) l19
            refine ev_loc f_X10_hasStretch (nx := 9) rfl rfl rfl rfl ?_
            refine ev_loc f_X10_hasStretch (nx := 10) rfl rfl rfl rfl ?_
            refine ev_gvI f_X10_hasStretch (nx := 13) (w := (gi a20 2)) rfl p20.1 rfl rfl rfl rfl ?_
            refine ev_loc f_X10_hasStretch (nx := 14) rfl rfl rfl rfl ?_
            refine ev_subR f_X10_hasStretch (nx := 15) (l := (-60)) (u := 60) rfl l25 u21 l19 u24 rfl rfl (by decide) (by decide) rfl (fun z26 e26 l26 u26 => ?_)
            refine ev_if f_X10_hasStretch (t1 := 22) (t2 := 18) rfl rfl rfl (fun h27 => ?_) (fun h27 => ?_)
            · have u28 : z26.toInt ≤ 0 := t_ltu h27 (by decide : (1:Int32).toInt ≤ (1:Int)) rfl
              refine ev_ic f_X10_hasStretch (nx := 23) (v := 0) rfl (by decide) rfl ?_
              refine ev_retK1 f_X10_hasStretch rfl rfl rfl ?_
              refine ev_t f_X11_wrongPlace (t1 := 46) (t2 := 42) rfl rfl rfl (by decide) ?_
              refine ev_ic f_X11_wrongPlace (nx := 47) (v := 3) rfl (by decide) rfl ?_
              refine ev_retK1 f_X11_wrongPlace rfl rfl rfl ?_
              refine ev_loc f_X11_read (nx := 7) (lo' := [(3, .int 3), (0, .ref 0), (1, .int ar1), (2, .int ar2)]) rfl rfl rfl rfl ?_
              refine ev_loc f_X11_read (nx := 8) rfl rfl rfl rfl ?_
              refine ev_f f_X11_read (t1 := 18) (t2 := 11) rfl rfl rfl (by decide) ?_
              refine ev_loc f_X11_read (nx := 12) rfl rfl rfl rfl ?_
              refine ev_loc f_X11_read (nx := 13) rfl rfl rfl rfl ?_
              refine ev_inV2 f_X11_read (nx := 16) (lo2 := [(0, .ref 0), (1, .int 3)]) rfl rfl rfl rfl f_X11_refuse (hI.wf.s rfl) rfl rfl rfl rfl rfl ?_
              refine ev_loc f_X11_refuse (nx := 1) rfl rfl rfl rfl ?_
              refine ev_loc f_X11_refuse (nx := 2) rfl rfl rfl rfl ?_
              refine ev_putIT f_X11_refuse (nx := 5) rfl (hI.wf.s rfl) rfl rfl rfl (hI.put0 (hI.wf.s rfl) rfl rfl) (hX.upI rfl) (fun g29 e29 hI hX => ?_)
              refine ev_ic f_X11_refuse (nx := 6) (v := -1) rfl (by decide) rfl ?_
              refine ev_retK1 f_X11_refuse rfl rfl rfl ?_
              refine ev_aluvL f_X11_read (nx := 17) (w := -1) rfl rfl rfl (by decide) rfl ?_
              exact ev_ret f_X11_read rfl rfl rfl ⟨_, _, _, rfl, hI, hX, ⟨_, rfl⟩⟩
            · have l30 : 1 ≤ z26.toInt := t_lel (t_nlt h27) (by decide : (1:Int) ≤ (1:Int32).toInt)
              have u31 : ar2.toInt ≤ 59 := by have := u21; omega
              refine ev_ic f_X10_hasStretch (nx := 19) (v := 1) rfl (by decide) rfl ?_
              refine ev_jmp f_X10_hasStretch (nx := 23) rfl rfl rfl ?_
              refine ev_retK1 f_X10_hasStretch rfl rfl rfl ?_
              refine ev_f f_X11_wrongPlace (t1 := 46) (t2 := 42) rfl rfl rfl (by decide) ?_
              refine ev_ic f_X11_wrongPlace (nx := 43) (v := 0) rfl (by decide) rfl ?_
              refine ev_jmp f_X11_wrongPlace (nx := 47) rfl rfl rfl ?_
              refine ev_retK1 f_X11_wrongPlace rfl rfl rfl ?_
              refine ev_loc f_X11_read (nx := 7) (lo' := [(3, .int 0), (0, .ref 0), (1, .int ar1), (2, .int ar2)]) rfl rfl rfl rfl ?_
              refine ev_loc f_X11_read (nx := 8) rfl rfl rfl rfl ?_
              refine ev_t f_X11_read (t1 := 18) (t2 := 11) rfl rfl rfl (by decide) ?_
              refine ev_loc f_X11_read (nx := 19) rfl rfl rfl rfl ?_
              refine ev_loc f_X11_read (nx := 20) rfl rfl rfl rfl ?_
              refine ev_getR f_X11_read (nx := 23) rfl (hI.wf.s rfl) rfl rfl (hI.wf.r rfl) rfl rfl ?_
              refine ev_loc f_X11_read (nx := 24) rfl rfl rfl rfl ?_
              obtain ⟨a32, e32, p32⟩ := t_tray hI.wf l4 (by decide) u8 (by decide)
              refine ev_aald f_X11_read (nx := 25) rfl (hI.wf.s rfl) rfl (t_idx (n := 4) l4 (by decide) u8 (by decide)).1 (t_idx (n := 4) l4 (by decide) u8 (by decide)).2 e32 rfl rfl ?_
              have e33 := p32.2.1.1
              have s33 := p32.2.1.2
              refine ev_getR f_X11_read (nx := 28) rfl p32.1 rfl rfl e33 rfl rfl ?_
              refine ev_loc f_X11_read (nx := 29) rfl rfl rfl rfl ?_
              refine ev_laldT f_X11_read (nx := 30) rfl s33 l19 (by decide) u31 (by decide) rfl (fun w34 e34 => ?_)
              refine ev_inV2 f_X11_read (nx := 33) (lo2 := [(0, .ref 0), (1, .long w34)]) rfl rfl rfl rfl f_X11_answerLong (hI.wf.s rfl) rfl rfl rfl rfl rfl ?_
              refine ev_loc f_X11_answerLong (nx := 1) rfl rfl rfl rfl ?_
              refine ev_ic f_X11_answerLong (nx := 2) (v := 0) rfl (by decide) rfl ?_
              refine ev_putIT f_X11_answerLong (nx := 5) rfl (hI.wf.s rfl) rfl rfl rfl (hI.put0 (hI.wf.s rfl) rfl rfl) (hX.upI rfl) (fun g35 e35 hI hX => ?_)
              refine ev_loc f_X11_answerLong (nx := 6) rfl rfl rfl rfl ?_
              refine ev_retK1 f_X11_answerLong rfl rfl rfl ?_
              exact ev_ret f_X11_read rfl rfl rfl ⟨_, _, _, rfl, hI, hX, ⟨_, rfl⟩⟩
noncomputable def wl_h_readings : List (Nat × Nat) := [(0, 0), (0, 14), (21, 9999)]
theorem c_h_readings {X : x_Ext} {d : Nat} {sh : List (Nat ⊕ (Nat × Nat))} {gi : Nat → Nat → Int32} {gl : Nat → Nat → Int64} {gr : Nat → Nat → Value} (hI : t_I sh gi gr) (ar1 : Int64) : x_Me X (d + 4) n_X11_readings [.ref 0, .long ar1] (sh, gi, gl, gr) (t_P wl_h_readings sh gi gl gr (t_Ri (-1) 474)) := by
  have hX : t_X wl_h_readings sh gi gl gr gi gl gr := t_X.rf
  refine me_i f_X11_readings (hI.wf.s rfl) rfl rfl rfl ?_
  refine ev_loc f_X11_readings (nx := 1) rfl rfl rfl rfl ?_
  refine ev_lc f_X11_readings (nx := 2) (v := 1) rfl (by decide) rfl ?_
  refine ev_anyI f_X11_readings (nx := 3) rfl rfl rfl rfl (fun z1 => ?_)
  refine ev_if f_X11_readings (t1 := 12) (t2 := 6) rfl rfl rfl (fun h2 => ?_) (fun h2 => ?_)
  · have l3 : 0 ≤ z1.toInt := t_lel h2 (by decide : (0:Int) ≤ (0:Int32).toInt)
    refine ev_loc f_X11_readings (nx := 13) rfl rfl rfl rfl ?_
    refine ev_ic f_X11_readings (nx := 14) (v := 0) rfl (by decide) rfl ?_
    refine ev_putIT f_X11_readings (nx := 17) rfl (hI.wf.s rfl) rfl rfl rfl (hI.putB (hI.wf.s rfl) rfl rfl (by decide : (0:Int) ≤ (0:Int32).toInt) (by decide) (by decide : (0:Int32).toInt ≤ (0:Int)) (by decide)) (hX.upI rfl) (fun g4 e4 hI hX => ?_)
    refine ev_ic f_X11_readings (nx := 18) (v := 0) rfl (by decide) rfl ?_
    refine ev_loc f_X11_readings (nx := 19) (lo' := [(3, .int 0), (0, .ref 0), (1, .long ar1)]) rfl rfl rfl rfl ?_
    have L5 : ∀ (m5 : Nat) (gi5 : Nat → Nat → Int32) (gl5 : Nat → Nat → Int64) (gr5 : Nat → Nat → Value) (y5_3 : Int32), t_I sh gi5 gr5 → t_X wl_h_readings sh gi gl gr gi5 gl5 gr5 → 0 ≤ y5_3.toInt → y5_3.toInt ≤ 6 → (6 - y5_3.toInt).toNat = m5 → x_Ev X (d + 4) n_X11_readings 19 [(3, .int y5_3), (0, .ref 0), (1, .long ar1)] [] (sh, gi5, gl5, gr5) (t_P wl_h_readings sh gi gl gr (t_Ri (-1) 474)) := by
      intro m5
      induction m5 using Nat.strongRecOn with
      | _ m5 ih5 =>
      intro gi5 gl5 gr5 y5_3 hI hX l5_3 u5_3 hm5
      refine ev_loc f_X11_readings (nx := 20) rfl rfl rfl rfl ?_
      refine ev_loc f_X11_readings (nx := 21) rfl rfl rfl rfl ?_
      obtain ⟨a6, e6, p6⟩ := hI.2.2.2.1.1
      refine ev_getR f_X11_readings (nx := 24) rfl (hI.wf.s rfl) rfl rfl e6 rfl rfl ?_
      refine ev_getI f_X11_readings (nx := 27) rfl p6.1 rfl rfl rfl ?_
      obtain ⟨l7, u7⟩ := hI.b p6.1 (t_bdK rfl : t_bd 4 0 = some (0, 6))
      refine ev_if f_X11_readings (t1 := 57) (t2 := 30) rfl rfl rfl (fun h8 => ?_) (fun h8 => ?_)
      · refine ev_ic f_X11_readings (nx := 58) (v := 0) rfl (by decide) rfl ?_
        refine ev_loc f_X11_readings (nx := 59) (lo' := [(3, .int 0), (0, .ref 0), (1, .long ar1)]) rfl rfl rfl rfl ?_
        have L9 : ∀ (m9 : Nat) (gi9 : Nat → Nat → Int32) (gl9 : Nat → Nat → Int64) (gr9 : Nat → Nat → Value) (y9_3 : Int32), t_I sh gi9 gr9 → t_X wl_h_readings sh gi gl gr gi9 gl9 gr9 → t_Rv sh gr9 a6 → 0 ≤ y9_3.toInt → y9_3.toInt ≤ 6 → gr9 0 6 = .ref a6 → (6 - y9_3.toInt).toNat = m9 → x_Ev X (d + 4) n_X11_readings 59 [(3, .int y9_3), (0, .ref 0), (1, .long ar1)] [] (sh, gi9, gl9, gr9) (t_P wl_h_readings sh gi gl gr (t_Ri (-1) 474)) := by
          intro m9
          induction m9 using Nat.strongRecOn with
          | _ m9 ih9 =>
          intro gi9 gl9 gr9 y9_3 hI hX p6 l9_3 u9_3 c9_1 hm9
          refine ev_loc f_X11_readings (nx := 60) rfl rfl rfl rfl ?_
          refine ev_loc f_X11_readings (nx := 61) rfl rfl rfl rfl ?_
          refine ev_getR f_X11_readings (nx := 64) (v := .ref a6) rfl (hI.wf.s rfl) rfl rfl c9_1 rfl rfl ?_
          refine ev_getI f_X11_readings (nx := 67) rfl p6.1 rfl rfl rfl ?_
          obtain ⟨l10, u10⟩ := hI.b p6.1 (t_bdK rfl : t_bd 4 0 = some (0, 6))
          refine ev_if f_X11_readings (t1 := 148) (t2 := 70) rfl rfl rfl (fun h11 => ?_) (fun h11 => ?_)
          · refine ev_loc f_X11_readings (nx := 149) rfl rfl rfl rfl ?_
            refine ev_loc f_X11_readings (nx := 150) rfl rfl rfl rfl ?_
            refine ev_getI f_X11_readings (nx := 153) rfl (hI.wf.s rfl) rfl rfl rfl ?_
            obtain ⟨l12, u12⟩ := hI.b (hI.wf.s (k := 0) rfl) (t_bdK rfl : t_bd 10 14 = some (0, 474))
            refine ev_inV2 f_X11_readings (nx := 156) (lo2 := [(0, .ref 0), (1, .int (gi9 0 14))]) rfl rfl rfl rfl f_X11_answer (hI.wf.s rfl) rfl rfl rfl rfl rfl ?_
            refine ev_loc f_X11_answer (nx := 1) rfl rfl rfl rfl ?_
            refine ev_ic f_X11_answer (nx := 2) (v := 0) rfl (by decide) rfl ?_
            refine ev_putIT f_X11_answer (nx := 5) rfl (hI.wf.s rfl) rfl rfl rfl (hI.put0 (hI.wf.s rfl) rfl rfl) (hX.upI rfl) (fun g13 e13 hI hX => ?_)
            refine ev_loc f_X11_answer (nx := 6) rfl rfl rfl rfl ?_
            refine ev_retK1 f_X11_answer rfl rfl rfl ?_
            exact ev_ret f_X11_readings rfl rfl rfl ⟨_, _, _, rfl, hI, hX, ⟨_, rfl, (Int.le_trans (by decide : ((-1):Int) ≤ 0) l12), u12⟩⟩
          · have u14 : y9_3.toInt ≤ 5 := t_ltu (t_nle h11) u10 rfl
            have l15 : 1 ≤ (gi9 a6 0).toInt := t_ltl (t_nle h11) l9_3 rfl
            refine ev_ic f_X11_readings (nx := 71) (v := 0) rfl (by decide) rfl ?_
            refine ev_loc f_X11_readings (nx := 73) (lo' := [(4, .int 0), (3, .int y9_3), (0, .ref 0), (1, .long ar1)]) rfl rfl rfl rfl ?_
            have L16 : ∀ (m16 : Nat) (gi16 : Nat → Nat → Int32) (gl16 : Nat → Nat → Int64) (gr16 : Nat → Nat → Value) (y16_4 : Int32), t_I sh gi16 gr16 → t_X wl_h_readings sh gi gl gr gi16 gl16 gr16 → t_Rv sh gr16 a6 → 0 ≤ y16_4.toInt → y16_4.toInt ≤ 6 → gr16 0 6 = .ref a6 → (6 - y16_4.toInt).toNat = m16 → x_Ev X (d + 4) n_X11_readings 73 [(4, .int y16_4), (3, .int y9_3), (0, .ref 0), (1, .long ar1)] [] (sh, gi16, gl16, gr16) (t_P wl_h_readings sh gi gl gr (t_Ri (-1) 474)) := by
              intro m16
              induction m16 using Nat.strongRecOn with
              | _ m16 ih16 =>
              intro gi16 gl16 gr16 y16_4 hI hX p6 l16_4 u16_4 c16_1 hm16
              refine ev_loc f_X11_readings (nx := 75) rfl rfl rfl rfl ?_
              refine ev_loc f_X11_readings (nx := 76) rfl rfl rfl rfl ?_
              refine ev_getR f_X11_readings (nx := 79) (v := .ref a6) rfl (hI.wf.s rfl) rfl rfl c16_1 rfl rfl ?_
              refine ev_getI f_X11_readings (nx := 82) rfl p6.1 rfl rfl rfl ?_
              obtain ⟨l17, u17⟩ := hI.b p6.1 (t_bdK rfl : t_bd 4 0 = some (0, 6))
              refine ev_if f_X11_readings (t1 := 142) (t2 := 85) rfl rfl rfl (fun h18 => ?_) (fun h18 => ?_)
              · refine ev_incR f_X11_readings (nx := 145) (c := 1) (l := 1) (u := 6) rfl rfl (by decide) (by decide) l9_3 u14 rfl rfl (by decide) (by decide) rfl (fun z19 e19 l19 u19 => ?_)
                refine ev_jmp f_X11_readings (nx := 59) rfl rfl rfl ?_
                refine ev_sub (lo := [(3, .int z19), (0, .ref 0), (1, .long ar1)]) rfl (t_sc rfl (t_sc rfl (t_sc rfl t_sn))) ?_
                exact ih9 _ (by omega) gi16 gl16 gr16 (z19) hI hX p6 (Int.le_trans (by decide : (0:Int) ≤ 1) l19) u19 c16_1 rfl
              · have u20 : y16_4.toInt ≤ 5 := t_ltu (t_nle h18) u17 rfl
                have l21 : 1 ≤ (gi16 a6 0).toInt := t_ltl (t_nle h18) l16_4 rfl
                refine ev_loc f_X11_readings (nx := 86) rfl rfl rfl rfl ?_
                refine ev_getR f_X11_readings (nx := 89) (v := .ref a6) rfl (hI.wf.s rfl) rfl rfl c16_1 rfl rfl ?_
                refine ev_loc f_X11_readings (nx := 90) rfl rfl rfl rfl ?_
                refine ev_loc f_X11_readings (nx := 92) rfl rfl rfl rfl ?_
                refine ev_inV3 f_X11_readings (nx := 95) (lo2 := [(0, .ref a6), (1, .int y9_3), (2, .int y16_4)]) rfl rfl rfl rfl f_X5_leastBeats p6.1 rfl rfl rfl rfl rfl ?_
                refine ev_loc f_X5_leastBeats (nx := 1) rfl rfl rfl rfl ?_
                refine ev_loc f_X5_leastBeats (nx := 2) rfl rfl rfl rfl ?_
                refine ev_if f_X5_leastBeats (t1 := 9) (t2 := 5) rfl rfl rfl (fun h22 => ?_) (fun h22 => ?_)
                · refine ev_ic f_X5_leastBeats (nx := 10) (v := 0) rfl (by decide) rfl ?_
                  refine ev_retK1 f_X5_leastBeats rfl rfl rfl ?_
                  refine ev_loc f_X11_readings (nx := 97) (lo' := [(5, .int 0), (4, .int y16_4), (3, .int y9_3), (0, .ref 0), (1, .long ar1)]) rfl rfl rfl rfl ?_
                  have L23 : ∀ (m23 : Nat) (gi23 : Nat → Nat → Int32) (gl23 : Nat → Nat → Int64) (gr23 : Nat → Nat → Value) (y23_5 : Int32), t_I sh gi23 gr23 → t_X wl_h_readings sh gi gl gr gi23 gl23 gr23 → t_Rv sh gr23 a6 → 0 ≤ y23_5.toInt → y23_5.toInt ≤ 13 → gr23 0 6 = .ref a6 → (13 - y23_5.toInt).toNat = m23 → x_Ev X (d + 4) n_X11_readings 97 [(5, .int y23_5), (4, .int y16_4), (3, .int y9_3), (0, .ref 0), (1, .long ar1)] [] (sh, gi23, gl23, gr23) (t_P wl_h_readings sh gi gl gr (t_Ri (-1) 474)) := by
                    intro m23
                    induction m23 using Nat.strongRecOn with
                    | _ m23 ih23 =>
                    intro gi23 gl23 gr23 y23_5 hI hX p6 l23_5 u23_5 c23_1 hm23
                    refine ev_loc f_X11_readings (nx := 99) rfl rfl rfl rfl ?_
                    refine ev_bp f_X11_readings (nx := 101) (v := 12) rfl (by decide) rfl ?_
                    refine ev_if f_X11_readings (t1 := 136) (t2 := 104) rfl rfl rfl (fun h24 => ?_) (fun h24 => ?_)
                    · have l25 : 13 ≤ y23_5.toInt := t_ltl h24 (by decide : (12:Int) ≤ (12:Int32).toInt) rfl
                      refine ev_incR f_X11_readings (nx := 139) (c := 1) (l := 1) (u := 6) rfl rfl (by decide) (by decide) l16_4 u20 rfl rfl (by decide) (by decide) rfl (fun z26 e26 l26 u26 => ?_)
                      refine ev_jmp f_X11_readings (nx := 73) rfl rfl rfl ?_
                      refine ev_sub (lo := [(4, .int z26), (3, .int y9_3), (0, .ref 0), (1, .long ar1)]) rfl (t_sc rfl (t_sc rfl (t_sc rfl (t_sc rfl t_sn)))) ?_
                      exact ih16 _ (by omega) gi23 gl23 gr23 (z26) hI hX p6 (Int.le_trans (by decide : (0:Int) ≤ 1) l26) u26 c23_1 rfl
                    · have u27 : y23_5.toInt ≤ 12 := t_leu (t_nlt h24) (by decide : (12:Int32).toInt ≤ (12:Int))
                      refine ev_loc f_X11_readings (nx := 105) rfl rfl rfl rfl ?_
                      refine ev_getR f_X11_readings (nx := 108) (v := .ref a6) rfl (hI.wf.s rfl) rfl rfl c23_1 rfl rfl ?_
                      refine ev_loc f_X11_readings (nx := 109) rfl rfl rfl rfl ?_
                      refine ev_loc f_X11_readings (nx := 111) rfl rfl rfl rfl ?_
                      refine ev_loc f_X11_readings (nx := 113) rfl rfl rfl rfl ?_
                      refine ev_inV4 f_X11_readings (nx := 116) (lo2 := [(0, .ref a6), (1, .int y9_3), (2, .int y16_4), (3, .int y23_5)]) rfl rfl rfl rfl f_X5_bothHeard p6.1 rfl rfl rfl rfl rfl ?_
                      refine ev_loc f_X5_bothHeard (nx := 1) rfl rfl rfl rfl ?_
                      refine ev_loc f_X5_bothHeard (nx := 2) rfl rfl rfl rfl ?_
                      refine ev_cL f_X5_bothHeard (nx := 5) (r := []) rfl rfl rfl rfl rfl rfl rfl (c_heardOf hI (a6) p6 (y9_3)) rfl hX rfl (fun w28 gi28 gl28 gr28 hI hX hC28 => ?_)
                      replace p6 := p6.ext hC28.2
                      refine ev_loc f_X5_bothHeard (nx := 6) rfl rfl rfl rfl ?_
                      refine ev_loc f_X5_bothHeard (nx := 7) rfl rfl rfl rfl ?_
                      refine ev_cL f_X5_bothHeard (nx := 10) (r := [.long w28]) rfl rfl rfl rfl rfl rfl rfl (c_heardOf hI (a6) p6 (y16_4)) rfl hX rfl (fun w29 gi29 gl29 gr29 hI hX hC29 => ?_)
                      replace p6 := p6.ext hC29.2
                      refine ev_loc f_X5_bothHeard (nx := 11) rfl rfl rfl rfl ?_
                      refine ev_anyL f_X5_bothHeard (nx := 12) rfl rfl rfl rfl (fun z30 => ?_)
                      refine ev_anyL f_X5_bothHeard (nx := 13) rfl rfl rfl rfl (fun z31 => ?_)
                      refine ev_retK1 f_X5_bothHeard rfl rfl rfl ?_
                      refine ev_loc f_X11_readings (nx := 117) rfl rfl rfl rfl ?_
                      refine ev_anyI f_X11_readings (nx := 118) rfl rfl rfl rfl (fun z32 => ?_)
                      refine ev_if f_X11_readings (t1 := 121) (t2 := 130) rfl rfl rfl (fun h33 => ?_) (fun h33 => ?_)
                      · have u34 : z32.toInt ≤ 0 := t_equ h33 (by decide : (0:Int32).toInt ≤ (0:Int))
                        have l35 : 0 ≤ z32.toInt := t_eql h33 (by decide : (0:Int) ≤ (0:Int32).toInt)
                        refine ev_loc f_X11_readings (nx := 122) rfl rfl rfl rfl ?_
                        refine ev_loc f_X11_readings (nx := 123) rfl rfl rfl rfl ?_
                        refine ev_loc f_X11_readings (nx := 125) rfl rfl rfl rfl ?_
                        refine ev_loc f_X11_readings (nx := 127) rfl rfl rfl rfl ?_
                        refine ev_inV4 f_X11_readings (nx := 130) (lo2 := [(0, .ref 0), (1, .int y9_3), (2, .int y16_4), (3, .int y23_5)]) rfl rfl rfl rfl f_X11_addReading (hI.wf.s rfl) rfl rfl rfl rfl rfl ?_
                        refine ev_loc f_X11_addReading (nx := 1) rfl rfl rfl rfl ?_
                        refine ev_getI f_X11_addReading (nx := 4) rfl (hI.wf.s rfl) rfl rfl rfl ?_
                        obtain ⟨l36, u36⟩ := hI.b (hI.wf.s (k := 0) rfl) (t_bdK rfl : t_bd 10 14 = some (0, 474))
                        refine ev_sp f_X11_addReading (nx := 7) (v := 474) rfl (by decide) rfl ?_
                        refine ev_if f_X11_addReading (t1 := 60) (t2 := 10) rfl rfl rfl (fun h37 => ?_) (fun h37 => ?_)
                        · have l38 : 474 ≤ (gi29 0 14).toInt := t_lel h37 (by decide : (474:Int) ≤ (474:Int32).toInt)
                          refine ev_retK0 f_X11_addReading rfl rfl rfl ?_
                          refine ev_incR f_X11_readings (nx := 133) (c := 1) (l := 1) (u := 13) rfl rfl (by decide) (by decide) l23_5 u27 rfl rfl (by decide) (by decide) rfl (fun z39 e39 l39 u39 => ?_)
                          refine ev_jmp f_X11_readings (nx := 97) rfl rfl rfl ?_
                          refine ev_sub (lo := [(5, .int z39), (4, .int y16_4), (3, .int y9_3), (0, .ref 0), (1, .long ar1)]) rfl (t_sc rfl (t_sc rfl (t_sc rfl (t_sc rfl (t_sc rfl t_sn))))) ?_
                          exact ih23 _ (by omega) gi29 gl29 gr29 (z39) hI hX p6 (Int.le_trans (by decide : (0:Int) ≤ 1) l39) u39 ((hC29.1 0 6 rfl).2.2.trans ((hC28.1 0 6 rfl).2.2.trans c23_1)) rfl
                        · have u40 : (gi29 0 14).toInt ≤ 473 := t_ltu (t_nle h37) (by decide : (474:Int32).toInt ≤ (474:Int)) rfl
                          refine ev_loc f_X11_addReading (nx := 11) rfl rfl rfl rfl ?_
                          refine ev_getR f_X11_addReading (nx := 14) rfl (hI.wf.s rfl) rfl rfl (hI.wf.r rfl) rfl rfl ?_
                          refine ev_ic f_X11_addReading (nx := 15) (v := 3) rfl (by decide) rfl ?_
                          refine ev_loc f_X11_addReading (nx := 16) rfl rfl rfl rfl ?_
                          refine ev_gvI f_X11_addReading (nx := 19) (w := (gi29 0 14)) rfl (hI.wf.s rfl) rfl rfl rfl rfl ?_
                          refine ev_mulL f_X11_addReading (nx := 20) (c := 3) (l := 0) (u := 1419) rfl (by decide) (by decide) l36 u40 rfl rfl (by decide) (by decide) rfl (fun z41 e41 l41 u41 => ?_)
                          refine ev_loc f_X11_addReading (nx := 21) rfl rfl rfl rfl ?_
                          refine ev_iastT f_X11_addReading (nx := 22) rfl (hI.wf.s rfl) l41 (by decide) u41 (by decide) rfl (hI.astO (hI.wf.s rfl) (Or.inl (by decide)) (by decide +kernel)) (hX.upI (t_inA_ok rfl)) (fun g42 e42 hI hX => ?_)
                          refine ev_loc f_X11_addReading (nx := 23) rfl rfl rfl rfl ?_
                          refine ev_getR f_X11_addReading (nx := 26) rfl (hI.wf.s rfl) rfl rfl (hI.wf.r rfl) rfl rfl ?_
                          refine ev_ic f_X11_addReading (nx := 27) (v := 3) rfl (by decide) rfl ?_
                          refine ev_loc f_X11_addReading (nx := 28) rfl rfl rfl rfl ?_
                          refine ev_gvI f_X11_addReading (nx := 31) (w := (gi29 0 14)) rfl (hI.wf.s rfl) rfl rfl ((by rw [e42]; exact x_up2_off (Or.inl (by decide)) : g42 0 14 = gi29 0 14).trans rfl) rfl ?_
                          refine ev_mulL f_X11_addReading (nx := 32) (c := 3) (l := 0) (u := 1419) rfl (by decide) (by decide) l36 u40 rfl rfl (by decide) (by decide) rfl (fun z43 e43 l43 u43 => ?_)
                          refine ev_ic f_X11_addReading (nx := 33) (v := 1) rfl (by decide) rfl ?_
                          refine ev_addC f_X11_addReading (nx := 34) (c := 1) (l := 1) (u := 1420) rfl (by decide) l43 u43 rfl rfl (by decide) (by decide) rfl (fun z44 e44 l44 u44 => ?_)
                          refine ev_loc f_X11_addReading (nx := 35) rfl rfl rfl rfl ?_
                          refine ev_iastT f_X11_addReading (nx := 36) rfl (hI.wf.s rfl) l44 (by decide) u44 (by decide) rfl (hI.astO (hI.wf.s rfl) (Or.inl (by decide)) (by decide +kernel)) (hX.upI (t_inA_ok rfl)) (fun g45 e45 hI hX => ?_)
                          refine ev_loc f_X11_addReading (nx := 37) rfl rfl rfl rfl ?_
                          refine ev_getR f_X11_addReading (nx := 40) rfl (hI.wf.s rfl) rfl rfl (hI.wf.r rfl) rfl rfl ?_
                          refine ev_ic f_X11_addReading (nx := 41) (v := 3) rfl (by decide) rfl ?_
                          refine ev_loc f_X11_addReading (nx := 42) rfl rfl rfl rfl ?_
                          refine ev_gvI f_X11_addReading (nx := 45) (w := (gi29 0 14)) rfl (hI.wf.s rfl) rfl rfl ((by rw [e45]; exact x_up2_off (Or.inl (by decide)) : g45 0 14 = g42 0 14).trans ((by rw [e42]; exact x_up2_off (Or.inl (by decide)) : g42 0 14 = gi29 0 14).trans rfl)) rfl ?_
                          refine ev_mulL f_X11_addReading (nx := 46) (c := 3) (l := 0) (u := 1419) rfl (by decide) (by decide) l36 u40 rfl rfl (by decide) (by decide) rfl (fun z46 e46 l46 u46 => ?_)
                          refine ev_ic f_X11_addReading (nx := 47) (v := 2) rfl (by decide) rfl ?_
                          refine ev_addC f_X11_addReading (nx := 48) (c := 2) (l := 2) (u := 1421) rfl (by decide) l46 u46 rfl rfl (by decide) (by decide) rfl (fun z47 e47 l47 u47 => ?_)
                          refine ev_loc f_X11_addReading (nx := 49) rfl rfl rfl rfl ?_
                          refine ev_iastT f_X11_addReading (nx := 50) rfl (hI.wf.s rfl) l47 (by decide) u47 (by decide) rfl (hI.astO (hI.wf.s rfl) (Or.inl (by decide)) (by decide +kernel)) (hX.upI (t_inA_ok rfl)) (fun g48 e48 hI hX => ?_)
                          refine ev_loc f_X11_addReading (nx := 51) rfl rfl rfl rfl ?_
                          refine ev_alu f_X11_addReading (nx := 52) rfl rfl rfl rfl ?_
                          refine ev_gvI f_X11_addReading (nx := 55) (w := (gi29 0 14)) rfl (hI.wf.s rfl) rfl rfl ((by rw [e48]; exact x_up2_off (Or.inl (by decide)) : g48 0 14 = g45 0 14).trans ((by rw [e45]; exact x_up2_off (Or.inl (by decide)) : g45 0 14 = g42 0 14).trans ((by rw [e42]; exact x_up2_off (Or.inl (by decide)) : g42 0 14 = gi29 0 14).trans rfl))) rfl ?_
                          refine ev_ic f_X11_addReading (nx := 56) (v := 1) rfl (by decide) rfl ?_
                          refine ev_addC f_X11_addReading (nx := 57) (c := 1) (l := 1) (u := 474) rfl (by decide) l36 u40 rfl rfl (by decide) (by decide) rfl (fun z49 e49 l49 u49 => ?_)
                          refine ev_putIT f_X11_addReading (nx := 60) rfl (hI.wf.s rfl) rfl rfl rfl (hI.putB (hI.wf.s rfl) rfl rfl l49 (by decide) u49 (by decide)) (hX.upI rfl) (fun g50 e50 hI hX => ?_)
                          refine ev_retK0 f_X11_addReading rfl rfl rfl ?_
                          refine ev_incR f_X11_readings (nx := 133) (c := 1) (l := 1) (u := 13) rfl rfl (by decide) (by decide) l23_5 u27 rfl rfl (by decide) (by decide) rfl (fun z51 e51 l51 u51 => ?_)
                          refine ev_jmp f_X11_readings (nx := 97) rfl rfl rfl ?_
                          refine ev_sub (lo := [(5, .int z51), (4, .int y16_4), (3, .int y9_3), (0, .ref 0), (1, .long ar1)]) rfl (t_sc rfl (t_sc rfl (t_sc rfl (t_sc rfl (t_sc rfl t_sn))))) ?_
                          exact ih23 _ (by omega) g50 gl29 gr29 (z51) hI hX p6 (Int.le_trans (by decide : (0:Int) ≤ 1) l51) u51 ((hC29.1 0 6 rfl).2.2.trans ((hC28.1 0 6 rfl).2.2.trans c23_1)) rfl
                      · refine ev_incR f_X11_readings (nx := 133) (c := 1) (l := 1) (u := 13) rfl rfl (by decide) (by decide) l23_5 u27 rfl rfl (by decide) (by decide) rfl (fun z52 e52 l52 u52 => ?_)
                        refine ev_jmp f_X11_readings (nx := 97) rfl rfl rfl ?_
                        refine ev_sub (lo := [(5, .int z52), (4, .int y16_4), (3, .int y9_3), (0, .ref 0), (1, .long ar1)]) rfl (t_sc rfl (t_sc rfl (t_sc rfl (t_sc rfl (t_sc rfl t_sn))))) ?_
                        exact ih23 _ (by omega) gi29 gl29 gr29 (z52) hI hX p6 (Int.le_trans (by decide : (0:Int) ≤ 1) l52) u52 ((hC29.1 0 6 rfl).2.2.trans ((hC28.1 0 6 rfl).2.2.trans c23_1)) rfl
                  refine ev_sub (lo := [(5, .int 0), (4, .int y16_4), (3, .int y9_3), (0, .ref 0), (1, .long ar1)]) rfl (t_sc rfl (t_sc rfl (t_sc rfl (t_sc rfl (t_sc rfl t_sn))))) ?_
                  exact L23 _ gi16 gl16 gr16 (0) hI hX p6 (by decide : (0:Int) ≤ (0:Int32).toInt) (Int.le_trans (by decide : (0:Int32).toInt ≤ (0:Int)) (by decide : (0:Int) ≤ 13)) c16_1 rfl
                · have u53 : y16_4.toInt ≤ 4 := t_ltu (t_nle h22) u14 rfl
                  have l54 : 1 ≤ y9_3.toInt := t_ltl (t_nle h22) l16_4 rfl
                  refine ev_ic f_X5_leastBeats (nx := 6) (v := 1) rfl (by decide) rfl ?_
                  refine ev_jmp f_X5_leastBeats (nx := 10) rfl rfl rfl ?_
                  refine ev_retK1 f_X5_leastBeats rfl rfl rfl ?_
                  refine ev_loc f_X11_readings (nx := 97) (lo' := [(5, .int 1), (4, .int y16_4), (3, .int y9_3), (0, .ref 0), (1, .long ar1)]) rfl rfl rfl rfl ?_
                  have L55 : ∀ (m55 : Nat) (gi55 : Nat → Nat → Int32) (gl55 : Nat → Nat → Int64) (gr55 : Nat → Nat → Value) (y55_5 : Int32), t_I sh gi55 gr55 → t_X wl_h_readings sh gi gl gr gi55 gl55 gr55 → t_Rv sh gr55 a6 → 0 ≤ y55_5.toInt → y55_5.toInt ≤ 13 → gr55 0 6 = .ref a6 → (13 - y55_5.toInt).toNat = m55 → x_Ev X (d + 4) n_X11_readings 97 [(5, .int y55_5), (4, .int y16_4), (3, .int y9_3), (0, .ref 0), (1, .long ar1)] [] (sh, gi55, gl55, gr55) (t_P wl_h_readings sh gi gl gr (t_Ri (-1) 474)) := by
                    intro m55
                    induction m55 using Nat.strongRecOn with
                    | _ m55 ih55 =>
                    intro gi55 gl55 gr55 y55_5 hI hX p6 l55_5 u55_5 c55_1 hm55
                    refine ev_loc f_X11_readings (nx := 99) rfl rfl rfl rfl ?_
                    refine ev_bp f_X11_readings (nx := 101) (v := 12) rfl (by decide) rfl ?_
                    refine ev_if f_X11_readings (t1 := 136) (t2 := 104) rfl rfl rfl (fun h56 => ?_) (fun h56 => ?_)
                    · have l57 : 13 ≤ y55_5.toInt := t_ltl h56 (by decide : (12:Int) ≤ (12:Int32).toInt) rfl
                      refine ev_incR f_X11_readings (nx := 139) (c := 1) (l := 1) (u := 5) rfl rfl (by decide) (by decide) l16_4 u53 rfl rfl (by decide) (by decide) rfl (fun z58 e58 l58 u58 => ?_)
                      refine ev_jmp f_X11_readings (nx := 73) rfl rfl rfl ?_
                      refine ev_sub (lo := [(4, .int z58), (3, .int y9_3), (0, .ref 0), (1, .long ar1)]) rfl (t_sc rfl (t_sc rfl (t_sc rfl (t_sc rfl t_sn)))) ?_
                      exact ih16 _ (by omega) gi55 gl55 gr55 (z58) hI hX p6 (Int.le_trans (by decide : (0:Int) ≤ 1) l58) (Int.le_trans u58 (by decide : (5:Int) ≤ 6)) c55_1 rfl
                    · have u59 : y55_5.toInt ≤ 12 := t_leu (t_nlt h56) (by decide : (12:Int32).toInt ≤ (12:Int))
                      refine ev_loc f_X11_readings (nx := 105) rfl rfl rfl rfl ?_
                      refine ev_getR f_X11_readings (nx := 108) (v := .ref a6) rfl (hI.wf.s rfl) rfl rfl c55_1 rfl rfl ?_
                      refine ev_loc f_X11_readings (nx := 109) rfl rfl rfl rfl ?_
                      refine ev_loc f_X11_readings (nx := 111) rfl rfl rfl rfl ?_
                      refine ev_loc f_X11_readings (nx := 113) rfl rfl rfl rfl ?_
                      refine ev_inV4 f_X11_readings (nx := 116) (lo2 := [(0, .ref a6), (1, .int y9_3), (2, .int y16_4), (3, .int y55_5)]) rfl rfl rfl rfl f_X5_bothHeard p6.1 rfl rfl rfl rfl rfl ?_
                      refine ev_loc f_X5_bothHeard (nx := 1) rfl rfl rfl rfl ?_
                      refine ev_loc f_X5_bothHeard (nx := 2) rfl rfl rfl rfl ?_
                      refine ev_cL f_X5_bothHeard (nx := 5) (r := []) rfl rfl rfl rfl rfl rfl rfl (c_heardOf hI (a6) p6 (y9_3)) rfl hX rfl (fun w60 gi60 gl60 gr60 hI hX hC60 => ?_)
                      replace p6 := p6.ext hC60.2
                      refine ev_loc f_X5_bothHeard (nx := 6) rfl rfl rfl rfl ?_
                      refine ev_loc f_X5_bothHeard (nx := 7) rfl rfl rfl rfl ?_
                      refine ev_cL f_X5_bothHeard (nx := 10) (r := [.long w60]) rfl rfl rfl rfl rfl rfl rfl (c_heardOf hI (a6) p6 (y16_4)) rfl hX rfl (fun w61 gi61 gl61 gr61 hI hX hC61 => ?_)
                      replace p6 := p6.ext hC61.2
                      refine ev_loc f_X5_bothHeard (nx := 11) rfl rfl rfl rfl ?_
                      refine ev_anyL f_X5_bothHeard (nx := 12) rfl rfl rfl rfl (fun z62 => ?_)
                      refine ev_anyL f_X5_bothHeard (nx := 13) rfl rfl rfl rfl (fun z63 => ?_)
                      refine ev_retK1 f_X5_bothHeard rfl rfl rfl ?_
                      refine ev_loc f_X11_readings (nx := 117) rfl rfl rfl rfl ?_
                      refine ev_anyI f_X11_readings (nx := 118) rfl rfl rfl rfl (fun z64 => ?_)
                      refine ev_if f_X11_readings (t1 := 121) (t2 := 130) rfl rfl rfl (fun h65 => ?_) (fun h65 => ?_)
                      · have u66 : z64.toInt ≤ 0 := t_equ h65 (by decide : (0:Int32).toInt ≤ (0:Int))
                        have l67 : 0 ≤ z64.toInt := t_eql h65 (by decide : (0:Int) ≤ (0:Int32).toInt)
                        refine ev_loc f_X11_readings (nx := 122) rfl rfl rfl rfl ?_
                        refine ev_loc f_X11_readings (nx := 123) rfl rfl rfl rfl ?_
                        refine ev_loc f_X11_readings (nx := 125) rfl rfl rfl rfl ?_
                        refine ev_loc f_X11_readings (nx := 127) rfl rfl rfl rfl ?_
                        refine ev_inV4 f_X11_readings (nx := 130) (lo2 := [(0, .ref 0), (1, .int y9_3), (2, .int y16_4), (3, .int y55_5)]) rfl rfl rfl rfl f_X11_addReading (hI.wf.s rfl) rfl rfl rfl rfl rfl ?_
                        refine ev_loc f_X11_addReading (nx := 1) rfl rfl rfl rfl ?_
                        refine ev_getI f_X11_addReading (nx := 4) rfl (hI.wf.s rfl) rfl rfl rfl ?_
                        obtain ⟨l68, u68⟩ := hI.b (hI.wf.s (k := 0) rfl) (t_bdK rfl : t_bd 10 14 = some (0, 474))
                        refine ev_sp f_X11_addReading (nx := 7) (v := 474) rfl (by decide) rfl ?_
                        refine ev_if f_X11_addReading (t1 := 60) (t2 := 10) rfl rfl rfl (fun h69 => ?_) (fun h69 => ?_)
                        · have l70 : 474 ≤ (gi61 0 14).toInt := t_lel h69 (by decide : (474:Int) ≤ (474:Int32).toInt)
                          refine ev_retK0 f_X11_addReading rfl rfl rfl ?_
                          refine ev_incR f_X11_readings (nx := 133) (c := 1) (l := 1) (u := 13) rfl rfl (by decide) (by decide) l55_5 u59 rfl rfl (by decide) (by decide) rfl (fun z71 e71 l71 u71 => ?_)
                          refine ev_jmp f_X11_readings (nx := 97) rfl rfl rfl ?_
                          refine ev_sub (lo := [(5, .int z71), (4, .int y16_4), (3, .int y9_3), (0, .ref 0), (1, .long ar1)]) rfl (t_sc rfl (t_sc rfl (t_sc rfl (t_sc rfl (t_sc rfl t_sn))))) ?_
                          exact ih55 _ (by omega) gi61 gl61 gr61 (z71) hI hX p6 (Int.le_trans (by decide : (0:Int) ≤ 1) l71) u71 ((hC61.1 0 6 rfl).2.2.trans ((hC60.1 0 6 rfl).2.2.trans c55_1)) rfl
                        · have u72 : (gi61 0 14).toInt ≤ 473 := t_ltu (t_nle h69) (by decide : (474:Int32).toInt ≤ (474:Int)) rfl
                          refine ev_loc f_X11_addReading (nx := 11) rfl rfl rfl rfl ?_
                          refine ev_getR f_X11_addReading (nx := 14) rfl (hI.wf.s rfl) rfl rfl (hI.wf.r rfl) rfl rfl ?_
                          refine ev_ic f_X11_addReading (nx := 15) (v := 3) rfl (by decide) rfl ?_
                          refine ev_loc f_X11_addReading (nx := 16) rfl rfl rfl rfl ?_
                          refine ev_gvI f_X11_addReading (nx := 19) (w := (gi61 0 14)) rfl (hI.wf.s rfl) rfl rfl rfl rfl ?_
                          refine ev_mulL f_X11_addReading (nx := 20) (c := 3) (l := 0) (u := 1419) rfl (by decide) (by decide) l68 u72 rfl rfl (by decide) (by decide) rfl (fun z73 e73 l73 u73 => ?_)
                          refine ev_loc f_X11_addReading (nx := 21) rfl rfl rfl rfl ?_
                          refine ev_iastT f_X11_addReading (nx := 22) rfl (hI.wf.s rfl) l73 (by decide) u73 (by decide) rfl (hI.astO (hI.wf.s rfl) (Or.inl (by decide)) (by decide +kernel)) (hX.upI (t_inA_ok rfl)) (fun g74 e74 hI hX => ?_)
                          refine ev_loc f_X11_addReading (nx := 23) rfl rfl rfl rfl ?_
                          refine ev_getR f_X11_addReading (nx := 26) rfl (hI.wf.s rfl) rfl rfl (hI.wf.r rfl) rfl rfl ?_
                          refine ev_ic f_X11_addReading (nx := 27) (v := 3) rfl (by decide) rfl ?_
                          refine ev_loc f_X11_addReading (nx := 28) rfl rfl rfl rfl ?_
                          refine ev_gvI f_X11_addReading (nx := 31) (w := (gi61 0 14)) rfl (hI.wf.s rfl) rfl rfl ((by rw [e74]; exact x_up2_off (Or.inl (by decide)) : g74 0 14 = gi61 0 14).trans rfl) rfl ?_
                          refine ev_mulL f_X11_addReading (nx := 32) (c := 3) (l := 0) (u := 1419) rfl (by decide) (by decide) l68 u72 rfl rfl (by decide) (by decide) rfl (fun z75 e75 l75 u75 => ?_)
                          refine ev_ic f_X11_addReading (nx := 33) (v := 1) rfl (by decide) rfl ?_
                          refine ev_addC f_X11_addReading (nx := 34) (c := 1) (l := 1) (u := 1420) rfl (by decide) l75 u75 rfl rfl (by decide) (by decide) rfl (fun z76 e76 l76 u76 => ?_)
                          refine ev_loc f_X11_addReading (nx := 35) rfl rfl rfl rfl ?_
                          refine ev_iastT f_X11_addReading (nx := 36) rfl (hI.wf.s rfl) l76 (by decide) u76 (by decide) rfl (hI.astO (hI.wf.s rfl) (Or.inl (by decide)) (by decide +kernel)) (hX.upI (t_inA_ok rfl)) (fun g77 e77 hI hX => ?_)
                          refine ev_loc f_X11_addReading (nx := 37) rfl rfl rfl rfl ?_
                          refine ev_getR f_X11_addReading (nx := 40) rfl (hI.wf.s rfl) rfl rfl (hI.wf.r rfl) rfl rfl ?_
                          refine ev_ic f_X11_addReading (nx := 41) (v := 3) rfl (by decide) rfl ?_
                          refine ev_loc f_X11_addReading (nx := 42) rfl rfl rfl rfl ?_
                          refine ev_gvI f_X11_addReading (nx := 45) (w := (gi61 0 14)) rfl (hI.wf.s rfl) rfl rfl ((by rw [e77]; exact x_up2_off (Or.inl (by decide)) : g77 0 14 = g74 0 14).trans ((by rw [e74]; exact x_up2_off (Or.inl (by decide)) : g74 0 14 = gi61 0 14).trans rfl)) rfl ?_
                          refine ev_mulL f_X11_addReading (nx := 46) (c := 3) (l := 0) (u := 1419) rfl (by decide) (by decide) l68 u72 rfl rfl (by decide) (by decide) rfl (fun z78 e78 l78 u78 => ?_)
                          refine ev_ic f_X11_addReading (nx := 47) (v := 2) rfl (by decide) rfl ?_
                          refine ev_addC f_X11_addReading (nx := 48) (c := 2) (l := 2) (u := 1421) rfl (by decide) l78 u78 rfl rfl (by decide) (by decide) rfl (fun z79 e79 l79 u79 => ?_)
                          refine ev_loc f_X11_addReading (nx := 49) rfl rfl rfl rfl ?_
                          refine ev_iastT f_X11_addReading (nx := 50) rfl (hI.wf.s rfl) l79 (by decide) u79 (by decide) rfl (hI.astO (hI.wf.s rfl) (Or.inl (by decide)) (by decide +kernel)) (hX.upI (t_inA_ok rfl)) (fun g80 e80 hI hX => ?_)
                          refine ev_loc f_X11_addReading (nx := 51) rfl rfl rfl rfl ?_
                          refine ev_alu f_X11_addReading (nx := 52) rfl rfl rfl rfl ?_
                          refine ev_gvI f_X11_addReading (nx := 55) (w := (gi61 0 14)) rfl (hI.wf.s rfl) rfl rfl ((by rw [e80]; exact x_up2_off (Or.inl (by decide)) : g80 0 14 = g77 0 14).trans ((by rw [e77]; exact x_up2_off (Or.inl (by decide)) : g77 0 14 = g74 0 14).trans ((by rw [e74]; exact x_up2_off (Or.inl (by decide)) : g74 0 14 = gi61 0 14).trans rfl))) rfl ?_
                          refine ev_ic f_X11_addReading (nx := 56) (v := 1) rfl (by decide) rfl ?_
                          refine ev_addC f_X11_addReading (nx := 57) (c := 1) (l := 1) (u := 474) rfl (by decide) l68 u72 rfl rfl (by decide) (by decide) rfl (fun z81 e81 l81 u81 => ?_)
                          refine ev_putIT f_X11_addReading (nx := 60) rfl (hI.wf.s rfl) rfl rfl rfl (hI.putB (hI.wf.s rfl) rfl rfl l81 (by decide) u81 (by decide)) (hX.upI rfl) (fun g82 e82 hI hX => ?_)
                          refine ev_retK0 f_X11_addReading rfl rfl rfl ?_
                          refine ev_incR f_X11_readings (nx := 133) (c := 1) (l := 1) (u := 13) rfl rfl (by decide) (by decide) l55_5 u59 rfl rfl (by decide) (by decide) rfl (fun z83 e83 l83 u83 => ?_)
                          refine ev_jmp f_X11_readings (nx := 97) rfl rfl rfl ?_
                          refine ev_sub (lo := [(5, .int z83), (4, .int y16_4), (3, .int y9_3), (0, .ref 0), (1, .long ar1)]) rfl (t_sc rfl (t_sc rfl (t_sc rfl (t_sc rfl (t_sc rfl t_sn))))) ?_
                          exact ih55 _ (by omega) g82 gl61 gr61 (z83) hI hX p6 (Int.le_trans (by decide : (0:Int) ≤ 1) l83) u83 ((hC61.1 0 6 rfl).2.2.trans ((hC60.1 0 6 rfl).2.2.trans c55_1)) rfl
                      · refine ev_incR f_X11_readings (nx := 133) (c := 1) (l := 1) (u := 13) rfl rfl (by decide) (by decide) l55_5 u59 rfl rfl (by decide) (by decide) rfl (fun z84 e84 l84 u84 => ?_)
                        refine ev_jmp f_X11_readings (nx := 97) rfl rfl rfl ?_
                        refine ev_sub (lo := [(5, .int z84), (4, .int y16_4), (3, .int y9_3), (0, .ref 0), (1, .long ar1)]) rfl (t_sc rfl (t_sc rfl (t_sc rfl (t_sc rfl (t_sc rfl t_sn))))) ?_
                        exact ih55 _ (by omega) gi61 gl61 gr61 (z84) hI hX p6 (Int.le_trans (by decide : (0:Int) ≤ 1) l84) u84 ((hC61.1 0 6 rfl).2.2.trans ((hC60.1 0 6 rfl).2.2.trans c55_1)) rfl
                  refine ev_sub (lo := [(5, .int 1), (4, .int y16_4), (3, .int y9_3), (0, .ref 0), (1, .long ar1)]) rfl (t_sc rfl (t_sc rfl (t_sc rfl (t_sc rfl (t_sc rfl t_sn))))) ?_
                  exact L55 _ gi16 gl16 gr16 (1) hI hX p6 (Int.le_trans (by decide : (0:Int) ≤ 1) (by decide : (1:Int) ≤ (1:Int32).toInt)) (Int.le_trans (by decide : (1:Int32).toInt ≤ (1:Int)) (by decide : (1:Int) ≤ 13)) c16_1 rfl
            refine ev_sub (lo := [(4, .int 0), (3, .int y9_3), (0, .ref 0), (1, .long ar1)]) rfl (t_sc rfl (t_sc rfl (t_sc rfl (t_sc rfl t_sn)))) ?_
            exact L16 _ gi9 gl9 gr9 (0) hI hX p6 (by decide : (0:Int) ≤ (0:Int32).toInt) (Int.le_trans (by decide : (0:Int32).toInt ≤ (0:Int)) (by decide : (0:Int) ≤ 6)) c9_1 rfl
        refine ev_sub (lo := [(3, .int 0), (0, .ref 0), (1, .long ar1)]) rfl (t_sc rfl (t_sc rfl (t_sc rfl t_sn))) ?_
        exact L9 _ gi5 gl5 gr5 (0) hI hX p6 (by decide : (0:Int) ≤ (0:Int32).toInt) (Int.le_trans (by decide : (0:Int32).toInt ≤ (0:Int)) (by decide : (0:Int) ≤ 6)) e6 rfl
      · have u85 : y5_3.toInt ≤ 5 := t_ltu (t_nle h8) u7 rfl
        have l86 : 1 ≤ (gi5 a6 0).toInt := t_ltl (t_nle h8) l5_3 rfl
        refine ev_loc f_X11_readings (nx := 31) rfl rfl rfl rfl ?_
        refine ev_getR f_X11_readings (nx := 34) (v := .ref a6) rfl (hI.wf.s rfl) rfl rfl e6 rfl rfl ?_
        refine ev_loc f_X11_readings (nx := 35) rfl rfl rfl rfl ?_
        refine ev_cL f_X11_readings (nx := 38) (r := []) rfl rfl rfl rfl rfl rfl rfl (c_heardOf hI (a6) p6 (y5_3)) rfl hX rfl (fun w87 gi87 gl87 gr87 hI hX hC87 => ?_)
        replace p6 := p6.ext hC87.2
        refine ev_loc f_X11_readings (nx := 39) rfl rfl rfl rfl ?_
        refine ev_anyI f_X11_readings (nx := 40) rfl rfl rfl rfl (fun z88 => ?_)
        refine ev_if f_X11_readings (t1 := 43) (t2 := 51) rfl rfl rfl (fun h89 => ?_) (fun h89 => ?_)
        · have u90 : z88.toInt ≤ 0 := t_equ h89 (by decide : (0:Int32).toInt ≤ (0:Int))
          have l91 : 0 ≤ z88.toInt := t_eql h89 (by decide : (0:Int) ≤ (0:Int32).toInt)
          refine ev_loc f_X11_readings (nx := 44) rfl rfl rfl rfl ?_
          refine ev_loc f_X11_readings (nx := 45) rfl rfl rfl rfl ?_
          refine ev_bp f_X11_readings (nx := 47) (v := 6) rfl (by decide) rfl ?_
          refine ev_ic f_X11_readings (nx := 48) (v := 0) rfl (by decide) rfl ?_
          refine ev_inV4 f_X11_readings (nx := 51) (lo2 := [(0, .ref 0), (1, .int y5_3), (2, .int 6), (3, .int 0)]) rfl rfl rfl rfl f_X11_addReading (hI.wf.s rfl) rfl rfl rfl rfl rfl ?_
          refine ev_loc f_X11_addReading (nx := 1) rfl rfl rfl rfl ?_
          refine ev_getI f_X11_addReading (nx := 4) rfl (hI.wf.s rfl) rfl rfl rfl ?_
          obtain ⟨l92, u92⟩ := hI.b (hI.wf.s (k := 0) rfl) (t_bdK rfl : t_bd 10 14 = some (0, 474))
          refine ev_sp f_X11_addReading (nx := 7) (v := 474) rfl (by decide) rfl ?_
          refine ev_if f_X11_addReading (t1 := 60) (t2 := 10) rfl rfl rfl (fun h93 => ?_) (fun h93 => ?_)
          · have l94 : 474 ≤ (gi87 0 14).toInt := t_lel h93 (by decide : (474:Int) ≤ (474:Int32).toInt)
            refine ev_retK0 f_X11_addReading rfl rfl rfl ?_
            refine ev_incR f_X11_readings (nx := 54) (c := 1) (l := 1) (u := 6) rfl rfl (by decide) (by decide) l5_3 u85 rfl rfl (by decide) (by decide) rfl (fun z95 e95 l95 u95 => ?_)
            refine ev_jmp f_X11_readings (nx := 19) rfl rfl rfl ?_
            refine ev_sub (lo := [(3, .int z95), (0, .ref 0), (1, .long ar1)]) rfl (t_sc rfl (t_sc rfl (t_sc rfl t_sn))) ?_
            exact ih5 _ (by omega) gi87 gl87 gr87 (z95) hI hX  (Int.le_trans (by decide : (0:Int) ≤ 1) l95) u95 rfl
          · have u96 : (gi87 0 14).toInt ≤ 473 := t_ltu (t_nle h93) (by decide : (474:Int32).toInt ≤ (474:Int)) rfl
            refine ev_loc f_X11_addReading (nx := 11) rfl rfl rfl rfl ?_
            refine ev_getR f_X11_addReading (nx := 14) rfl (hI.wf.s rfl) rfl rfl (hI.wf.r rfl) rfl rfl ?_
            refine ev_ic f_X11_addReading (nx := 15) (v := 3) rfl (by decide) rfl ?_
            refine ev_loc f_X11_addReading (nx := 16) rfl rfl rfl rfl ?_
            refine ev_gvI f_X11_addReading (nx := 19) (w := (gi87 0 14)) rfl (hI.wf.s rfl) rfl rfl rfl rfl ?_
            refine ev_mulL f_X11_addReading (nx := 20) (c := 3) (l := 0) (u := 1419) rfl (by decide) (by decide) l92 u96 rfl rfl (by decide) (by decide) rfl (fun z97 e97 l97 u97 => ?_)
            refine ev_loc f_X11_addReading (nx := 21) rfl rfl rfl rfl ?_
            refine ev_iastT f_X11_addReading (nx := 22) rfl (hI.wf.s rfl) l97 (by decide) u97 (by decide) rfl (hI.astO (hI.wf.s rfl) (Or.inl (by decide)) (by decide +kernel)) (hX.upI (t_inA_ok rfl)) (fun g98 e98 hI hX => ?_)
            refine ev_loc f_X11_addReading (nx := 23) rfl rfl rfl rfl ?_
            refine ev_getR f_X11_addReading (nx := 26) rfl (hI.wf.s rfl) rfl rfl (hI.wf.r rfl) rfl rfl ?_
            refine ev_ic f_X11_addReading (nx := 27) (v := 3) rfl (by decide) rfl ?_
            refine ev_loc f_X11_addReading (nx := 28) rfl rfl rfl rfl ?_
            refine ev_gvI f_X11_addReading (nx := 31) (w := (gi87 0 14)) rfl (hI.wf.s rfl) rfl rfl ((by rw [e98]; exact x_up2_off (Or.inl (by decide)) : g98 0 14 = gi87 0 14).trans rfl) rfl ?_
            refine ev_mulL f_X11_addReading (nx := 32) (c := 3) (l := 0) (u := 1419) rfl (by decide) (by decide) l92 u96 rfl rfl (by decide) (by decide) rfl (fun z99 e99 l99 u99 => ?_)
            refine ev_ic f_X11_addReading (nx := 33) (v := 1) rfl (by decide) rfl ?_
            refine ev_addC f_X11_addReading (nx := 34) (c := 1) (l := 1) (u := 1420) rfl (by decide) l99 u99 rfl rfl (by decide) (by decide) rfl (fun z100 e100 l100 u100 => ?_)
            refine ev_loc f_X11_addReading (nx := 35) rfl rfl rfl rfl ?_
            refine ev_iastT f_X11_addReading (nx := 36) rfl (hI.wf.s rfl) l100 (by decide) u100 (by decide) rfl (hI.astO (hI.wf.s rfl) (Or.inl (by decide)) (by decide +kernel)) (hX.upI (t_inA_ok rfl)) (fun g101 e101 hI hX => ?_)
            refine ev_loc f_X11_addReading (nx := 37) rfl rfl rfl rfl ?_
            refine ev_getR f_X11_addReading (nx := 40) rfl (hI.wf.s rfl) rfl rfl (hI.wf.r rfl) rfl rfl ?_
            refine ev_ic f_X11_addReading (nx := 41) (v := 3) rfl (by decide) rfl ?_
            refine ev_loc f_X11_addReading (nx := 42) rfl rfl rfl rfl ?_
            refine ev_gvI f_X11_addReading (nx := 45) (w := (gi87 0 14)) rfl (hI.wf.s rfl) rfl rfl ((by rw [e101]; exact x_up2_off (Or.inl (by decide)) : g101 0 14 = g98 0 14).trans ((by rw [e98]; exact x_up2_off (Or.inl (by decide)) : g98 0 14 = gi87 0 14).trans rfl)) rfl ?_
            refine ev_mulL f_X11_addReading (nx := 46) (c := 3) (l := 0) (u := 1419) rfl (by decide) (by decide) l92 u96 rfl rfl (by decide) (by decide) rfl (fun z102 e102 l102 u102 => ?_)
            refine ev_ic f_X11_addReading (nx := 47) (v := 2) rfl (by decide) rfl ?_
            refine ev_addC f_X11_addReading (nx := 48) (c := 2) (l := 2) (u := 1421) rfl (by decide) l102 u102 rfl rfl (by decide) (by decide) rfl (fun z103 e103 l103 u103 => ?_)
            refine ev_loc f_X11_addReading (nx := 49) rfl rfl rfl rfl ?_
            refine ev_iastT f_X11_addReading (nx := 50) rfl (hI.wf.s rfl) l103 (by decide) u103 (by decide) rfl (hI.astO (hI.wf.s rfl) (Or.inl (by decide)) (by decide +kernel)) (hX.upI (t_inA_ok rfl)) (fun g104 e104 hI hX => ?_)
            refine ev_loc f_X11_addReading (nx := 51) rfl rfl rfl rfl ?_
            refine ev_alu f_X11_addReading (nx := 52) rfl rfl rfl rfl ?_
            refine ev_gvI f_X11_addReading (nx := 55) (w := (gi87 0 14)) rfl (hI.wf.s rfl) rfl rfl ((by rw [e104]; exact x_up2_off (Or.inl (by decide)) : g104 0 14 = g101 0 14).trans ((by rw [e101]; exact x_up2_off (Or.inl (by decide)) : g101 0 14 = g98 0 14).trans ((by rw [e98]; exact x_up2_off (Or.inl (by decide)) : g98 0 14 = gi87 0 14).trans rfl))) rfl ?_
            refine ev_ic f_X11_addReading (nx := 56) (v := 1) rfl (by decide) rfl ?_
            refine ev_addC f_X11_addReading (nx := 57) (c := 1) (l := 1) (u := 474) rfl (by decide) l92 u96 rfl rfl (by decide) (by decide) rfl (fun z105 e105 l105 u105 => ?_)
            refine ev_putIT f_X11_addReading (nx := 60) rfl (hI.wf.s rfl) rfl rfl rfl (hI.putB (hI.wf.s rfl) rfl rfl l105 (by decide) u105 (by decide)) (hX.upI rfl) (fun g106 e106 hI hX => ?_)
            refine ev_retK0 f_X11_addReading rfl rfl rfl ?_
            refine ev_incR f_X11_readings (nx := 54) (c := 1) (l := 1) (u := 6) rfl rfl (by decide) (by decide) l5_3 u85 rfl rfl (by decide) (by decide) rfl (fun z107 e107 l107 u107 => ?_)
            refine ev_jmp f_X11_readings (nx := 19) rfl rfl rfl ?_
            refine ev_sub (lo := [(3, .int z107), (0, .ref 0), (1, .long ar1)]) rfl (t_sc rfl (t_sc rfl (t_sc rfl t_sn))) ?_
            exact ih5 _ (by omega) g106 gl87 gr87 (z107) hI hX  (Int.le_trans (by decide : (0:Int) ≤ 1) l107) u107 rfl
        · refine ev_incR f_X11_readings (nx := 54) (c := 1) (l := 1) (u := 6) rfl rfl (by decide) (by decide) l5_3 u85 rfl rfl (by decide) (by decide) rfl (fun z108 e108 l108 u108 => ?_)
          refine ev_jmp f_X11_readings (nx := 19) rfl rfl rfl ?_
          refine ev_sub (lo := [(3, .int z108), (0, .ref 0), (1, .long ar1)]) rfl (t_sc rfl (t_sc rfl (t_sc rfl t_sn))) ?_
          exact ih5 _ (by omega) gi87 gl87 gr87 (z108) hI hX  (Int.le_trans (by decide : (0:Int) ≤ 1) l108) u108 rfl
    refine ev_sub (lo := [(3, .int 0), (0, .ref 0), (1, .long ar1)]) rfl (t_sc rfl (t_sc rfl (t_sc rfl t_sn))) ?_
    exact L5 _ g4 gl gr (0) hI hX  (by decide : (0:Int) ≤ (0:Int32).toInt) (Int.le_trans (by decide : (0:Int32).toInt ≤ (0:Int)) (by decide : (0:Int) ≤ 6)) rfl
  · have u109 : z1.toInt ≤ (-1) := t_ltu (t_nle h2) (by decide : (0:Int32).toInt ≤ (0:Int)) rfl
    refine ev_loc f_X11_readings (nx := 7) rfl rfl rfl rfl ?_
    refine ev_ic f_X11_readings (nx := 8) (v := 1) rfl (by decide) rfl ?_
    refine ev_inV2 f_X11_readings (nx := 11) (lo2 := [(0, .ref 0), (1, .int 1)]) rfl rfl rfl rfl f_X11_refuse (hI.wf.s rfl) rfl rfl rfl rfl rfl ?_
    refine ev_loc f_X11_refuse (nx := 1) rfl rfl rfl rfl ?_
    refine ev_loc f_X11_refuse (nx := 2) rfl rfl rfl rfl ?_
    refine ev_putIT f_X11_refuse (nx := 5) rfl (hI.wf.s rfl) rfl rfl rfl (hI.put0 (hI.wf.s rfl) rfl rfl) (hX.upI rfl) (fun g110 e110 hI hX => ?_)
    refine ev_ic f_X11_refuse (nx := 6) (v := -1) rfl (by decide) rfl ?_
    refine ev_retK1 f_X11_refuse rfl rfl rfl ?_
    exact ev_ret f_X11_readings rfl rfl rfl ⟨_, _, _, rfl, hI, hX, ⟨_, rfl, (by decide : ((-1):Int) ≤ ((-1):Int32).toInt), (Int.le_trans (by decide : ((-1):Int32).toInt ≤ ((-1):Int)) (by decide : ((-1):Int) ≤ 474))⟩⟩
noncomputable def wl_h_doubt : List (Nat × Nat) := [(0, 0), (0, 1), (0, 2)]
theorem c_h_doubt {X : x_Ext} {d : Nat} {sh : List (Nat ⊕ (Nat × Nat))} {gi : Nat → Nat → Int32} {gl : Nat → Nat → Int64} {gr : Nat → Nat → Value} (hI : t_I sh gi gr) (ar1 : Int64) (ar2 : Int32) : x_Me X (d + 6) n_X11_doubt [.ref 0, .long ar1, .int ar2] (sh, gi, gl, gr) (t_P wl_h_doubt sh gi gl gr (t_Ri 0 1)) := by
  have hX : t_X wl_h_doubt sh gi gl gr gi gl gr := t_X.rf
  refine me_i f_X11_doubt (hI.wf.s rfl) rfl rfl rfl ?_
  refine ev_loc f_X11_doubt (nx := 1) rfl rfl rfl rfl ?_
  refine ev_lc f_X11_doubt (nx := 2) (v := 1) rfl (by decide) rfl ?_
  refine ev_anyI f_X11_doubt (nx := 3) rfl rfl rfl rfl (fun z1 => ?_)
  refine ev_if f_X11_doubt (t1 := 14) (t2 := 6) rfl rfl rfl (fun h2 => ?_) (fun h2 => ?_)
  · have u3 : z1.toInt ≤ (-1) := t_ltu h2 (by decide : (0:Int32).toInt ≤ (0:Int)) rfl
    refine ev_loc f_X11_doubt (nx := 15) rfl rfl rfl rfl ?_
    refine ev_ic f_X11_doubt (nx := 16) (v := 1) rfl (by decide) rfl ?_
    refine ev_inV2 f_X11_doubt (nx := 19) (lo2 := [(0, .ref 0), (1, .int 1)]) rfl rfl rfl rfl f_X11_deny (hI.wf.s rfl) rfl rfl rfl rfl rfl ?_
    refine ev_loc f_X11_deny (nx := 1) rfl rfl rfl rfl ?_
    refine ev_loc f_X11_deny (nx := 2) rfl rfl rfl rfl ?_
    refine ev_putIT f_X11_deny (nx := 5) rfl (hI.wf.s rfl) rfl rfl rfl (hI.put0 (hI.wf.s rfl) rfl rfl) (hX.upI rfl) (fun g4 e4 hI hX => ?_)
    refine ev_ic f_X11_deny (nx := 6) (v := 0) rfl (by decide) rfl ?_
    refine ev_retK1 f_X11_deny rfl rfl rfl ?_
    exact ev_ret f_X11_doubt rfl rfl rfl ⟨_, _, _, rfl, hI, hX, ⟨_, rfl, (by decide : (0:Int) ≤ (0:Int32).toInt), (Int.le_trans (by decide : (0:Int32).toInt ≤ (0:Int)) (by decide : (0:Int) ≤ 1))⟩⟩
  · have l5 : 0 ≤ z1.toInt := t_lel (t_nlt h2) (by decide : (0:Int) ≤ (0:Int32).toInt)
    refine ev_loc f_X11_doubt (nx := 7) rfl rfl rfl rfl ?_
    refine ev_loc f_X11_doubt (nx := 8) rfl rfl rfl rfl ?_
    refine ev_inV2 f_X11_doubt (nx := 11) (lo2 := [(0, .ref 0), (1, .int ar2)]) rfl rfl rfl rfl f_X11_isPort (hI.wf.s rfl) rfl rfl rfl rfl rfl ?_
    refine ev_loc f_X11_isPort (nx := 1) rfl rfl rfl rfl ?_
    refine ev_if f_X11_isPort (t1 := 19) (t2 := 4) rfl rfl rfl (fun h6 => ?_) (fun h6 => ?_)
    · have u7 : ar2.toInt ≤ (-1) := t_ltu h6 (by decide : (0:Int32).toInt ≤ (0:Int)) rfl
      refine ev_ic f_X11_isPort (nx := 20) (v := 0) rfl (by decide) rfl ?_
      refine ev_retK1 f_X11_isPort rfl rfl rfl ?_
      refine ev_t f_X11_doubt (t1 := 14) (t2 := 20) rfl rfl rfl (by decide) ?_
      refine ev_loc f_X11_doubt (nx := 15) rfl rfl rfl rfl ?_
      refine ev_ic f_X11_doubt (nx := 16) (v := 1) rfl (by decide) rfl ?_
      refine ev_inV2 f_X11_doubt (nx := 19) (lo2 := [(0, .ref 0), (1, .int 1)]) rfl rfl rfl rfl f_X11_deny (hI.wf.s rfl) rfl rfl rfl rfl rfl ?_
      refine ev_loc f_X11_deny (nx := 1) rfl rfl rfl rfl ?_
      refine ev_loc f_X11_deny (nx := 2) rfl rfl rfl rfl ?_
      refine ev_putIT f_X11_deny (nx := 5) rfl (hI.wf.s rfl) rfl rfl rfl (hI.put0 (hI.wf.s rfl) rfl rfl) (hX.upI rfl) (fun g8 e8 hI hX => ?_)
      refine ev_ic f_X11_deny (nx := 6) (v := 0) rfl (by decide) rfl ?_
      refine ev_retK1 f_X11_deny rfl rfl rfl ?_
      exact ev_ret f_X11_doubt rfl rfl rfl ⟨_, _, _, rfl, hI, hX, ⟨_, rfl, (by decide : (0:Int) ≤ (0:Int32).toInt), (Int.le_trans (by decide : (0:Int32).toInt ≤ (0:Int)) (by decide : (0:Int) ≤ 1))⟩⟩
    · have l9 : 0 ≤ ar2.toInt := t_lel (t_nlt h6) (by decide : (0:Int) ≤ (0:Int32).toInt)
      refine ev_loc f_X11_isPort (nx := 5) rfl rfl rfl rfl ?_
      refine ev_loc f_X11_isPort (nx := 6) rfl rfl rfl rfl ?_
      obtain ⟨a10, e10, p10⟩ := hI.2.2.2.1.1
      refine ev_getR f_X11_isPort (nx := 9) rfl (hI.wf.s rfl) rfl rfl e10 rfl rfl ?_
      refine ev_getI f_X11_isPort (nx := 12) rfl p10.1 rfl rfl rfl ?_
      obtain ⟨l11, u11⟩ := hI.b p10.1 (t_bdK rfl : t_bd 4 0 = some (0, 6))
      refine ev_if f_X11_isPort (t1 := 19) (t2 := 15) rfl rfl rfl (fun h12 => ?_) (fun h12 => ?_)
      · refine ev_ic f_X11_isPort (nx := 20) (v := 0) rfl (by decide) rfl ?_
        refine ev_retK1 f_X11_isPort rfl rfl rfl ?_
        refine ev_t f_X11_doubt (t1 := 14) (t2 := 20) rfl rfl rfl (by decide) ?_
        refine ev_loc f_X11_doubt (nx := 15) rfl rfl rfl rfl ?_
        refine ev_ic f_X11_doubt (nx := 16) (v := 1) rfl (by decide) rfl ?_
        refine ev_inV2 f_X11_doubt (nx := 19) (lo2 := [(0, .ref 0), (1, .int 1)]) rfl rfl rfl rfl f_X11_deny (hI.wf.s rfl) rfl rfl rfl rfl rfl ?_
        refine ev_loc f_X11_deny (nx := 1) rfl rfl rfl rfl ?_
        refine ev_loc f_X11_deny (nx := 2) rfl rfl rfl rfl ?_
        refine ev_putIT f_X11_deny (nx := 5) rfl (hI.wf.s rfl) rfl rfl rfl (hI.put0 (hI.wf.s rfl) rfl rfl) (hX.upI rfl) (fun g13 e13 hI hX => ?_)
        refine ev_ic f_X11_deny (nx := 6) (v := 0) rfl (by decide) rfl ?_
        refine ev_retK1 f_X11_deny rfl rfl rfl ?_
        exact ev_ret f_X11_doubt rfl rfl rfl ⟨_, _, _, rfl, hI, hX, ⟨_, rfl, (by decide : (0:Int) ≤ (0:Int32).toInt), (Int.le_trans (by decide : (0:Int32).toInt ≤ (0:Int)) (by decide : (0:Int) ≤ 1))⟩⟩
      · have u14 : ar2.toInt ≤ 5 := t_ltu (t_nle h12) u11 rfl
        have l15 : 1 ≤ (gi a10 0).toInt := t_ltl (t_nle h12) l9 rfl
        refine ev_ic f_X11_isPort (nx := 16) (v := 1) rfl (by decide) rfl ?_
        refine ev_jmp f_X11_isPort (nx := 20) rfl rfl rfl ?_
        refine ev_retK1 f_X11_isPort rfl rfl rfl ?_
        refine ev_f f_X11_doubt (t1 := 14) (t2 := 20) rfl rfl rfl (by decide) ?_
        refine ev_loc f_X11_doubt (nx := 21) rfl rfl rfl rfl ?_
        refine ev_getR f_X11_doubt (nx := 24) (v := .ref a10) rfl (hI.wf.s rfl) rfl rfl e10 rfl rfl ?_
        refine ev_loc f_X11_doubt (nx := 25) rfl rfl rfl rfl ?_
        refine ev_ic f_X11_doubt (nx := 26) (v := -1) rfl (by decide) rfl ?_
        refine ev_cI f_X11_doubt (nx := 29) (r := []) rfl rfl rfl rfl rfl rfl rfl (c_countReadings hI (a10) p10 (ar1) ((-1))) rfl hX rfl (fun w16 gi16 gl16 gr16 l16 u16 hI hX hC16 => ?_)
        replace p10 := p10.ext hC16.2
        refine ev_loc f_X11_doubt (nx := 31) (lo' := [(4, .int w16), (0, .ref 0), (1, .long ar1), (3, .int ar2)]) rfl rfl rfl rfl ?_
        refine ev_loc f_X11_doubt (nx := 33) rfl rfl rfl rfl ?_
        refine ev_if f_X11_doubt (t1 := 36) (t2 := 43) rfl rfl rfl (fun h17 => ?_) (fun h17 => ?_)
        · have u18 : w16.toInt ≤ 0 := t_equ h17 (by decide : (0:Int32).toInt ≤ (0:Int))
          have l19 : 0 ≤ w16.toInt := t_eql h17 (by decide : (0:Int) ≤ (0:Int32).toInt)
          refine ev_loc f_X11_doubt (nx := 37) rfl rfl rfl rfl ?_
          refine ev_bp f_X11_doubt (nx := 39) (v := 6) rfl (by decide) rfl ?_
          refine ev_inV2 f_X11_doubt (nx := 42) (lo2 := [(0, .ref 0), (1, .int 6)]) rfl rfl rfl rfl f_X11_deny (hI.wf.s rfl) rfl rfl rfl rfl rfl ?_
          refine ev_loc f_X11_deny (nx := 1) rfl rfl rfl rfl ?_
          refine ev_loc f_X11_deny (nx := 2) rfl rfl rfl rfl ?_
          refine ev_putIT f_X11_deny (nx := 5) rfl (hI.wf.s rfl) rfl rfl rfl (hI.put0 (hI.wf.s rfl) rfl rfl) (hX.upI rfl) (fun g20 e20 hI hX => ?_)
          refine ev_ic f_X11_deny (nx := 6) (v := 0) rfl (by decide) rfl ?_
          refine ev_retK1 f_X11_deny rfl rfl rfl ?_
          exact ev_ret f_X11_doubt rfl rfl rfl ⟨_, _, _, rfl, hI, hX, ⟨_, rfl, (by decide : (0:Int) ≤ (0:Int32).toInt), (Int.le_trans (by decide : (0:Int32).toInt ≤ (0:Int)) (by decide : (0:Int) ≤ 1))⟩⟩
        · refine ev_loc f_X11_doubt (nx := 44) rfl rfl rfl rfl ?_
          refine ev_loc f_X11_doubt (nx := 45) rfl rfl rfl rfl ?_
          refine ev_getR f_X11_doubt (nx := 48) (v := .ref a10) rfl (hI.wf.s rfl) rfl rfl ((hC16.1 0 6 rfl).2.2.trans e10) rfl rfl ?_
          refine ev_loc f_X11_doubt (nx := 49) rfl rfl rfl rfl ?_
          refine ev_loc f_X11_doubt (nx := 50) rfl rfl rfl rfl ?_
          refine ev_cI f_X11_doubt (nx := 53) (r := [.ref 0]) rfl rfl rfl rfl rfl rfl rfl (c_countReadings hI (a10) p10 (ar1) (ar2)) rfl hX rfl (fun w21 gi21 gl21 gr21 l21 u21 hI hX hC21 => ?_)
          replace p10 := p10.ext hC21.2
          refine ev_loc f_X11_doubt (nx := 55) rfl rfl rfl rfl ?_
          refine ev_c0 f_X11_doubt (nx := 58) (r := []) rfl rfl rfl rfl rfl rfl rfl (c_tellFraction hI (w21) (w16)) rfl hX rfl (fun gi22 gl22 gr22 hI hX hC22 => ?_)
          replace p10 := p10.ext hC22.2
          refine ev_loc f_X11_doubt (nx := 59) rfl rfl rfl rfl ?_
          refine ev_inV1 f_X11_doubt (nx := 62) (lo2 := [(0, .ref 0)]) rfl rfl rfl rfl f_X11_grant (hI.wf.s rfl) rfl rfl rfl rfl rfl ?_
          refine ev_loc f_X11_grant (nx := 1) rfl rfl rfl rfl ?_
          refine ev_ic f_X11_grant (nx := 2) (v := 0) rfl (by decide) rfl ?_
          refine ev_putIT f_X11_grant (nx := 5) rfl (hI.wf.s rfl) rfl rfl rfl (hI.put0 (hI.wf.s rfl) rfl rfl) (hX.upI rfl) (fun g23 e23 hI hX => ?_)
          refine ev_ic f_X11_grant (nx := 6) (v := 1) rfl (by decide) rfl ?_
          refine ev_retK1 f_X11_grant rfl rfl rfl ?_
          exact ev_ret f_X11_doubt rfl rfl rfl ⟨_, _, _, rfl, hI, hX, ⟨_, rfl, (Int.le_trans (by decide : (0:Int) ≤ 1) (by decide : (1:Int) ≤ (1:Int32).toInt)), (by decide : (1:Int32).toInt ≤ (1:Int))⟩⟩
noncomputable def wl_h_parts : List (Nat × Nat) := [(0, 0)]
theorem c_h_parts {X : x_Ext} {d : Nat} {sh : List (Nat ⊕ (Nat × Nat))} {gi : Nat → Nat → Int32} {gl : Nat → Nat → Int64} {gr : Nat → Nat → Value} (hI : t_I sh gi gr) (ar1 : Int64) : x_Me X (d + 3) n_X11_parts [.ref 0, .long ar1] (sh, gi, gl, gr) (t_P wl_h_parts sh gi gl gr (t_Ri (-2147483648) 2147483647)) := by
  have hX : t_X wl_h_parts sh gi gl gr gi gl gr := t_X.rf
  refine me_i f_X11_parts (hI.wf.s rfl) rfl rfl rfl ?_
  refine ev_loc f_X11_parts (nx := 1) rfl rfl rfl rfl ?_
  refine ev_lc f_X11_parts (nx := 2) (v := 1) rfl (by decide) rfl ?_
  refine ev_anyI f_X11_parts (nx := 3) rfl rfl rfl rfl (fun z1 => ?_)
  refine ev_if f_X11_parts (t1 := 12) (t2 := 6) rfl rfl rfl (fun h2 => ?_) (fun h2 => ?_)
  · have l3 : 0 ≤ z1.toInt := t_lel h2 (by decide : (0:Int) ≤ (0:Int32).toInt)
    refine ev_ic f_X11_parts (nx := 13) (v := 0) rfl (by decide) rfl ?_
    refine ev_loc f_X11_parts (nx := 14) (lo' := [(3, .int 0), (0, .ref 0), (1, .long ar1)]) rfl rfl rfl rfl ?_
    refine ev_ic f_X11_parts (nx := 15) (v := 0) rfl (by decide) rfl ?_
    refine ev_loc f_X11_parts (nx := 17) (lo' := [(4, .int 0), (3, .int 0), (0, .ref 0), (1, .long ar1)]) rfl rfl rfl rfl ?_
    have L4 : ∀ (m4 : Nat) (gi4 : Nat → Nat → Int32) (gl4 : Nat → Nat → Int64) (gr4 : Nat → Nat → Value) (y4_4 : Int32) (y4_3 : Int32), t_I sh gi4 gr4 → t_X wl_h_parts sh gi gl gr gi4 gl4 gr4 → 0 ≤ y4_4.toInt → y4_4.toInt ≤ 6 → (6 - y4_4.toInt).toNat = m4 → x_Ev X (d + 3) n_X11_parts 17 [(4, .int y4_4), (3, .int y4_3), (0, .ref 0), (1, .long ar1)] [] (sh, gi4, gl4, gr4) (t_P wl_h_parts sh gi gl gr (t_Ri (-2147483648) 2147483647)) := by
      intro m4
      induction m4 using Nat.strongRecOn with
      | _ m4 ih4 =>
      intro gi4 gl4 gr4 y4_4 y4_3 hI hX l4_4 u4_4 hm4
      refine ev_loc f_X11_parts (nx := 19) rfl rfl rfl rfl ?_
      refine ev_loc f_X11_parts (nx := 20) rfl rfl rfl rfl ?_
      obtain ⟨a5, e5, p5⟩ := hI.2.2.2.1.1
      refine ev_getR f_X11_parts (nx := 23) rfl (hI.wf.s rfl) rfl rfl e5 rfl rfl ?_
      refine ev_getI f_X11_parts (nx := 26) rfl p5.1 rfl rfl rfl ?_
      obtain ⟨l6, u6⟩ := hI.b p5.1 (t_bdK rfl : t_bd 4 0 = some (0, 6))
      refine ev_if f_X11_parts (t1 := 62) (t2 := 29) rfl rfl rfl (fun h7 => ?_) (fun h7 => ?_)
      · refine ev_loc f_X11_parts (nx := 63) rfl rfl rfl rfl ?_
        refine ev_loc f_X11_parts (nx := 64) rfl rfl rfl rfl ?_
        refine ev_inV2 f_X11_parts (nx := 67) (lo2 := [(0, .ref 0), (1, .int y4_3)]) rfl rfl rfl rfl f_X11_answer (hI.wf.s rfl) rfl rfl rfl rfl rfl ?_
        refine ev_loc f_X11_answer (nx := 1) rfl rfl rfl rfl ?_
        refine ev_ic f_X11_answer (nx := 2) (v := 0) rfl (by decide) rfl ?_
        refine ev_putIT f_X11_answer (nx := 5) rfl (hI.wf.s rfl) rfl rfl rfl (hI.put0 (hI.wf.s rfl) rfl rfl) (hX.upI rfl) (fun g8 e8 hI hX => ?_)
        refine ev_loc f_X11_answer (nx := 6) rfl rfl rfl rfl ?_
        refine ev_retK1 f_X11_answer rfl rfl rfl ?_
        exact ev_ret f_X11_parts rfl rfl rfl ⟨_, _, _, rfl, hI, hX, ⟨_, rfl, (t_lo y4_3), (t_hi y4_3)⟩⟩
      · have u9 : y4_4.toInt ≤ 5 := t_ltu (t_nle h7) u6 rfl
        have l10 : 1 ≤ (gi4 a5 0).toInt := t_ltl (t_nle h7) l4_4 rfl
        refine ev_loc f_X11_parts (nx := 30) rfl rfl rfl rfl ?_
        refine ev_getR f_X11_parts (nx := 33) (v := .ref a5) rfl (hI.wf.s rfl) rfl rfl e5 rfl rfl ?_
        refine ev_loc f_X11_parts (nx := 35) rfl rfl rfl rfl ?_
        refine ev_cL f_X11_parts (nx := 38) (r := []) rfl rfl rfl rfl rfl rfl rfl (c_heardOf hI (a5) p5 (y4_4)) rfl hX rfl (fun w11 gi11 gl11 gr11 hI hX hC11 => ?_)
        replace p5 := p5.ext hC11.2
        refine ev_loc f_X11_parts (nx := 39) rfl rfl rfl rfl ?_
        refine ev_ldL f_X11_parts (nx := 42) (v := -1) rfl (by decide) rfl ?_
        refine ev_anyL f_X11_parts (nx := 43) rfl rfl rfl rfl (fun z12 => ?_)
        refine ev_anyL f_X11_parts (nx := 44) rfl rfl rfl rfl (fun z13 => ?_)
        refine ev_lc f_X11_parts (nx := 45) (v := 0) rfl (by decide) rfl ?_
        refine ev_anyI f_X11_parts (nx := 46) rfl rfl rfl rfl (fun z14 => ?_)
        refine ev_if f_X11_parts (t1 := 49) (t2 := 56) rfl rfl rfl (fun h15 => ?_) (fun h15 => ?_)
        · have u16 : z14.toInt ≤ 0 := t_equ h15 (by decide : (0:Int32).toInt ≤ (0:Int))
          have l17 : 0 ≤ z14.toInt := t_eql h15 (by decide : (0:Int) ≤ (0:Int32).toInt)
          refine ev_loc f_X11_parts (nx := 50) rfl rfl rfl rfl ?_
          refine ev_ic f_X11_parts (nx := 51) (v := 1) rfl (by decide) rfl ?_
          refine ev_loc f_X11_parts (nx := 53) rfl rfl rfl rfl ?_
          refine ev_shl1 f_X11_parts (nx := 54) rfl l4_4 u9 (by decide) (by decide) rfl (fun z18 l18 u18 => ?_)
          refine ev_anyI f_X11_parts (nx := 55) rfl rfl rfl rfl (fun z19 => ?_)
          refine ev_loc f_X11_parts (nx := 56) (lo' := [(3, .int z19), (4, .int y4_4), (0, .ref 0), (1, .long ar1)]) rfl rfl rfl rfl ?_
          refine ev_incR f_X11_parts (nx := 59) (c := 1) (l := 1) (u := 6) rfl rfl (by decide) (by decide) l4_4 u9 rfl rfl (by decide) (by decide) rfl (fun z20 e20 l20 u20 => ?_)
          refine ev_jmp f_X11_parts (nx := 17) rfl rfl rfl ?_
          refine ev_sub (lo := [(4, .int z20), (3, .int z19), (0, .ref 0), (1, .long ar1)]) rfl (t_sc rfl (t_sc rfl (t_sc rfl (t_sc rfl t_sn)))) ?_
          exact ih4 _ (by omega) gi11 gl11 gr11 (z20) (z19) hI hX  (Int.le_trans (by decide : (0:Int) ≤ 1) l20) u20 rfl
        · refine ev_incR f_X11_parts (nx := 59) (c := 1) (l := 1) (u := 6) rfl rfl (by decide) (by decide) l4_4 u9 rfl rfl (by decide) (by decide) rfl (fun z21 e21 l21 u21 => ?_)
          refine ev_jmp f_X11_parts (nx := 17) rfl rfl rfl ?_
          refine ev_sub (lo := [(4, .int z21), (3, .int y4_3), (0, .ref 0), (1, .long ar1)]) rfl (t_sc rfl (t_sc rfl (t_sc rfl (t_sc rfl t_sn)))) ?_
          exact ih4 _ (by omega) gi11 gl11 gr11 (z21) (y4_3) hI hX  (Int.le_trans (by decide : (0:Int) ≤ 1) l21) u21 rfl
    refine ev_sub (lo := [(4, .int 0), (3, .int 0), (0, .ref 0), (1, .long ar1)]) rfl (t_sc rfl (t_sc rfl (t_sc rfl (t_sc rfl t_sn)))) ?_
    exact L4 _ gi gl gr (0) (0) hI hX  (by decide : (0:Int) ≤ (0:Int32).toInt) (Int.le_trans (by decide : (0:Int32).toInt ≤ (0:Int)) (by decide : (0:Int) ≤ 6)) rfl
  · have u22 : z1.toInt ≤ (-1) := t_ltu (t_nle h2) (by decide : (0:Int32).toInt ≤ (0:Int)) rfl
    refine ev_loc f_X11_parts (nx := 7) rfl rfl rfl rfl ?_
    refine ev_ic f_X11_parts (nx := 8) (v := 1) rfl (by decide) rfl ?_
    refine ev_inV2 f_X11_parts (nx := 11) (lo2 := [(0, .ref 0), (1, .int 1)]) rfl rfl rfl rfl f_X11_refuse (hI.wf.s rfl) rfl rfl rfl rfl rfl ?_
    refine ev_loc f_X11_refuse (nx := 1) rfl rfl rfl rfl ?_
    refine ev_loc f_X11_refuse (nx := 2) rfl rfl rfl rfl ?_
    refine ev_putIT f_X11_refuse (nx := 5) rfl (hI.wf.s rfl) rfl rfl rfl (hI.put0 (hI.wf.s rfl) rfl rfl) (hX.upI rfl) (fun g23 e23 hI hX => ?_)
    refine ev_ic f_X11_refuse (nx := 6) (v := -1) rfl (by decide) rfl ?_
    refine ev_retK1 f_X11_refuse rfl rfl rfl ?_
    exact ev_ret f_X11_parts rfl rfl rfl ⟨_, _, _, rfl, hI, hX, ⟨_, rfl, (Int.le_trans (by decide : ((-2147483648):Int) ≤ (-1)) (by decide : ((-1):Int) ≤ ((-1):Int32).toInt)), (Int.le_trans (by decide : ((-1):Int32).toInt ≤ ((-1):Int)) (by decide : ((-1):Int) ≤ 2147483647))⟩⟩
