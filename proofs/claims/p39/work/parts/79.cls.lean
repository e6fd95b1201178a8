/-! ===== printed by cls.py: typed contracts of the class ===== -/
noncomputable def wl_spendDay : List (Nat × Nat) := [(45, 4), (45, 5), (45, 6), (45, 7), (45, 8), (45, 9), (45, 10), (45, 11), (45, 12), (45, 13), (45, 14), (46, 0), (47, 9999), (48, 9999), (49, 9999), (50, 9999), (51, 9999), (52, 0), (53, 9999), (54, 9999), (55, 9999), (56, 9999), (57, 9999), (58, 9999), (59, 9999)]
theorem c_spendDay {X : x_Ext} {d : Nat} {sh : List (Nat ⊕ (Nat × Nat))} {gi : Nat → Nat → Int32} {gl : Nat → Nat → Int64} {gr : Nat → Nat → Value} (hI : t_I sh gi gr) (ar1 : Nat) (p_a1 : t_Rv sh gr ar1) (ar2 : Nat) (p_a2 : t_Ru sh gr ar2) (ar3 : Int32) : x_Me X (d + 5) n_X2_spendDay [.ref 45, .ref ar1, .ref ar2, .int ar3] (sh, gi, gl, gr) (t_P wl_spendDay sh gi gl gr t_Rn) := by
  have hX : t_X wl_spendDay sh gi gl gr gi gl gr := t_X.rf
  refine me_i f_X2_spendDay (hI.wf.s rfl) rfl rfl rfl ?_
  refine ev_loc f_X2_spendDay (nx := 1) rfl rfl rfl rfl ?_
  refine ev_loc f_X2_spendDay (nx := 2) rfl rfl rfl rfl ?_
  refine ev_loc f_X2_spendDay (nx := 3) rfl rfl rfl rfl ?_
  refine ev_c0 f_X2_spendDay (nx := 6) (r := []) rfl rfl rfl rfl rfl rfl rfl (c_comeLater hI (ar1) p_a1 (ar3)) rfl hX rfl (fun gi1 gl1 gr1 hI hX hC1 => ?_)
  replace p_a1 := p_a1.ext hC1.2
  replace p_a2 := p_a2.ext hC1.2
  refine ev_loc f_X2_spendDay (nx := 7) rfl rfl rfl rfl ?_
  refine ev_ic f_X2_spendDay (nx := 8) (v := 0) rfl (by decide) rfl ?_
  refine ev_putZT f_X2_spendDay (nx := 11) rfl (hI.wf.s rfl) rfl rfl (by decide : (0:Int) ≤ (0:Int32).toInt) (Int.le_trans (by decide : (0:Int32).toInt ≤ (0:Int)) (by decide : (0:Int) ≤ 1)) rfl (hI.put0 (hI.wf.s rfl) rfl rfl) (hX.upI rfl) (fun g2 e2 hI hX => ?_)
  refine ev_loc f_X2_spendDay (nx := 12) rfl rfl rfl rfl ?_
  refine ev_ic f_X2_spendDay (nx := 13) (v := 0) rfl (by decide) rfl ?_
  refine ev_putIT f_X2_spendDay (nx := 16) rfl (hI.wf.s rfl) rfl rfl rfl (hI.put0 (hI.wf.s rfl) rfl rfl) (hX.upI rfl) (fun g3 e3 hI hX => ?_)
  refine ev_loc f_X2_spendDay (nx := 17) rfl rfl rfl rfl ?_
  refine ev_ic f_X2_spendDay (nx := 18) (v := 0) rfl (by decide) rfl ?_
  refine ev_putIT f_X2_spendDay (nx := 21) rfl (hI.wf.s rfl) rfl rfl rfl (hI.put0 (hI.wf.s rfl) rfl rfl) (hX.upI rfl) (fun g4 e4 hI hX => ?_)
  refine ev_loc f_X2_spendDay (nx := 22) rfl rfl rfl rfl ?_
  refine ev_ic f_X2_spendDay (nx := 23) (v := 0) rfl (by decide) rfl ?_
  refine ev_putIT f_X2_spendDay (nx := 26) rfl (hI.wf.s rfl) rfl rfl rfl (hI.put0 (hI.wf.s rfl) rfl rfl) (hX.upI rfl) (fun g5 e5 hI hX => ?_)
  refine ev_loc f_X2_spendDay (nx := 27) rfl rfl rfl rfl ?_
  refine ev_ic f_X2_spendDay (nx := 28) (v := 0) rfl (by decide) rfl ?_
  refine ev_putIT f_X2_spendDay (nx := 31) rfl (hI.wf.s rfl) rfl rfl rfl (hI.putB (hI.wf.s rfl) rfl rfl (by decide : (0:Int) ≤ (0:Int32).toInt) (by decide) (by decide : (0:Int32).toInt ≤ (0:Int)) (by decide)) (hX.upI rfl) (fun g6 e6 hI hX => ?_)
  refine ev_loc f_X2_spendDay (nx := 32) rfl rfl rfl rfl ?_
  refine ev_ic f_X2_spendDay (nx := 33) (v := 0) rfl (by decide) rfl ?_
  refine ev_putIT f_X2_spendDay (nx := 36) rfl (hI.wf.s rfl) rfl rfl rfl (hI.put0 (hI.wf.s rfl) rfl rfl) (hX.upI rfl) (fun g7 e7 hI hX => ?_)
  refine ev_loc f_X2_spendDay (nx := 37) rfl rfl rfl rfl ?_
  refine ev_ic f_X2_spendDay (nx := 38) (v := 0) rfl (by decide) rfl ?_
  refine ev_putIT f_X2_spendDay (nx := 41) rfl (hI.wf.s rfl) rfl rfl rfl (hI.put0 (hI.wf.s rfl) rfl rfl) (hX.upI rfl) (fun g8 e8 hI hX => ?_)
  refine ev_loc f_X2_spendDay (nx := 42) rfl rfl rfl rfl ?_
  refine ev_ic f_X2_spendDay (nx := 43) (v := 0) rfl (by decide) rfl ?_
  refine ev_putIT f_X2_spendDay (nx := 46) rfl (hI.wf.s rfl) rfl rfl rfl (hI.put0 (hI.wf.s rfl) rfl rfl) (hX.upI rfl) (fun g9 e9 hI hX => ?_)
  refine ev_loc f_X2_spendDay (nx := 47) rfl rfl rfl rfl ?_
  refine ev_ic f_X2_spendDay (nx := 48) (v := 0) rfl (by decide) rfl ?_
  refine ev_putIT f_X2_spendDay (nx := 51) rfl (hI.wf.s rfl) rfl rfl rfl (hI.put0 (hI.wf.s rfl) rfl rfl) (hX.upI rfl) (fun g10 e10 hI hX => ?_)
  refine ev_loc f_X2_spendDay (nx := 52) rfl rfl rfl rfl ?_
  refine ev_ic f_X2_spendDay (nx := 53) (v := 0) rfl (by decide) rfl ?_
  refine ev_putIT f_X2_spendDay (nx := 56) rfl (hI.wf.s rfl) rfl rfl rfl (hI.putB (hI.wf.s rfl) rfl rfl (by decide : (0:Int) ≤ (0:Int32).toInt) (by decide) (by decide : (0:Int32).toInt ≤ (0:Int)) (by decide)) (hX.upI rfl) (fun g11 e11 hI hX => ?_)
  have L12 : ∀ (m12 : Nat) (gi12 : Nat → Nat → Int32) (gl12 : Nat → Nat → Int64) (gr12 : Nat → Nat → Value), t_I sh gi12 gr12 → t_X wl_spendDay sh gi gl gr gi12 gl12 gr12 → t_Rv sh gr12 ar1 → t_Ru sh gr12 ar2 → (301 - (gi12 45 5).toInt).toNat = m12 → x_Ev X (d + 5) n_X2_spendDay 56 [(0, .ref 45), (1, .ref ar1), (2, .ref ar2), (3, .int ar3)] [] (sh, gi12, gl12, gr12) (t_P wl_spendDay sh gi gl gr t_Rn) := by
    intro m12
    induction m12 using Nat.strongRecOn with
    | _ m12 ih12 =>
    intro gi12 gl12 gr12 hI hX p_a1 p_a2 hm12
    refine ev_loc f_X2_spendDay (nx := 57) rfl rfl rfl rfl ?_
    refine ev_getI f_X2_spendDay (nx := 60) rfl (hI.wf.s rfl) rfl rfl rfl ?_
    obtain ⟨l13, u13⟩ := hI.b (hI.wf.s (k := 45) rfl) (t_bdK rfl : t_bd 2 5 = some (0, 301))
    refine ev_sp f_X2_spendDay (nx := 63) (v := 301) rfl (by decide) rfl ?_
    refine ev_if f_X2_spendDay (t1 := 135) (t2 := 66) rfl rfl rfl (fun h14 => ?_) (fun h14 => ?_)
    · have l15 : 301 ≤ (gi12 45 5).toInt := t_lel h14 (by decide : (301:Int) ≤ (301:Int32).toInt)
      refine ev_loc f_X2_spendDay (nx := 136) rfl rfl rfl rfl ?_
      refine ev_c0 f_X2_spendDay (nx := 139) (r := []) rfl rfl rfl rfl rfl rfl rfl (c_endWhatIsOver hI ) rfl hX rfl (fun gi16 gl16 gr16 hI hX hC16 => ?_)
      replace p_a1 := p_a1.ext hC16.2
      replace p_a2 := p_a2.ext hC16.2
      exact ev_ret f_X2_spendDay rfl rfl rfl ⟨_, _, _, rfl, hI, hX, rfl⟩
    · have u17 : (gi12 45 5).toInt ≤ 300 := t_ltu (t_nle h14) (by decide : (301:Int32).toInt ≤ (301:Int)) rfl
      refine ev_loc f_X2_spendDay (nx := 67) rfl rfl rfl rfl ?_
      refine ev_c0 f_X2_spendDay (nx := 70) (r := []) rfl rfl rfl rfl rfl rfl rfl (c_endWhatIsOver hI ) rfl hX rfl (fun gi18 gl18 gr18 hI hX hC18 => ?_)
      replace p_a1 := p_a1.ext hC18.2
      replace p_a2 := p_a2.ext hC18.2
      refine ev_loc f_X2_spendDay (nx := 71) rfl rfl rfl rfl ?_
      refine ev_cI f_X2_spendDay (nx := 74) (r := []) rfl rfl rfl rfl rfl rfl rfl (c_left hI ) rfl hX rfl (fun w19 gi19 gl19 gr19 l19 u19 hI hX hC19 => ?_)
      replace p_a1 := p_a1.ext hC19.2
      replace p_a2 := p_a2.ext hC19.2
      refine ev_if f_X2_spendDay (t1 := 77) (t2 := 94) rfl rfl rfl (fun h20 => ?_) (fun h20 => ?_)
      · have u21 : w19.toInt ≤ 0 := t_equ h20 (by decide : (0:Int32).toInt ≤ (0:Int))
        have l22 : 0 ≤ w19.toInt := t_eql h20 (by decide : (0:Int) ≤ (0:Int32).toInt)
        refine ev_loc f_X2_spendDay (nx := 78) rfl rfl rfl rfl ?_
        refine ev_getI f_X2_spendDay (nx := 81) rfl (hI.wf.s rfl) rfl rfl rfl ?_
        refine ev_ic f_X2_spendDay (nx := 82) (v := 1) rfl (by decide) rfl ?_
        refine ev_if f_X2_spendDay (t1 := 94) (t2 := 85) rfl rfl rfl (fun h23 => ?_) (fun h23 => ?_)
        · have u24 : (gi19 45 7).toInt ≤ 1 := t_equ h23 (by decide : (1:Int32).toInt ≤ (1:Int))
          have l25 : 1 ≤ (gi19 45 7).toInt := t_eql h23 (by decide : (1:Int) ≤ (1:Int32).toInt)
          refine ev_loc f_X2_spendDay (nx := 95) rfl rfl rfl rfl ?_
          refine ev_c0 f_X2_spendDay (nx := 98) (r := []) rfl rfl rfl rfl rfl rfl rfl (c_strikeSails hI ) rfl hX rfl (fun gi26 gl26 gr26 hI hX hC26 => ?_)
          replace p_a1 := p_a1.ext hC26.2
          replace p_a2 := p_a2.ext hC26.2
          refine ev_loc f_X2_spendDay (nx := 99) rfl rfl rfl rfl ?_
          refine ev_gvI f_X2_spendDay (nx := 102) (w := (gi19 45 7)) rfl (hI.wf.s rfl) rfl rfl ((hC26.1 45 7 rfl).1.trans rfl) rfl ?_
          refine ev_f f_X2_spendDay (t1 := 105) (t2 := 111) rfl rfl rfl (t_neT' (by decide : (0:Int32).toInt ≤ (0:Int)) l25 (by decide)) ?_
          refine ev_loc f_X2_spendDay (nx := 112) rfl rfl rfl rfl ?_
          refine ev_gvI f_X2_spendDay (nx := 115) (w := (gi19 45 7)) rfl (hI.wf.s rfl) rfl rfl ((hC26.1 45 7 rfl).1.trans rfl) rfl ?_
          refine ev_f f_X2_spendDay (t1 := 118) (t2 := 122) rfl rfl rfl (t_neT' (by decide : (0:Int32).toInt ≤ (0:Int)) l25 (by decide)) ?_
          refine ev_loc f_X2_spendDay (nx := 123) rfl rfl rfl rfl ?_
          refine ev_alu f_X2_spendDay (nx := 124) rfl rfl rfl rfl ?_
          refine ev_gvI f_X2_spendDay (nx := 127) (w := (gi12 45 5)) rfl (hI.wf.s rfl) rfl rfl ((hC26.1 45 5 rfl).1.trans ((hC19.1 45 5 rfl).1.trans ((hC18.1 45 5 rfl).1.trans rfl))) rfl ?_
          refine ev_ic f_X2_spendDay (nx := 128) (v := 1) rfl (by decide) rfl ?_
          refine ev_addC f_X2_spendDay (nx := 129) (c := 1) (l := 1) (u := 301) rfl (by decide) l13 u17 rfl rfl (by decide) (by decide) rfl (fun z27 e27 l27 u27 => ?_)
          refine ev_putIT f_X2_spendDay (nx := 132) rfl (hI.wf.s rfl) rfl rfl rfl (hI.putB (hI.wf.s rfl) rfl rfl l27 (by decide) u27 (by decide)) (hX.upI rfl) (fun g28 e28 hI hX => ?_)
          refine ev_jmp f_X2_spendDay (nx := 56) rfl rfl rfl ?_
          refine ev_sub (lo := [(0, .ref 45), (1, .ref ar1), (2, .ref ar2), (3, .int ar3)]) rfl (t_sc rfl (t_sc rfl (t_sc rfl (t_sc rfl t_sn)))) ?_
          have hq12 := ((by rw [e28]; exact x_up2_at _ _ _ _ : g28 45 5 = z27) : g28 45 5 = z27)
          exact ih12 _ (by rw [hq12]; omega) g28 gl26 gr26  hI hX p_a1 p_a2 rfl
        · refine ev_loc f_X2_spendDay (nx := 86) rfl rfl rfl rfl ?_
          refine ev_gvI f_X2_spendDay (nx := 89) (w := (gi19 45 7)) rfl (hI.wf.s rfl) rfl rfl rfl rfl ?_
          refine ev_ic f_X2_spendDay (nx := 90) (v := 2) rfl (by decide) rfl ?_
          refine ev_if f_X2_spendDay (t1 := 94) (t2 := 93) rfl rfl rfl (fun h29 => ?_) (fun h29 => ?_)
          · have u30 : (gi19 45 7).toInt ≤ 2 := t_equ h29 (by decide : (2:Int32).toInt ≤ (2:Int))
            have l31 : 2 ≤ (gi19 45 7).toInt := t_eql h29 (by decide : (2:Int) ≤ (2:Int32).toInt)
            refine ev_loc f_X2_spendDay (nx := 95) rfl rfl rfl rfl ?_
            refine ev_c0 f_X2_spendDay (nx := 98) (r := []) rfl rfl rfl rfl rfl rfl rfl (c_strikeSails hI ) rfl hX rfl (fun gi32 gl32 gr32 hI hX hC32 => ?_)
            replace p_a1 := p_a1.ext hC32.2
            replace p_a2 := p_a2.ext hC32.2
            refine ev_loc f_X2_spendDay (nx := 99) rfl rfl rfl rfl ?_
            refine ev_gvI f_X2_spendDay (nx := 102) (w := (gi19 45 7)) rfl (hI.wf.s rfl) rfl rfl ((hC32.1 45 7 rfl).1.trans rfl) rfl ?_
            refine ev_f f_X2_spendDay (t1 := 105) (t2 := 111) rfl rfl rfl (t_neT' (by decide : (0:Int32).toInt ≤ (0:Int)) l31 (by decide)) ?_
            refine ev_loc f_X2_spendDay (nx := 112) rfl rfl rfl rfl ?_
            refine ev_gvI f_X2_spendDay (nx := 115) (w := (gi19 45 7)) rfl (hI.wf.s rfl) rfl rfl ((hC32.1 45 7 rfl).1.trans rfl) rfl ?_
            refine ev_f f_X2_spendDay (t1 := 118) (t2 := 122) rfl rfl rfl (t_neT' (by decide : (0:Int32).toInt ≤ (0:Int)) l31 (by decide)) ?_
            refine ev_loc f_X2_spendDay (nx := 123) rfl rfl rfl rfl ?_
            refine ev_alu f_X2_spendDay (nx := 124) rfl rfl rfl rfl ?_
            refine ev_gvI f_X2_spendDay (nx := 127) (w := (gi12 45 5)) rfl (hI.wf.s rfl) rfl rfl ((hC32.1 45 5 rfl).1.trans ((hC19.1 45 5 rfl).1.trans ((hC18.1 45 5 rfl).1.trans rfl))) rfl ?_
            refine ev_ic f_X2_spendDay (nx := 128) (v := 1) rfl (by decide) rfl ?_
            refine ev_addC f_X2_spendDay (nx := 129) (c := 1) (l := 1) (u := 301) rfl (by decide) l13 u17 rfl rfl (by decide) (by decide) rfl (fun z33 e33 l33 u33 => ?_)
            refine ev_putIT f_X2_spendDay (nx := 132) rfl (hI.wf.s rfl) rfl rfl rfl (hI.putB (hI.wf.s rfl) rfl rfl l33 (by decide) u33 (by decide)) (hX.upI rfl) (fun g34 e34 hI hX => ?_)
            refine ev_jmp f_X2_spendDay (nx := 56) rfl rfl rfl ?_
            refine ev_sub (lo := [(0, .ref 45), (1, .ref ar1), (2, .ref ar2), (3, .int ar3)]) rfl (t_sc rfl (t_sc rfl (t_sc rfl (t_sc rfl t_sn)))) ?_
            have hq12 := ((by rw [e34]; exact x_up2_at _ _ _ _ : g34 45 5 = z33) : g34 45 5 = z33)
            exact ih12 _ (by rw [hq12]; omega) g34 gl32 gr32  hI hX p_a1 p_a2 rfl
          · exact ev_ret f_X2_spendDay rfl rfl rfl ⟨_, _, _, rfl, hI, hX, rfl⟩
      · refine ev_loc f_X2_spendDay (nx := 95) rfl rfl rfl rfl ?_
        refine ev_c0 f_X2_spendDay (nx := 98) (r := []) rfl rfl rfl rfl rfl rfl rfl (c_strikeSails hI ) rfl hX rfl (fun gi35 gl35 gr35 hI hX hC35 => ?_)
        replace p_a1 := p_a1.ext hC35.2
        replace p_a2 := p_a2.ext hC35.2
        refine ev_loc f_X2_spendDay (nx := 99) rfl rfl rfl rfl ?_
        refine ev_getI f_X2_spendDay (nx := 102) rfl (hI.wf.s rfl) rfl rfl rfl ?_
        refine ev_if f_X2_spendDay (t1 := 105) (t2 := 111) rfl rfl rfl (fun h36 => ?_) (fun h36 => ?_)
        · have u37 : (gi35 45 7).toInt ≤ 0 := t_equ h36 (by decide : (0:Int32).toInt ≤ (0:Int))
          have l38 : 0 ≤ (gi35 45 7).toInt := t_eql h36 (by decide : (0:Int) ≤ (0:Int32).toInt)
          refine ev_loc f_X2_spendDay (nx := 106) rfl rfl rfl rfl ?_
          refine ev_loc f_X2_spendDay (nx := 107) rfl rfl rfl rfl ?_
          refine ev_loc f_X2_spendDay (nx := 108) rfl rfl rfl rfl ?_
          refine ev_c0 f_X2_spendDay (nx := 111) (r := []) rfl rfl rfl rfl rfl rfl rfl (c_obey hI (ar1) p_a1 (ar2) p_a2) rfl hX rfl (fun gi39 gl39 gr39 hI hX hC39 => ?_)
          replace p_a1 := p_a1.ext hC39.2
          replace p_a2 := p_a2.ext hC39.2
          refine ev_loc f_X2_spendDay (nx := 112) rfl rfl rfl rfl ?_
          refine ev_getI f_X2_spendDay (nx := 115) rfl (hI.wf.s rfl) rfl rfl rfl ?_
          refine ev_if f_X2_spendDay (t1 := 118) (t2 := 122) rfl rfl rfl (fun h40 => ?_) (fun h40 => ?_)
          · have u41 : (gi39 45 7).toInt ≤ 0 := t_equ h40 (by decide : (0:Int32).toInt ≤ (0:Int))
            have l42 : 0 ≤ (gi39 45 7).toInt := t_eql h40 (by decide : (0:Int) ≤ (0:Int32).toInt)
            refine ev_loc f_X2_spendDay (nx := 119) rfl rfl rfl rfl ?_
            refine ev_c0 f_X2_spendDay (nx := 122) (r := []) rfl rfl rfl rfl rfl rfl rfl (c_beginNext hI ) rfl hX rfl (fun gi43 gl43 gr43 hI hX hC43 => ?_)
            replace p_a1 := p_a1.ext hC43.2
            replace p_a2 := p_a2.ext hC43.2
            refine ev_loc f_X2_spendDay (nx := 123) rfl rfl rfl rfl ?_
            refine ev_alu f_X2_spendDay (nx := 124) rfl rfl rfl rfl ?_
            refine ev_gvI f_X2_spendDay (nx := 127) (w := (gi12 45 5)) rfl (hI.wf.s rfl) rfl rfl ((hC43.1 45 5 rfl).1.trans ((hC39.1 45 5 rfl).1.trans ((hC35.1 45 5 rfl).1.trans ((hC19.1 45 5 rfl).1.trans ((hC18.1 45 5 rfl).1.trans rfl))))) rfl ?_
            refine ev_ic f_X2_spendDay (nx := 128) (v := 1) rfl (by decide) rfl ?_
            refine ev_addC f_X2_spendDay (nx := 129) (c := 1) (l := 1) (u := 301) rfl (by decide) l13 u17 rfl rfl (by decide) (by decide) rfl (fun z44 e44 l44 u44 => ?_)
            refine ev_putIT f_X2_spendDay (nx := 132) rfl (hI.wf.s rfl) rfl rfl rfl (hI.putB (hI.wf.s rfl) rfl rfl l44 (by decide) u44 (by decide)) (hX.upI rfl) (fun g45 e45 hI hX => ?_)
            refine ev_jmp f_X2_spendDay (nx := 56) rfl rfl rfl ?_
            refine ev_sub (lo := [(0, .ref 45), (1, .ref ar1), (2, .ref ar2), (3, .int ar3)]) rfl (t_sc rfl (t_sc rfl (t_sc rfl (t_sc rfl t_sn)))) ?_
            have hq12 := ((by rw [e45]; exact x_up2_at _ _ _ _ : g45 45 5 = z44) : g45 45 5 = z44)
            exact ih12 _ (by rw [hq12]; omega) g45 gl43 gr43  hI hX p_a1 p_a2 rfl
          · refine ev_loc f_X2_spendDay (nx := 123) rfl rfl rfl rfl ?_
            refine ev_alu f_X2_spendDay (nx := 124) rfl rfl rfl rfl ?_
            refine ev_gvI f_X2_spendDay (nx := 127) (w := (gi12 45 5)) rfl (hI.wf.s rfl) rfl rfl ((hC39.1 45 5 rfl).1.trans ((hC35.1 45 5 rfl).1.trans ((hC19.1 45 5 rfl).1.trans ((hC18.1 45 5 rfl).1.trans rfl)))) rfl ?_
            refine ev_ic f_X2_spendDay (nx := 128) (v := 1) rfl (by decide) rfl ?_
            refine ev_addC f_X2_spendDay (nx := 129) (c := 1) (l := 1) (u := 301) rfl (by decide) l13 u17 rfl rfl (by decide) (by decide) rfl (fun z46 e46 l46 u46 => ?_)
            refine ev_putIT f_X2_spendDay (nx := 132) rfl (hI.wf.s rfl) rfl rfl rfl (hI.putB (hI.wf.s rfl) rfl rfl l46 (by decide) u46 (by decide)) (hX.upI rfl) (fun g47 e47 hI hX => ?_)
            refine ev_jmp f_X2_spendDay (nx := 56) rfl rfl rfl ?_
            refine ev_sub (lo := [(0, .ref 45), (1, .ref ar1), (2, .ref ar2), (3, .int ar3)]) rfl (t_sc rfl (t_sc rfl (t_sc rfl (t_sc rfl t_sn)))) ?_
            have hq12 := ((by rw [e47]; exact x_up2_at _ _ _ _ : g47 45 5 = z46) : g47 45 5 = z46)
            exact ih12 _ (by rw [hq12]; omega) g47 gl39 gr39  hI hX p_a1 p_a2 rfl
        · refine ev_loc f_X2_spendDay (nx := 112) rfl rfl rfl rfl ?_
          refine ev_gvI f_X2_spendDay (nx := 115) (w := (gi35 45 7)) rfl (hI.wf.s rfl) rfl rfl rfl rfl ?_
          refine ev_if f_X2_spendDay (t1 := 118) (t2 := 122) rfl rfl rfl (fun h48 => ?_) (fun h48 => ?_)
          · have u49 : (gi35 45 7).toInt ≤ 0 := t_equ h48 (by decide : (0:Int32).toInt ≤ (0:Int))
            have l50 : 0 ≤ (gi35 45 7).toInt := t_eql h48 (by decide : (0:Int) ≤ (0:Int32).toInt)
            refine ev_loc f_X2_spendDay (nx := 119) rfl rfl rfl rfl ?_
            refine ev_c0 f_X2_spendDay (nx := 122) (r := []) rfl rfl rfl rfl rfl rfl rfl (c_beginNext hI ) rfl hX rfl (fun gi51 gl51 gr51 hI hX hC51 => ?_)
            replace p_a1 := p_a1.ext hC51.2
            replace p_a2 := p_a2.ext hC51.2
            refine ev_loc f_X2_spendDay (nx := 123) rfl rfl rfl rfl ?_
            refine ev_alu f_X2_spendDay (nx := 124) rfl rfl rfl rfl ?_
            refine ev_gvI f_X2_spendDay (nx := 127) (w := (gi12 45 5)) rfl (hI.wf.s rfl) rfl rfl ((hC51.1 45 5 rfl).1.trans ((hC35.1 45 5 rfl).1.trans ((hC19.1 45 5 rfl).1.trans ((hC18.1 45 5 rfl).1.trans rfl)))) rfl ?_
            refine ev_ic f_X2_spendDay (nx := 128) (v := 1) rfl (by decide) rfl ?_
            refine ev_addC f_X2_spendDay (nx := 129) (c := 1) (l := 1) (u := 301) rfl (by decide) l13 u17 rfl rfl (by decide) (by decide) rfl (fun z52 e52 l52 u52 => ?_)
            refine ev_putIT f_X2_spendDay (nx := 132) rfl (hI.wf.s rfl) rfl rfl rfl (hI.putB (hI.wf.s rfl) rfl rfl l52 (by decide) u52 (by decide)) (hX.upI rfl) (fun g53 e53 hI hX => ?_)
            refine ev_jmp f_X2_spendDay (nx := 56) rfl rfl rfl ?_
            refine ev_sub (lo := [(0, .ref 45), (1, .ref ar1), (2, .ref ar2), (3, .int ar3)]) rfl (t_sc rfl (t_sc rfl (t_sc rfl (t_sc rfl t_sn)))) ?_
            have hq12 := ((by rw [e53]; exact x_up2_at _ _ _ _ : g53 45 5 = z52) : g53 45 5 = z52)
            exact ih12 _ (by rw [hq12]; omega) g53 gl51 gr51  hI hX p_a1 p_a2 rfl
          · refine ev_loc f_X2_spendDay (nx := 123) rfl rfl rfl rfl ?_
            refine ev_alu f_X2_spendDay (nx := 124) rfl rfl rfl rfl ?_
            refine ev_gvI f_X2_spendDay (nx := 127) (w := (gi12 45 5)) rfl (hI.wf.s rfl) rfl rfl ((hC35.1 45 5 rfl).1.trans ((hC19.1 45 5 rfl).1.trans ((hC18.1 45 5 rfl).1.trans rfl))) rfl ?_
            refine ev_ic f_X2_spendDay (nx := 128) (v := 1) rfl (by decide) rfl ?_
            refine ev_addC f_X2_spendDay (nx := 129) (c := 1) (l := 1) (u := 301) rfl (by decide) l13 u17 rfl rfl (by decide) (by decide) rfl (fun z54 e54 l54 u54 => ?_)
            refine ev_putIT f_X2_spendDay (nx := 132) rfl (hI.wf.s rfl) rfl rfl rfl (hI.putB (hI.wf.s rfl) rfl rfl l54 (by decide) u54 (by decide)) (hX.upI rfl) (fun g55 e55 hI hX => ?_)
            refine ev_jmp f_X2_spendDay (nx := 56) rfl rfl rfl ?_
            refine ev_sub (lo := [(0, .ref 45), (1, .ref ar1), (2, .ref ar2), (3, .int ar3)]) rfl (t_sc rfl (t_sc rfl (t_sc rfl (t_sc rfl t_sn)))) ?_
            have hq12 := ((by rw [e55]; exact x_up2_at _ _ _ _ : g55 45 5 = z54) : g55 45 5 = z54)
            exact ih12 _ (by rw [hq12]; omega) g55 gl35 gr35  hI hX p_a1 p_a2 rfl
  refine ev_sub (lo := [(0, .ref 45), (1, .ref ar1), (2, .ref ar2), (3, .int ar3)]) rfl (t_sc rfl (t_sc rfl (t_sc rfl (t_sc rfl t_sn)))) ?_
  exact L12 _ g11 gl1 gr1  hI hX p_a1 p_a2 rfl
noncomputable def wl_tellDay : List (Nat × Nat) := [(45, 15), (60, 9999)]
theorem c_tellDay {X : x_Ext} {d : Nat} {sh : List (Nat ⊕ (Nat × Nat))} {gi : Nat → Nat → Int32} {gl : Nat → Nat → Int64} {gr : Nat → Nat → Value} (hI : t_I sh gi gr) : x_Me X (d + 2) n_X2_tellDay [.ref 45] (sh, gi, gl, gr) (t_P wl_tellDay sh gi gl gr t_Rn) := by
  have hX : t_X wl_tellDay sh gi gl gr gi gl gr := t_X.rf
  refine me_i f_X2_tellDay (hI.wf.s rfl) rfl rfl rfl ?_
  refine ev_loc f_X2_tellDay (nx := 1) rfl rfl rfl rfl ?_
  refine ev_ic f_X2_tellDay (nx := 2) (v := 1) rfl (by decide) rfl ?_
  refine ev_putZT f_X2_tellDay (nx := 5) rfl (hI.wf.s rfl) rfl rfl (Int.le_trans (by decide : (0:Int) ≤ 1) (by decide : (1:Int) ≤ (1:Int32).toInt)) (by decide : (1:Int32).toInt ≤ (1:Int)) rfl (hI.put0 (hI.wf.s rfl) rfl rfl) (hX.upI rfl) (fun g1 e1 hI hX => ?_)
  refine ev_loc f_X2_tellDay (nx := 6) rfl rfl rfl rfl ?_
  refine ev_getR f_X2_tellDay (nx := 9) rfl (hI.wf.s rfl) rfl rfl (hI.wf.r rfl) rfl rfl ?_
  refine ev_ic f_X2_tellDay (nx := 10) (v := 0) rfl (by decide) rfl ?_
  refine ev_loc f_X2_tellDay (nx := 11) rfl rfl rfl rfl ?_
  refine ev_getI f_X2_tellDay (nx := 14) rfl (hI.wf.s rfl) rfl rfl rfl ?_
  refine ev_iastT f_X2_tellDay (nx := 15) rfl (hI.wf.s rfl) (by decide : (0:Int) ≤ (0:Int32).toInt) (by decide) (by decide : (0:Int32).toInt ≤ (0:Int)) (by decide) rfl (hI.astO (hI.wf.s rfl) (Or.inl (by decide)) (by decide +kernel)) (hX.upI (t_inA_ok rfl)) (fun g2 e2 hI hX => ?_)
  refine ev_loc f_X2_tellDay (nx := 16) rfl rfl rfl rfl ?_
  refine ev_getR f_X2_tellDay (nx := 19) rfl (hI.wf.s rfl) rfl rfl (hI.wf.r rfl) rfl rfl ?_
  refine ev_ic f_X2_tellDay (nx := 20) (v := 1) rfl (by decide) rfl ?_
  refine ev_loc f_X2_tellDay (nx := 21) rfl rfl rfl rfl ?_
  refine ev_getI f_X2_tellDay (nx := 24) rfl (hI.wf.s rfl) rfl rfl rfl ?_
  refine ev_iastT f_X2_tellDay (nx := 25) rfl (hI.wf.s rfl) (by decide : (1:Int) ≤ (1:Int32).toInt) (by decide) (by decide : (1:Int32).toInt ≤ (1:Int)) (by decide) rfl (hI.astO (hI.wf.s rfl) (Or.inl (by decide)) (by decide +kernel)) (hX.upI (t_inA_ok rfl)) (fun g3 e3 hI hX => ?_)
  refine ev_loc f_X2_tellDay (nx := 26) rfl rfl rfl rfl ?_
  refine ev_getR f_X2_tellDay (nx := 29) rfl (hI.wf.s rfl) rfl rfl (hI.wf.r rfl) rfl rfl ?_
  refine ev_ic f_X2_tellDay (nx := 30) (v := 2) rfl (by decide) rfl ?_
  refine ev_loc f_X2_tellDay (nx := 31) rfl rfl rfl rfl ?_
  refine ev_getI f_X2_tellDay (nx := 34) rfl (hI.wf.s rfl) rfl rfl rfl ?_
  obtain ⟨l4, u4⟩ := hI.b (hI.wf.s (k := 45) rfl) (t_bdK rfl : t_bd 2 5 = some (0, 301))
  refine ev_iastT f_X2_tellDay (nx := 35) rfl (hI.wf.s rfl) (by decide : (2:Int) ≤ (2:Int32).toInt) (by decide) (by decide : (2:Int32).toInt ≤ (2:Int)) (by decide) rfl (hI.astO (hI.wf.s rfl) (Or.inl (by decide)) (by decide +kernel)) (hX.upI (t_inA_ok rfl)) (fun g5 e5 hI hX => ?_)
  refine ev_loc f_X2_tellDay (nx := 36) rfl rfl rfl rfl ?_
  refine ev_getR f_X2_tellDay (nx := 39) rfl (hI.wf.s rfl) rfl rfl (hI.wf.r rfl) rfl rfl ?_
  refine ev_ic f_X2_tellDay (nx := 40) (v := 3) rfl (by decide) rfl ?_
  refine ev_loc f_X2_tellDay (nx := 41) rfl rfl rfl rfl ?_
  refine ev_cI f_X2_tellDay (nx := 44) (r := [.int 3, .ref 60]) rfl rfl rfl rfl rfl rfl rfl (c_left hI ) rfl hX rfl (fun w6 gi6 gl6 gr6 l6 u6 hI hX hC6 => ?_)
  refine ev_iastT f_X2_tellDay (nx := 45) rfl (hI.wf.s rfl) (by decide : (3:Int) ≤ (3:Int32).toInt) (by decide) (by decide : (3:Int32).toInt ≤ (3:Int)) (by decide) rfl (hI.astO (hI.wf.s rfl) (Or.inl (by decide)) (by decide +kernel)) (hX.upI (t_inA_ok rfl)) (fun g7 e7 hI hX => ?_)
  refine ev_loc f_X2_tellDay (nx := 46) rfl rfl rfl rfl ?_
  refine ev_getR f_X2_tellDay (nx := 49) rfl (hI.wf.s rfl) rfl rfl (hI.wf.r rfl) rfl rfl ?_
  refine ev_ic f_X2_tellDay (nx := 50) (v := 4) rfl (by decide) rfl ?_
  refine ev_loc f_X2_tellDay (nx := 51) rfl rfl rfl rfl ?_
  refine ev_getI f_X2_tellDay (nx := 54) rfl (hI.wf.s rfl) rfl rfl rfl ?_
  refine ev_iastT f_X2_tellDay (nx := 55) rfl (hI.wf.s rfl) (by decide : (4:Int) ≤ (4:Int32).toInt) (by decide) (by decide : (4:Int32).toInt ≤ (4:Int)) (by decide) rfl (hI.astO (hI.wf.s rfl) (Or.inl (by decide)) (by decide +kernel)) (hX.upI (t_inA_ok rfl)) (fun g8 e8 hI hX => ?_)
  exact ev_ret f_X2_tellDay rfl rfl rfl ⟨_, _, _, rfl, hI, hX, rfl⟩
noncomputable def wl_lay : List (Nat × Nat) := [(61, 1), (61, 2), (62, 9999), (63, 1), (63, 2), (64, 9999), (65, 1), (65, 2), (66, 9999), (67, 1), (67, 2), (68, 9999)]
theorem c_lay {X : x_Ext} {d : Nat} {sh : List (Nat ⊕ (Nat × Nat))} {gi : Nat → Nat → Int32} {gl : Nat → Nat → Int64} {gr : Nat → Nat → Value} (hI : t_I sh gi gr) (ar0 : Nat) (p_a0 : t_Ty sh gr ar0) (ar1 : Int32) (ar2 : Int32) (l_a2 : 0 ≤ ar2.toInt) (u_a2 : ar2.toInt ≤ 60) : x_Me X (d + 1) n_X10_lay [.ref ar0, .int ar1, .int ar2] (sh, gi, gl, gr) (t_P wl_lay sh gi gl gr t_Rn) := by
  have hX : t_X wl_lay sh gi gl gr gi gl gr := t_X.rf
  refine me_i f_X10_lay p_a0.1 rfl rfl rfl ?_
  refine ev_loc f_X10_lay (nx := 1) rfl rfl rfl rfl ?_
  refine ev_loc f_X10_lay (nx := 2) rfl rfl rfl rfl ?_
  refine ev_putIT f_X10_lay (nx := 5) rfl p_a0.1 rfl rfl rfl (hI.put0 p_a0.1 rfl rfl) (hX.upI (t_in4O p_a0.2.2 rfl)) (fun g1 e1 hI hX => ?_)
  refine ev_loc f_X10_lay (nx := 6) rfl rfl rfl rfl ?_
  refine ev_loc f_X10_lay (nx := 7) rfl rfl rfl rfl ?_
  refine ev_putIT f_X10_lay (nx := 10) rfl p_a0.1 rfl rfl rfl (hI.putB p_a0.1 rfl rfl l_a2 (by decide) u_a2 (by decide)) (hX.upI (t_in4O p_a0.2.2 rfl)) (fun g2 e2 hI hX => ?_)
  refine ev_ic f_X10_lay (nx := 11) (v := 0) rfl (by decide) rfl ?_
  refine ev_loc f_X10_lay (nx := 12) (lo' := [(3, .int 0), (0, .ref ar0), (1, .int ar1), (2, .int ar2)]) rfl rfl rfl rfl ?_
  have L3 : ∀ (m3 : Nat) (gi3 : Nat → Nat → Int32) (gl3 : Nat → Nat → Int64) (gr3 : Nat → Nat → Value) (y3_3 : Int32), t_I sh gi3 gr3 → t_X wl_lay sh gi gl gr gi3 gl3 gr3 → t_Ty sh gr3 ar0 → 0 ≤ y3_3.toInt → y3_3.toInt ≤ 60 → gi3 ar0 1 = ar1 → gi3 ar0 2 = ar2 → (60 - y3_3.toInt).toNat = m3 → x_Ev X (d + 1) n_X10_lay 12 [(3, .int y3_3), (0, .ref ar0), (1, .int ar1), (2, .int ar2)] [] (sh, gi3, gl3, gr3) (t_P wl_lay sh gi gl gr t_Rn) := by
    intro m3
    induction m3 using Nat.strongRecOn with
    | _ m3 ih3 =>
    intro gi3 gl3 gr3 y3_3 hI hX p_a0 l3_3 u3_3 c3_0 c3_1 hm3
    refine ev_loc f_X10_lay (nx := 13) rfl rfl rfl rfl ?_
    refine ev_loc f_X10_lay (nx := 14) rfl rfl rfl rfl ?_
    have e4 := p_a0.2.1.1
    have s4 := p_a0.2.1.2
    refine ev_getR f_X10_lay (nx := 17) rfl p_a0.1 rfl rfl e4 rfl rfl ?_
    refine ev_alenv f_X10_lay (nx := 18) (w := 60) rfl s4 rfl (by decide) rfl ?_
    refine ev_if f_X10_lay (t1 := 34) (t2 := 21) rfl rfl rfl (fun h5 => ?_) (fun h5 => ?_)
    · have l6 : 60 ≤ y3_3.toInt := t_lel h5 (by decide : (60:Int) ≤ (60:Int32).toInt)
      exact ev_ret f_X10_lay rfl rfl rfl ⟨_, _, _, rfl, hI, hX, rfl⟩
    · have u7 : y3_3.toInt ≤ 59 := t_ltu (t_nle h5) (by decide : (60:Int32).toInt ≤ (60:Int)) rfl
      refine ev_loc f_X10_lay (nx := 22) rfl rfl rfl rfl ?_
      refine ev_getR f_X10_lay (nx := 25) (v := .ref (ar0 + 1)) rfl p_a0.1 rfl rfl e4 rfl rfl ?_
      refine ev_loc f_X10_lay (nx := 26) rfl rfl rfl rfl ?_
      refine ev_lc f_X10_lay (nx := 27) (v := 0) rfl (by decide) rfl ?_
      refine ev_lastT f_X10_lay (nx := 28) rfl s4 l3_3 (by decide) u7 (by decide) rfl (hX.upL (t_in4A p_a0.2.2 rfl)) (fun g8 e8 hX => ?_)
      refine ev_incR f_X10_lay (nx := 31) (c := 1) (l := 1) (u := 60) rfl rfl (by decide) (by decide) l3_3 u7 rfl rfl (by decide) (by decide) rfl (fun z9 e9 l9 u9 => ?_)
      refine ev_jmp f_X10_lay (nx := 12) rfl rfl rfl ?_
      refine ev_sub (lo := [(3, .int z9), (0, .ref ar0), (1, .int ar1), (2, .int ar2)]) rfl (t_sc rfl (t_sc rfl (t_sc rfl (t_sc rfl t_sn)))) ?_
      exact ih3 _ (by omega) gi3 g8 gr3 (z9) hI hX p_a0 (Int.le_trans (by decide : (0:Int) ≤ 1) l9) u9 c3_0 c3_1 rfl
  refine ev_sub (lo := [(3, .int 0), (0, .ref ar0), (1, .int ar1), (2, .int ar2)]) rfl (t_sc rfl (t_sc rfl (t_sc rfl (t_sc rfl t_sn)))) ?_
  exact L3 _ g2 gl gr (0) hI hX p_a0 (by decide : (0:Int) ≤ (0:Int32).toInt) (Int.le_trans (by decide : (0:Int32).toInt ≤ (0:Int)) (by decide : (0:Int) ≤ 60)) ((by rw [e2]; exact x_up2_off (Or.inr (by decide)) : g2 ar0 1 = g1 ar0 1).trans (by rw [e1]; exact x_up2_at _ _ _ _ : g1 ar0 1 = ar1)) (by rw [e2]; exact x_up2_at _ _ _ _ : g2 ar0 2 = ar2) rfl
noncomputable def wl_feedOne : List (Nat × Nat) := [(0, 5), (2, 9999)]
theorem c_feedOne {X : x_Ext} {d : Nat} {sh : List (Nat ⊕ (Nat × Nat))} {gi : Nat → Nat → Int32} {gl : Nat → Nat → Int64} {gr : Nat → Nat → Value} (hI : t_I sh gi gr) (ar1 : Int32) : x_Me X (d + 1) n_X11_feedOne [.ref 0, .int ar1] (sh, gi, gl, gr) (t_P wl_feedOne sh gi gl gr t_Rn) := by
  have hX : t_X wl_feedOne sh gi gl gr gi gl gr := t_X.rf
  refine me_i f_X11_feedOne (hI.wf.s rfl) rfl rfl rfl ?_
  refine ev_bp f_X11_feedOne (nx := 2) (v := 24) rfl (by decide) rfl ?_
  refine ev_loc f_X11_feedOne (nx := 3) (lo' := [(2, .int 24), (0, .ref 0), (1, .int ar1)]) rfl rfl rfl rfl ?_
  have L1 : ∀ (m1 : Nat) (gi1 : Nat → Nat → Int32) (gl1 : Nat → Nat → Int64) (gr1 : Nat → Nat → Value) (y1_2 : Int32), t_I sh gi1 gr1 → t_X wl_feedOne sh gi gl gr gi1 gl1 gr1 → (-8) ≤ y1_2.toInt → y1_2.toInt ≤ 24 → (y1_2.toInt - (-8)).toNat = m1 → x_Ev X (d + 1) n_X11_feedOne 3 [(2, .int y1_2), (0, .ref 0), (1, .int ar1)] [] (sh, gi1, gl1, gr1) (t_P wl_feedOne sh gi gl gr t_Rn) := by
    intro m1
    induction m1 using Nat.strongRecOn with
    | _ m1 ih1 =>
    intro gi1 gl1 gr1 y1_2 hI hX l1_2 u1_2 hm1
    refine ev_loc f_X11_feedOne (nx := 4) rfl rfl rfl rfl ?_
    refine ev_if f_X11_feedOne (t1 := 48) (t2 := 7) rfl rfl rfl (fun h2 => ?_) (fun h2 => ?_)
    · have u3 : y1_2.toInt ≤ (-1) := t_ltu h2 (by decide : (0:Int32).toInt ≤ (0:Int)) rfl
      exact ev_ret f_X11_feedOne rfl rfl rfl ⟨_, _, _, rfl, hI, hX, rfl⟩
    · have l4 : 0 ≤ y1_2.toInt := t_lel (t_nlt h2) (by decide : (0:Int) ≤ (0:Int32).toInt)
      refine ev_loc f_X11_feedOne (nx := 8) rfl rfl rfl rfl ?_
      refine ev_getI f_X11_feedOne (nx := 11) rfl (hI.wf.s rfl) rfl rfl rfl ?_
      obtain ⟨l5, u5⟩ := hI.b (hI.wf.s (k := 0) rfl) (t_bdK rfl : t_bd 10 5 = some (0, 900))
      refine ev_loc f_X11_feedOne (nx := 12) rfl rfl rfl rfl ?_
      refine ev_getR f_X11_feedOne (nx := 15) rfl (hI.wf.s rfl) rfl rfl (hI.wf.r rfl) rfl rfl ?_
      refine ev_alenv f_X11_feedOne (nx := 16) (w := 900) rfl (hI.wf.s rfl) rfl (by decide) rfl ?_
      refine ev_if f_X11_feedOne (t1 := 48) (t2 := 19) rfl rfl rfl (fun h6 => ?_) (fun h6 => ?_)
      · have l7 : 900 ≤ (gi1 0 5).toInt := t_lel h6 (by decide : (900:Int) ≤ (900:Int32).toInt)
        exact ev_ret f_X11_feedOne rfl rfl rfl ⟨_, _, _, rfl, hI, hX, rfl⟩
      · have u8 : (gi1 0 5).toInt ≤ 899 := t_ltu (t_nle h6) (by decide : (900:Int32).toInt ≤ (900:Int)) rfl
        refine ev_loc f_X11_feedOne (nx := 20) rfl rfl rfl rfl ?_
        refine ev_getR f_X11_feedOne (nx := 23) rfl (hI.wf.s rfl) rfl rfl (hI.wf.r rfl) rfl rfl ?_
        refine ev_loc f_X11_feedOne (nx := 24) rfl rfl rfl rfl ?_
        refine ev_gvI f_X11_feedOne (nx := 27) (w := (gi1 0 5)) rfl (hI.wf.s rfl) rfl rfl rfl rfl ?_
        refine ev_loc f_X11_feedOne (nx := 28) rfl rfl rfl rfl ?_
        refine ev_loc f_X11_feedOne (nx := 29) rfl rfl rfl rfl ?_
        refine ev_anyI f_X11_feedOne (nx := 30) rfl rfl rfl rfl (fun z9 => ?_)
        refine ev_anyI f_X11_feedOne (nx := 31) rfl rfl rfl rfl (fun z10 => ?_)
        refine ev_bastT f_X11_feedOne (nx := 32) rfl (hI.wf.s rfl) l5 (by decide) u8 (by decide) rfl (fun x => (hI.astO (hI.wf.s rfl) (Or.inl (by decide)) (by decide +kernel))) (fun x => hX.upI (t_inA_ok rfl)) (fun g11 x11 e11 hI hX => ?_)
        refine ev_loc f_X11_feedOne (nx := 33) rfl rfl rfl rfl ?_
        refine ev_alu f_X11_feedOne (nx := 34) rfl rfl rfl rfl ?_
        refine ev_gvI f_X11_feedOne (nx := 37) (w := (gi1 0 5)) rfl (hI.wf.s rfl) rfl rfl ((by rw [e11]; exact x_up2_off (Or.inl (by decide)) : g11 0 5 = gi1 0 5).trans rfl) rfl ?_
        refine ev_ic f_X11_feedOne (nx := 38) (v := 1) rfl (by decide) rfl ?_
        refine ev_addC f_X11_feedOne (nx := 39) (c := 1) (l := 1) (u := 900) rfl (by decide) l5 u8 rfl rfl (by decide) (by decide) rfl (fun z12 e12 l12 u12 => ?_)
        refine ev_putIT f_X11_feedOne (nx := 42) rfl (hI.wf.s rfl) rfl rfl rfl (hI.putB (hI.wf.s rfl) rfl rfl l12 (by decide) u12 (by decide)) (hX.upI rfl) (fun g13 e13 hI hX => ?_)
        refine ev_incR f_X11_feedOne (nx := 45) (c := (-8)) (l := (-8)) (u := 16) rfl rfl (by decide) (by decide) l4 u1_2 rfl rfl (by decide) (by decide) rfl (fun z14 e14 l14 u14 => ?_)
        refine ev_jmp f_X11_feedOne (nx := 3) rfl rfl rfl ?_
        refine ev_sub (lo := [(2, .int z14), (0, .ref 0), (1, .int ar1)]) rfl (t_sc rfl (t_sc rfl (t_sc rfl t_sn))) ?_
        exact ih1 _ (by omega) g13 gl1 gr1 (z14) hI hX  l14 (Int.le_trans u14 (by decide : (16:Int) ≤ 24)) rfl
  refine ev_sub (lo := [(2, .int 24), (0, .ref 0), (1, .int ar1)]) rfl (t_sc rfl (t_sc rfl (t_sc rfl t_sn))) ?_
  exact L1 _ gi gl gr (24) hI hX  (Int.le_trans (by decide : ((-8):Int) ≤ 24) (by decide : (24:Int) ≤ (24:Int32).toInt)) (by decide : (24:Int32).toInt ≤ (24:Int)) rfl
noncomputable def wl_commonDivisor : List (Nat × Nat) := []
theorem c_commonDivisor {X : x_Ext} {d : Nat} {sh : List (Nat ⊕ (Nat × Nat))} {gi : Nat → Nat → Int32} {gl : Nat → Nat → Int64} {gr : Nat → Nat → Value} (hI : t_I sh gi gr) (ar0 : Int32) (ar1 : Int32) : x_Me X (d + 1) n_X11_commonDivisor [.int ar0, .int ar1] (sh, gi, gl, gr) (t_P wl_commonDivisor sh gi gl gr (t_Ri (-2147483648) 2147483647)) := by
  have hX : t_X wl_commonDivisor sh gi gl gr gi gl gr := t_X.rf
  refine me_s f_X11_commonDivisor rfl rfl ?_
  refine ev_loc f_X11_commonDivisor (nx := 1) rfl rfl rfl rfl ?_
  refine ev_loc f_X11_commonDivisor (nx := 2) (lo' := [(2, .int ar1), (0, .int ar0), (1, .int ar1)]) rfl rfl rfl rfl ?_
  refine ev_loc f_X11_commonDivisor (nx := 3) rfl rfl rfl rfl ?_
  refine ev_loc f_X11_commonDivisor (nx := 4) (lo' := [(3, .int ar0), (2, .int ar1), (0, .int ar0), (1, .int ar1)]) rfl rfl rfl rfl ?_
  refine ev_ic f_X11_commonDivisor (nx := 5) (v := 0) rfl (by decide) rfl ?_
  refine ev_loc f_X11_commonDivisor (nx := 7) (lo' := [(4, .int 0), (3, .int ar0), (2, .int ar1), (0, .int ar0), (1, .int ar1)]) rfl rfl rfl rfl ?_
  have L1 : ∀ (m1 : Nat) (gi1 : Nat → Nat → Int32) (gl1 : Nat → Nat → Int64) (gr1 : Nat → Nat → Value) (y1_4 : Int32) (y1_3 : Int32) (y1_2 : Int32), t_I sh gi1 gr1 → t_X wl_commonDivisor sh gi gl gr gi1 gl1 gr1 → 0 ≤ y1_4.toInt → y1_4.toInt ≤ 64 → (64 - y1_4.toInt).toNat = m1 → x_Ev X (d + 1) n_X11_commonDivisor 7 [(4, .int y1_4), (3, .int y1_3), (2, .int y1_2), (0, .int ar0), (1, .int ar1)] [] (sh, gi1, gl1, gr1) (t_P wl_commonDivisor sh gi gl gr (t_Ri (-2147483648) 2147483647)) := by
    intro m1
    induction m1 using Nat.strongRecOn with
    | _ m1 ih1 =>
    intro gi1 gl1 gr1 y1_4 y1_3 y1_2 hI hX l1_4 u1_4 hm1
    refine ev_loc f_X11_commonDivisor (nx := 9) rfl rfl rfl rfl ?_
    refine ev_bp f_X11_commonDivisor (nx := 11) (v := 64) rfl (by decide) rfl ?_
    refine ev_if f_X11_commonDivisor (t1 := 34) (t2 := 14) rfl rfl rfl (fun h2 => ?_) (fun h2 => ?_)
    · have l3 : 64 ≤ y1_4.toInt := t_lel h2 (by decide : (64:Int) ≤ (64:Int32).toInt)
      refine ev_loc f_X11_commonDivisor (nx := 35) rfl rfl rfl rfl ?_
      exact ev_ret f_X11_commonDivisor rfl rfl rfl ⟨_, _, _, rfl, hI, hX, ⟨_, rfl, (t_lo y1_2), (t_hi y1_2)⟩⟩
    · have u4 : y1_4.toInt ≤ 63 := t_ltu (t_nle h2) (by decide : (64:Int32).toInt ≤ (64:Int)) rfl
      refine ev_loc f_X11_commonDivisor (nx := 15) rfl rfl rfl rfl ?_
      refine ev_if f_X11_commonDivisor (t1 := 34) (t2 := 18) rfl rfl rfl (fun h5 => ?_) (fun h5 => ?_)
      · have u6 : y1_3.toInt ≤ 0 := t_equ h5 (by decide : (0:Int32).toInt ≤ (0:Int))
        have l7 : 0 ≤ y1_3.toInt := t_eql h5 (by decide : (0:Int) ≤ (0:Int32).toInt)
        refine ev_loc f_X11_commonDivisor (nx := 35) rfl rfl rfl rfl ?_
        exact ev_ret f_X11_commonDivisor rfl rfl rfl ⟨_, _, _, rfl, hI, hX, ⟨_, rfl, (t_lo y1_2), (t_hi y1_2)⟩⟩
      · refine ev_loc f_X11_commonDivisor (nx := 19) rfl rfl rfl rfl ?_
        refine ev_loc f_X11_commonDivisor (nx := 20) rfl rfl rfl rfl ?_
        refine ev_remN f_X11_commonDivisor (nx := 21) rfl h5 rfl (fun z8 e8 => ?_)
        refine ev_loc f_X11_commonDivisor (nx := 23) (lo' := [(5, .int z8), (4, .int y1_4), (3, .int y1_3), (2, .int y1_2), (0, .int ar0), (1, .int ar1)]) rfl rfl rfl rfl ?_
        refine ev_loc f_X11_commonDivisor (nx := 24) rfl rfl rfl rfl ?_
        refine ev_loc f_X11_commonDivisor (nx := 25) (lo' := [(2, .int y1_3), (5, .int z8), (4, .int y1_4), (3, .int y1_3), (0, .int ar0), (1, .int ar1)]) rfl rfl rfl rfl ?_
        refine ev_loc f_X11_commonDivisor (nx := 27) rfl rfl rfl rfl ?_
        refine ev_loc f_X11_commonDivisor (nx := 28) (lo' := [(3, .int z8), (2, .int y1_3), (5, .int z8), (4, .int y1_4), (0, .int ar0), (1, .int ar1)]) rfl rfl rfl rfl ?_
        refine ev_incR f_X11_commonDivisor (nx := 31) (c := 1) (l := 1) (u := 64) rfl rfl (by decide) (by decide) l1_4 u4 rfl rfl (by decide) (by decide) rfl (fun z9 e9 l9 u9 => ?_)
        refine ev_jmp f_X11_commonDivisor (nx := 7) rfl rfl rfl ?_
        refine ev_sub (lo := [(4, .int z9), (3, .int z8), (2, .int y1_3), (0, .int ar0), (1, .int ar1)]) rfl (t_sc rfl (t_sc rfl (t_sc rfl (t_sc rfl (t_sc rfl t_sn))))) ?_
        exact ih1 _ (by omega) gi1 gl1 gr1 (z9) (z8) (y1_3) hI hX  (Int.le_trans (by decide : (0:Int) ≤ 1) l9) u9 rfl
  refine ev_sub (lo := [(4, .int 0), (3, .int ar0), (2, .int ar1), (0, .int ar0), (1, .int ar1)]) rfl (t_sc rfl (t_sc rfl (t_sc rfl (t_sc rfl (t_sc rfl t_sn))))) ?_
  exact L1 _ gi gl gr (0) (ar0) (ar1) hI hX  (by decide : (0:Int) ≤ (0:Int32).toInt) (Int.le_trans (by decide : (0:Int32).toInt ≤ (0:Int)) (by decide : (0:Int) ≤ 64)) rfl
noncomputable def wl_tellFraction : List (Nat × Nat) := [(0, 1), (0, 2)]
theorem c_tellFraction {X : x_Ext} {d : Nat} {sh : List (Nat ⊕ (Nat × Nat))} {gi : Nat → Nat → Int32} {gl : Nat → Nat → Int64} {gr : Nat → Nat → Value} (hI : t_I sh gi gr) (ar1 : Int32) (ar2 : Int32) : x_Me X (d + 2) n_X11_tellFraction [.ref 0, .int ar1, .int ar2] (sh, gi, gl, gr) (t_P wl_tellFraction sh gi gl gr t_Rn) := by
  have hX : t_X wl_tellFraction sh gi gl gr gi gl gr := t_X.rf
  refine me_i f_X11_tellFraction (hI.wf.s rfl) rfl rfl rfl ?_
  refine ev_loc f_X11_tellFraction (nx := 1) rfl rfl rfl rfl ?_
  refine ev_loc f_X11_tellFraction (nx := 2) rfl rfl rfl rfl ?_
  refine ev_cI f_X11_tellFraction (nx := 5) (r := []) rfl rfl rfl rfl rfl rfl rfl (c_commonDivisor hI (ar1) (ar2)) rfl hX rfl (fun w1 gi1 gl1 gr1 l1 u1 hI hX hC1 => ?_)
  refine ev_loc f_X11_tellFraction (nx := 6) (lo' := [(3, .int w1), (0, .ref 0), (1, .int ar1), (2, .int ar2)]) rfl rfl rfl rfl ?_
  refine ev_loc f_X11_tellFraction (nx := 7) rfl rfl rfl rfl ?_
  refine ev_if f_X11_tellFraction (t1 := 26) (t2 := 10) rfl rfl rfl (fun h2 => ?_) (fun h2 => ?_)
  · have u3 : w1.toInt ≤ 0 := t_leu h2 (by decide : (0:Int32).toInt ≤ (0:Int))
    exact ev_ret f_X11_tellFraction rfl rfl rfl ⟨_, _, _, rfl, hI, hX, rfl⟩
  · have l4 : 1 ≤ w1.toInt := t_ltl (t_nle h2) (by decide : (0:Int) ≤ (0:Int32).toInt) rfl
    refine ev_loc f_X11_tellFraction (nx := 11) rfl rfl rfl rfl ?_
    refine ev_loc f_X11_tellFraction (nx := 12) rfl rfl rfl rfl ?_
    refine ev_loc f_X11_tellFraction (nx := 13) rfl rfl rfl rfl ?_
    refine ev_divN f_X11_tellFraction (nx := 14) rfl (t_neT' (by decide : (0:Int32).toInt ≤ 0) l4 (by decide)) rfl (fun z5 e5 => ?_)
    refine ev_anyL f_X11_tellFraction (nx := 15) rfl rfl rfl rfl (fun z6 => ?_)
    refine ev_putLT f_X11_tellFraction (nx := 18) rfl (hI.wf.s rfl) rfl rfl rfl (hX.upL rfl) (fun g7 e7 hX => ?_)
    refine ev_loc f_X11_tellFraction (nx := 19) rfl rfl rfl rfl ?_
    refine ev_loc f_X11_tellFraction (nx := 20) rfl rfl rfl rfl ?_
    refine ev_loc f_X11_tellFraction (nx := 21) rfl rfl rfl rfl ?_
    refine ev_divN f_X11_tellFraction (nx := 22) rfl (t_neT' (by decide : (0:Int32).toInt ≤ 0) l4 (by decide)) rfl (fun z8 e8 => ?_)
    refine ev_anyL f_X11_tellFraction (nx := 23) rfl rfl rfl rfl (fun z9 => ?_)
    refine ev_putLT f_X11_tellFraction (nx := 26) rfl (hI.wf.s rfl) rfl rfl rfl (hX.upL rfl) (fun g10 e10 hX => ?_)
    exact ev_ret f_X11_tellFraction rfl rfl rfl ⟨_, _, _, rfl, hI, hX, rfl⟩
noncomputable def wl_h_status : List (Nat × Nat) := []
theorem c_h_status {X : x_Ext} {d : Nat} {sh : List (Nat ⊕ (Nat × Nat))} {gi : Nat → Nat → Int32} {gl : Nat → Nat → Int64} {gr : Nat → Nat → Value} (hI : t_I sh gi gr) : x_Me X (d + 1) n_X11_status [.ref 0] (sh, gi, gl, gr) (t_P wl_h_status sh gi gl gr (t_Ri (-2147483648) 2147483647)) := by
  have hX : t_X wl_h_status sh gi gl gr gi gl gr := t_X.rf
  refine me_i f_X11_status (hI.wf.s rfl) rfl rfl rfl ?_
  refine ev_loc f_X11_status (nx := 1) rfl rfl rfl rfl ?_
  refine ev_getI f_X11_status (nx := 4) rfl (hI.wf.s rfl) rfl rfl rfl ?_
  exact ev_ret f_X11_status rfl rfl rfl ⟨_, _, _, rfl, hI, hX, ⟨_, rfl, (t_lo (gi 0 0)), (t_hi (gi 0 0))⟩⟩
noncomputable def wl_h_top : List (Nat × Nat) := []
theorem c_h_top {X : x_Ext} {d : Nat} {sh : List (Nat ⊕ (Nat × Nat))} {gi : Nat → Nat → Int32} {gl : Nat → Nat → Int64} {gr : Nat → Nat → Value} (hI : t_I sh gi gr) : x_Me X (d + 1) n_X11_top [.ref 0] (sh, gi, gl, gr) (t_P wl_h_top sh gi gl gr t_Rl) := by
  have hX : t_X wl_h_top sh gi gl gr gi gl gr := t_X.rf
  refine me_i f_X11_top (hI.wf.s rfl) rfl rfl rfl ?_
  refine ev_loc f_X11_top (nx := 1) rfl rfl rfl rfl ?_
  refine ev_getL f_X11_top (nx := 4) rfl (hI.wf.s rfl) rfl rfl rfl ?_
  exact ev_ret f_X11_top rfl rfl rfl ⟨_, _, _, rfl, hI, hX, ⟨_, rfl⟩⟩
noncomputable def wl_h_bottom : List (Nat × Nat) := []
theorem c_h_bottom {X : x_Ext} {d : Nat} {sh : List (Nat ⊕ (Nat × Nat))} {gi : Nat → Nat → Int32} {gl : Nat → Nat → Int64} {gr : Nat → Nat → Value} (hI : t_I sh gi gr) : x_Me X (d + 1) n_X11_bottom [.ref 0] (sh, gi, gl, gr) (t_P wl_h_bottom sh gi gl gr t_Rl) := by
  have hX : t_X wl_h_bottom sh gi gl gr gi gl gr := t_X.rf
  refine me_i f_X11_bottom (hI.wf.s rfl) rfl rfl rfl ?_
  refine ev_loc f_X11_bottom (nx := 1) rfl rfl rfl rfl ?_
  refine ev_getL f_X11_bottom (nx := 4) rfl (hI.wf.s rfl) rfl rfl rfl ?_
  exact ev_ret f_X11_bottom rfl rfl rfl ⟨_, _, _, rfl, hI, hX, ⟨_, rfl⟩⟩
noncomputable def wl_h_tray : List (Nat × Nat) := [(0, 0), (61, 1), (61, 2), (62, 9999), (63, 1), (63, 2), (64, 9999), (65, 1), (65, 2), (66, 9999), (67, 1), (67, 2), (68, 9999)]
theorem c_h_tray {X : x_Ext} {d : Nat} {sh : List (Nat ⊕ (Nat × Nat))} {gi : Nat → Nat → Int32} {gl : Nat → Nat → Int64} {gr : Nat → Nat → Value} (hI : t_I sh gi gr) (ar1 : Int32) (ar2 : Int32) (ar3 : Int32) : x_Me X (d + 2) n_X11_tray [.ref 0, .int ar1, .int ar2, .int ar3] (sh, gi, gl, gr) (t_P wl_h_tray sh gi gl gr (t_Ri 0 1)) := by
  have hX : t_X wl_h_tray sh gi gl gr gi gl gr := t_X.rf
  refine me_i f_X11_tray (hI.wf.s rfl) rfl rfl rfl ?_
  refine ev_loc f_X11_tray (nx := 1) rfl rfl rfl rfl ?_
  refine ev_loc f_X11_tray (nx := 2) rfl rfl rfl rfl ?_
  refine ev_inV2 f_X11_tray (nx := 5) (lo2 := [(0, .ref 0), (1, .int ar1)]) rfl rfl rfl rfl f_X11_isTray (hI.wf.s rfl) rfl rfl rfl rfl rfl ?_
  refine ev_loc f_X11_isTray (nx := 1) rfl rfl rfl rfl ?_
  refine ev_if f_X11_isTray (t1 := 26) (t2 := 4) rfl rfl rfl (fun h1 => ?_) (fun h1 => ?_)
  · have u2 : ar1.toInt ≤ (-1) := t_ltu h1 (by decide : (0:Int32).toInt ≤ (0:Int)) rfl
    refine ev_ic f_X11_isTray (nx := 27) (v := 0) rfl (by decide) rfl ?_
    refine ev_retK1 f_X11_isTray rfl rfl rfl ?_
    refine ev_t f_X11_tray (t1 := 27) (t2 := 8) rfl rfl rfl (by decide) ?_
    refine ev_loc f_X11_tray (nx := 28) rfl rfl rfl rfl ?_
    refine ev_ic f_X11_tray (nx := 29) (v := 1) rfl (by decide) rfl ?_
    refine ev_inV2 f_X11_tray (nx := 32) (lo2 := [(0, .ref 0), (1, .int 1)]) rfl rfl rfl rfl f_X11_deny (hI.wf.s rfl) rfl rfl rfl rfl rfl ?_
    refine ev_loc f_X11_deny (nx := 1) rfl rfl rfl rfl ?_
    refine ev_loc f_X11_deny (nx := 2) rfl rfl rfl rfl ?_
    refine ev_putIT f_X11_deny (nx := 5) rfl (hI.wf.s rfl) rfl rfl rfl (hI.put0 (hI.wf.s rfl) rfl rfl) (hX.upI rfl) (fun g3 e3 hI hX => ?_)
    refine ev_ic f_X11_deny (nx := 6) (v := 0) rfl (by decide) rfl ?_
    refine ev_retK1 f_X11_deny rfl rfl rfl ?_
    exact ev_ret f_X11_tray rfl rfl rfl ⟨_, _, _, rfl, hI, hX, ⟨_, rfl, (by decide : (0:Int) ≤ (0:Int32).toInt), (Int.le_trans (by decide : (0:Int32).toInt ≤ (0:Int)) (by decide : (0:Int) ≤ 1))⟩⟩
  · have l4 : 0 ≤ ar1.toInt := t_lel (t_nlt h1) (by decide : (0:Int) ≤ (0:Int32).toInt)
    refine ev_loc f_X11_isTray (nx := 5) rfl rfl rfl rfl ?_
    refine ev_loc f_X11_isTray (nx := 6) rfl rfl rfl rfl ?_
    refine ev_getR f_X11_isTray (nx := 9) rfl (hI.wf.s rfl) rfl rfl (hI.wf.r rfl) rfl rfl ?_
    refine ev_alenv f_X11_isTray (nx := 10) (w := 4) rfl (hI.wf.s rfl) rfl (by decide) rfl ?_
    refine ev_if f_X11_isTray (t1 := 26) (t2 := 13) rfl rfl rfl (fun h5 => ?_) (fun h5 => ?_)
    · have l6 : 4 ≤ ar1.toInt := t_lel h5 (by decide : (4:Int) ≤ (4:Int32).toInt)
      refine ev_ic f_X11_isTray (nx := 27) (v := 0) rfl (by decide) rfl ?_
      refine ev_retK1 f_X11_isTray rfl rfl rfl ?_
      refine ev_t f_X11_tray (t1 := 27) (t2 := 8) rfl rfl rfl (by decide) ?_
      refine ev_loc f_X11_tray (nx := 28) rfl rfl rfl rfl ?_
      refine ev_ic f_X11_tray (nx := 29) (v := 1) rfl (by decide) rfl ?_
      refine ev_inV2 f_X11_tray (nx := 32) (lo2 := [(0, .ref 0), (1, .int 1)]) rfl rfl rfl rfl f_X11_deny (hI.wf.s rfl) rfl rfl rfl rfl rfl ?_
      refine ev_loc f_X11_deny (nx := 1) rfl rfl rfl rfl ?_
      refine ev_loc f_X11_deny (nx := 2) rfl rfl rfl rfl ?_
      refine ev_putIT f_X11_deny (nx := 5) rfl (hI.wf.s rfl) rfl rfl rfl (hI.put0 (hI.wf.s rfl) rfl rfl) (hX.upI rfl) (fun g7 e7 hI hX => ?_)
      refine ev_ic f_X11_deny (nx := 6) (v := 0) rfl (by decide) rfl ?_
      refine ev_retK1 f_X11_deny rfl rfl rfl ?_
      exact ev_ret f_X11_tray rfl rfl rfl ⟨_, _, _, rfl, hI, hX, ⟨_, rfl, (by decide : (0:Int) ≤ (0:Int32).toInt), (Int.le_trans (by decide : (0:Int32).toInt ≤ (0:Int)) (by decide : (0:Int) ≤ 1))⟩⟩
    · have u8 : ar1.toInt ≤ 3 := t_ltu (t_nle h5) (by decide : (4:Int32).toInt ≤ (4:Int)) rfl
      refine ev_loc f_X11_isTray (nx := 14) rfl rfl rfl rfl ?_
      refine ev_getR f_X11_isTray (nx := 17) rfl (hI.wf.s rfl) rfl rfl (hI.wf.r rfl) rfl rfl ?_
      refine ev_loc f_X11_isTray (nx := 18) rfl rfl rfl rfl ?_
      obtain ⟨a9, e9, p9⟩ := t_tray hI.wf l4 (by decide) u8 (by decide)
      refine ev_aald f_X11_isTray (nx := 19) rfl (hI.wf.s rfl) rfl (t_idx (n := 4) l4 (by decide) u8 (by decide)).1 (t_idx (n := 4) l4 (by decide) u8 (by decide)).2 e9 rfl rfl ?_
      refine ev_jmp f_X11_isTray (nx := 22) rfl rfl rfl ?_
      refine ev_ic f_X11_isTray (nx := 23) (v := 1) rfl (by decide) rfl ?_
      refine ev_jmp f_X11_isTray (nx := 27) rfl rfl rfl ?_
      refine ev_retK1 f_X11_isTray rfl rfl rfl ?_
      refine ev_f f_X11_tray (t1 := 27) (t2 := 8) rfl rfl rfl (by decide) ?_
      refine ev_loc f_X11_tray (nx := 9) rfl rfl rfl rfl ?_
      refine ev_if f_X11_tray (t1 := 27) (t2 := 12) rfl rfl rfl (fun h10 => ?_) (fun h10 => ?_)
      · have u11 : ar2.toInt ≤ (-1) := t_ltu h10 (by decide : (0:Int32).toInt ≤ (0:Int)) rfl
        refine ev_loc f_X11_tray (nx := 28) rfl rfl rfl rfl ?_
        refine ev_ic f_X11_tray (nx := 29) (v := 1) rfl (by decide) rfl ?_
        refine ev_inV2 f_X11_tray (nx := 32) (lo2 := [(0, .ref 0), (1, .int 1)]) rfl rfl rfl rfl f_X11_deny (hI.wf.s rfl) rfl rfl rfl rfl rfl ?_
        refine ev_loc f_X11_deny (nx := 1) rfl rfl rfl rfl ?_
        refine ev_loc f_X11_deny (nx := 2) rfl rfl rfl rfl ?_
        refine ev_putIT f_X11_deny (nx := 5) rfl (hI.wf.s rfl) rfl rfl rfl (hI.put0 (hI.wf.s rfl) rfl rfl) (hX.upI rfl) (fun g12 e12 hI hX => ?_)
        refine ev_ic f_X11_deny (nx := 6) (v := 0) rfl (by decide) rfl ?_
        refine ev_retK1 f_X11_deny rfl rfl rfl ?_
        exact ev_ret f_X11_tray rfl rfl rfl ⟨_, _, _, rfl, hI, hX, ⟨_, rfl, (by decide : (0:Int) ≤ (0:Int32).toInt), (Int.le_trans (by decide : (0:Int32).toInt ≤ (0:Int)) (by decide : (0:Int) ≤ 1))⟩⟩
      · have l13 : 0 ≤ ar2.toInt := t_lel (t_nlt h10) (by decide : (0:Int) ≤ (0:Int32).toInt)
        refine ev_loc f_X11_tray (nx := 13) rfl rfl rfl rfl ?_
        refine ev_ic f_X11_tray (nx := 14) (v := 3) rfl (by decide) rfl ?_
        refine ev_if f_X11_tray (t1 := 27) (t2 := 17) rfl rfl rfl (fun h14 => ?_) (fun h14 => ?_)
        · have l15 : 4 ≤ ar2.toInt := t_ltl h14 (by decide : (3:Int) ≤ (3:Int32).toInt) rfl
          refine ev_loc f_X11_tray (nx := 28) rfl rfl rfl rfl ?_
          refine ev_ic f_X11_tray (nx := 29) (v := 1) rfl (by decide) rfl ?_
          refine ev_inV2 f_X11_tray (nx := 32) (lo2 := [(0, .ref 0), (1, .int 1)]) rfl rfl rfl rfl f_X11_deny (hI.wf.s rfl) rfl rfl rfl rfl rfl ?_
          refine ev_loc f_X11_deny (nx := 1) rfl rfl rfl rfl ?_
          refine ev_loc f_X11_deny (nx := 2) rfl rfl rfl rfl ?_
          refine ev_putIT f_X11_deny (nx := 5) rfl (hI.wf.s rfl) rfl rfl rfl (hI.put0 (hI.wf.s rfl) rfl rfl) (hX.upI rfl) (fun g16 e16 hI hX => ?_)
          refine ev_ic f_X11_deny (nx := 6) (v := 0) rfl (by decide) rfl ?_
          refine ev_retK1 f_X11_deny rfl rfl rfl ?_
          exact ev_ret f_X11_tray rfl rfl rfl ⟨_, _, _, rfl, hI, hX, ⟨_, rfl, (by decide : (0:Int) ≤ (0:Int32).toInt), (Int.le_trans (by decide : (0:Int32).toInt ≤ (0:Int)) (by decide : (0:Int) ≤ 1))⟩⟩
        · have u17 : ar2.toInt ≤ 3 := t_leu (t_nlt h14) (by decide : (3:Int32).toInt ≤ (3:Int))
          refine ev_loc f_X11_tray (nx := 18) rfl rfl rfl rfl ?_
          refine ev_if f_X11_tray (t1 := 27) (t2 := 21) rfl rfl rfl (fun h18 => ?_) (fun h18 => ?_)
          · have u19 : ar3.toInt ≤ (-1) := t_ltu h18 (by decide : (0:Int32).toInt ≤ (0:Int)) rfl
            refine ev_loc f_X11_tray (nx := 28) rfl rfl rfl rfl ?_
            refine ev_ic f_X11_tray (nx := 29) (v := 1) rfl (by decide) rfl ?_
            refine ev_inV2 f_X11_tray (nx := 32) (lo2 := [(0, .ref 0), (1, .int 1)]) rfl rfl rfl rfl f_X11_deny (hI.wf.s rfl) rfl rfl rfl rfl rfl ?_
            refine ev_loc f_X11_deny (nx := 1) rfl rfl rfl rfl ?_
            refine ev_loc f_X11_deny (nx := 2) rfl rfl rfl rfl ?_
            refine ev_putIT f_X11_deny (nx := 5) rfl (hI.wf.s rfl) rfl rfl rfl (hI.put0 (hI.wf.s rfl) rfl rfl) (hX.upI rfl) (fun g20 e20 hI hX => ?_)
            refine ev_ic f_X11_deny (nx := 6) (v := 0) rfl (by decide) rfl ?_
            refine ev_retK1 f_X11_deny rfl rfl rfl ?_
            exact ev_ret f_X11_tray rfl rfl rfl ⟨_, _, _, rfl, hI, hX, ⟨_, rfl, (by decide : (0:Int) ≤ (0:Int32).toInt), (Int.le_trans (by decide : (0:Int32).toInt ≤ (0:Int)) (by decide : (0:Int) ≤ 1))⟩⟩
          · have l21 : 0 ≤ ar3.toInt := t_lel (t_nlt h18) (by decide : (0:Int) ≤ (0:Int32).toInt)
            refine ev_loc f_X11_tray (nx := 22) rfl rfl rfl rfl ?_
            refine ev_bp f_X11_tray (nx := 24) (v := 60) rfl (by decide) rfl ?_
            refine ev_if f_X11_tray (t1 := 33) (t2 := 27) rfl rfl rfl (fun h22 => ?_) (fun h22 => ?_)
            · have u23 : ar3.toInt ≤ 60 := t_leu h22 (by decide : (60:Int32).toInt ≤ (60:Int))
              refine ev_loc f_X11_tray (nx := 34) rfl rfl rfl rfl ?_
              refine ev_getR f_X11_tray (nx := 37) rfl (hI.wf.s rfl) rfl rfl (hI.wf.r rfl) rfl rfl ?_
              refine ev_loc f_X11_tray (nx := 38) rfl rfl rfl rfl ?_
              obtain ⟨a24, e24, p24⟩ := t_tray hI.wf l4 (by decide) u8 (by decide)
              refine ev_aald f_X11_tray (nx := 39) rfl (hI.wf.s rfl) rfl (t_idx (n := 4) l4 (by decide) u8 (by decide)).1 (t_idx (n := 4) l4 (by decide) u8 (by decide)).2 e24 rfl rfl ?_
              refine ev_loc f_X11_tray (nx := 40) rfl rfl rfl rfl ?_
              refine ev_loc f_X11_tray (nx := 41) rfl rfl rfl rfl ?_
              refine ev_c0 f_X11_tray (nx := 44) (r := []) rfl rfl rfl rfl rfl rfl rfl (c_lay hI (a24) p24 (ar2) (ar3) l21 u23) rfl hX rfl (fun gi25 gl25 gr25 hI hX hC25 => ?_)
              refine ev_loc f_X11_tray (nx := 45) rfl rfl rfl rfl ?_
              refine ev_inV1 f_X11_tray (nx := 48) (lo2 := [(0, .ref 0)]) rfl rfl rfl rfl f_X11_grant (hI.wf.s rfl) rfl rfl rfl rfl rfl ?_
              refine ev_loc f_X11_grant (nx := 1) rfl rfl rfl rfl ?_
              refine ev_ic f_X11_grant (nx := 2) (v := 0) rfl (by decide) rfl ?_
              refine ev_putIT f_X11_grant (nx := 5) rfl (hI.wf.s rfl) rfl rfl rfl (hI.put0 (hI.wf.s rfl) rfl rfl) (hX.upI rfl) (fun g26 e26 hI hX => ?_)
              refine ev_ic f_X11_grant (nx := 6) (v := 1) rfl (by decide) rfl ?_
              refine ev_retK1 f_X11_grant rfl rfl rfl ?_
              exact ev_ret f_X11_tray rfl rfl rfl ⟨_, _, _, rfl, hI, hX, ⟨_, rfl, (Int.le_trans (by decide : (0:Int) ≤ 1) (by decide : (1:Int) ≤ (1:Int32).toInt)), (by decide : (1:Int32).toInt ≤ (1:Int))⟩⟩
            · have l27 : 61 ≤ ar3.toInt := t_ltl (t_nle h22) (by decide : (60:Int) ≤ (60:Int32).toInt) rfl
              refine ev_loc f_X11_tray (nx := 28) rfl rfl rfl rfl ?_
              refine ev_ic f_X11_tray (nx := 29) (v := 1) rfl (by decide) rfl ?_
              refine ev_inV2 f_X11_tray (nx := 32) (lo2 := [(0, .ref 0), (1, .int 1)]) rfl rfl rfl rfl f_X11_deny (hI.wf.s rfl) rfl rfl rfl rfl rfl ?_
              refine ev_loc f_X11_deny (nx := 1) rfl rfl rfl rfl ?_
              refine ev_loc f_X11_deny (nx := 2) rfl rfl rfl rfl ?_
              refine ev_putIT f_X11_deny (nx := 5) rfl (hI.wf.s rfl) rfl rfl rfl (hI.put0 (hI.wf.s rfl) rfl rfl) (hX.upI rfl) (fun g28 e28 hI hX => ?_)
              refine ev_ic f_X11_deny (nx := 6) (v := 0) rfl (by decide) rfl ?_
              refine ev_retK1 f_X11_deny rfl rfl rfl ?_
              exact ev_ret f_X11_tray rfl rfl rfl ⟨_, _, _, rfl, hI, hX, ⟨_, rfl, (by decide : (0:Int) ≤ (0:Int32).toInt), (Int.le_trans (by decide : (0:Int32).toInt ≤ (0:Int)) (by decide : (0:Int) ≤ 1))⟩⟩
noncomputable def wl_h_feed : List (Nat × Nat) := [(0, 5), (2, 9999)]
theorem c_h_feed {X : x_Ext} {d : Nat} {sh : List (Nat ⊕ (Nat × Nat))} {gi : Nat → Nat → Int32} {gl : Nat → Nat → Int64} {gr : Nat → Nat → Value} (hI : t_I sh gi gr) (ar1 : Int32) (ar2 : Int32) (ar3 : Int32) (ar4 : Int32) (ar5 : Int32) : x_Me X (d + 2) n_X11_feed [.ref 0, .int ar1, .int ar2, .int ar3, .int ar4, .int ar5] (sh, gi, gl, gr) (t_P wl_h_feed sh gi gl gr (t_Ri (-1) 900)) := by
  have hX : t_X wl_h_feed sh gi gl gr gi gl gr := t_X.rf
  refine me_i f_X11_feed (hI.wf.s rfl) rfl rfl rfl ?_
  refine ev_loc f_X11_feed (nx := 1) rfl rfl rfl rfl ?_
  refine ev_getI f_X11_feed (nx := 4) rfl (hI.wf.s rfl) rfl rfl rfl ?_
  obtain ⟨l1, u1⟩ := hI.b (hI.wf.s (k := 0) rfl) (t_bdK rfl : t_bd 10 5 = some (0, 900))
  refine ev_bp f_X11_feed (nx := 6) (v := 20) rfl (by decide) rfl ?_
  refine ev_addC f_X11_feed (nx := 7) (c := 20) (l := 20) (u := 920) rfl (by decide) l1 u1 rfl rfl (by decide) (by decide) rfl (fun z2 e2 l2 u2 => ?_)
  refine ev_loc f_X11_feed (nx := 8) rfl rfl rfl rfl ?_
  refine ev_getR f_X11_feed (nx := 11) rfl (hI.wf.s rfl) rfl rfl (hI.wf.r rfl) rfl rfl ?_
  refine ev_alenv f_X11_feed (nx := 12) (w := 900) rfl (hI.wf.s rfl) rfl (by decide) rfl ?_
  refine ev_if f_X11_feed (t1 := 17) (t2 := 15) rfl rfl rfl (fun h3 => ?_) (fun h3 => ?_)
  · have u4 : z2.toInt ≤ 900 := t_leu h3 (by decide : (900:Int32).toInt ≤ (900:Int))
    refine ev_loc f_X11_feed (nx := 18) rfl rfl rfl rfl ?_
    refine ev_loc f_X11_feed (nx := 19) rfl rfl rfl rfl ?_
    refine ev_c0 f_X11_feed (nx := 22) (r := []) rfl rfl rfl rfl rfl rfl rfl (c_feedOne hI (ar1)) rfl hX rfl (fun gi5 gl5 gr5 hI hX hC5 => ?_)
    refine ev_loc f_X11_feed (nx := 23) rfl rfl rfl rfl ?_
    refine ev_loc f_X11_feed (nx := 24) rfl rfl rfl rfl ?_
    refine ev_c0 f_X11_feed (nx := 27) (r := []) rfl rfl rfl rfl rfl rfl rfl (c_feedOne hI (ar2)) rfl hX rfl (fun gi6 gl6 gr6 hI hX hC6 => ?_)
    refine ev_loc f_X11_feed (nx := 28) rfl rfl rfl rfl ?_
    refine ev_loc f_X11_feed (nx := 29) rfl rfl rfl rfl ?_
    refine ev_c0 f_X11_feed (nx := 32) (r := []) rfl rfl rfl rfl rfl rfl rfl (c_feedOne hI (ar3)) rfl hX rfl (fun gi7 gl7 gr7 hI hX hC7 => ?_)
    refine ev_loc f_X11_feed (nx := 33) rfl rfl rfl rfl ?_
    refine ev_loc f_X11_feed (nx := 35) rfl rfl rfl rfl ?_
    refine ev_c0 f_X11_feed (nx := 38) (r := []) rfl rfl rfl rfl rfl rfl rfl (c_feedOne hI (ar4)) rfl hX rfl (fun gi8 gl8 gr8 hI hX hC8 => ?_)
    refine ev_loc f_X11_feed (nx := 39) rfl rfl rfl rfl ?_
    refine ev_loc f_X11_feed (nx := 41) rfl rfl rfl rfl ?_
    refine ev_c0 f_X11_feed (nx := 44) (r := []) rfl rfl rfl rfl rfl rfl rfl (c_feedOne hI (ar5)) rfl hX rfl (fun gi9 gl9 gr9 hI hX hC9 => ?_)
    refine ev_loc f_X11_feed (nx := 45) rfl rfl rfl rfl ?_
    refine ev_getI f_X11_feed (nx := 48) rfl (hI.wf.s rfl) rfl rfl rfl ?_
    obtain ⟨l10, u10⟩ := hI.b (hI.wf.s (k := 0) rfl) (t_bdK rfl : t_bd 10 5 = some (0, 900))
    exact ev_ret f_X11_feed rfl rfl rfl ⟨_, _, _, rfl, hI, hX, ⟨_, rfl, (Int.le_trans (by decide : ((-1):Int) ≤ 0) l10), u10⟩⟩
  · have l11 : 901 ≤ z2.toInt := t_ltl (t_nle h3) (by decide : (900:Int) ≤ (900:Int32).toInt) rfl
    refine ev_ic f_X11_feed (nx := 16) (v := -1) rfl (by decide) rfl ?_
    exact ev_ret f_X11_feed rfl rfl rfl ⟨_, _, _, rfl, hI, hX, ⟨_, rfl, (by decide : ((-1):Int) ≤ ((-1):Int32).toInt), (Int.le_trans (by decide : ((-1):Int32).toInt ≤ ((-1):Int)) (by decide : ((-1):Int) ≤ 900))⟩⟩
noncomputable def wl_h_fault : List (Nat × Nat) := []
theorem c_h_fault {X : x_Ext} {d : Nat} {sh : List (Nat ⊕ (Nat × Nat))} {gi : Nat → Nat → Int32} {gl : Nat → Nat → Int64} {gr : Nat → Nat → Value} (hI : t_I sh gi gr) (ar1 : Int32) : x_Me X (d + 1) n_X11_fault [.ref 0, .int ar1] (sh, gi, gl, gr) (t_P wl_h_fault sh gi gl gr (t_Ri (-2147483648) 2147483647)) := by
  have hX : t_X wl_h_fault sh gi gl gr gi gl gr := t_X.rf
  refine me_i f_X11_fault (hI.wf.s rfl) rfl rfl rfl ?_
  refine ev_loc f_X11_fault (nx := 1) rfl rfl rfl rfl ?_
  refine ev_if f_X11_fault (t1 := 4) (t2 := 9) rfl rfl rfl (fun h1 => ?_) (fun h1 => ?_)
  · have u2 : ar1.toInt ≤ 0 := t_equ h1 (by decide : (0:Int32).toInt ≤ (0:Int))
    have l3 : 0 ≤ ar1.toInt := t_eql h1 (by decide : (0:Int) ≤ (0:Int32).toInt)
    refine ev_loc f_X11_fault (nx := 5) rfl rfl rfl rfl ?_
    refine ev_getI f_X11_fault (nx := 8) rfl (hI.wf.s rfl) rfl rfl rfl ?_
    exact ev_ret f_X11_fault rfl rfl rfl ⟨_, _, _, rfl, hI, hX, ⟨_, rfl, (t_lo (gi 0 8)), (t_hi (gi 0 8))⟩⟩
  · refine ev_loc f_X11_fault (nx := 10) rfl rfl rfl rfl ?_
    refine ev_ic f_X11_fault (nx := 11) (v := 1) rfl (by decide) rfl ?_
    refine ev_if f_X11_fault (t1 := 14) (t2 := 21) rfl rfl rfl (fun h4 => ?_) (fun h4 => ?_)
    · have u5 : ar1.toInt ≤ 1 := t_equ h4 (by decide : (1:Int32).toInt ≤ (1:Int))
      have l6 : 1 ≤ ar1.toInt := t_eql h4 (by decide : (1:Int) ≤ (1:Int32).toInt)
      refine ev_loc f_X11_fault (nx := 15) rfl rfl rfl rfl ?_
      refine ev_getI f_X11_fault (nx := 18) rfl (hI.wf.s rfl) rfl rfl rfl ?_
      refine ev_jmp f_X11_fault (nx := 22) rfl rfl rfl ?_
      exact ev_ret f_X11_fault rfl rfl rfl ⟨_, _, _, rfl, hI, hX, ⟨_, rfl, (t_lo (gi 0 9)), (t_hi (gi 0 9))⟩⟩
    · refine ev_ic f_X11_fault (nx := 22) (v := -1) rfl (by decide) rfl ?_
      exact ev_ret f_X11_fault rfl rfl rfl ⟨_, _, _, rfl, hI, hX, ⟨_, rfl, (Int.le_trans (by decide : ((-2147483648):Int) ≤ (-1)) (by decide : ((-1):Int) ≤ ((-1):Int32).toInt)), (Int.le_trans (by decide : ((-1):Int32).toInt ≤ ((-1):Int)) (by decide : ((-1):Int) ≤ 2147483647))⟩⟩
noncomputable def wl_h_told : List (Nat × Nat) := [(0, 0)]
theorem c_h_told {X : x_Ext} {d : Nat} {sh : List (Nat ⊕ (Nat × Nat))} {gi : Nat → Nat → Int32} {gl : Nat → Nat → Int64} {gr : Nat → Nat → Value} (hI : t_I sh gi gr) (ar1 : Int32) : x_Me X (d + 2) n_X11_told [.ref 0, .int ar1] (sh, gi, gl, gr) (t_P wl_h_told sh gi gl gr (t_Ri (-2147483648) 2147483647)) := by
  have hX : t_X wl_h_told sh gi gl gr gi gl gr := t_X.rf
  refine me_i f_X11_told (hI.wf.s rfl) rfl rfl rfl ?_
  refine ev_loc f_X11_told (nx := 1) rfl rfl rfl rfl ?_
  have h1 : ar1.toInt = 0 ∨ ar1.toInt = 1 ∨ ar1.toInt = 2 ∨ ar1.toInt = 3 ∨ ar1.toInt = 4 ∨ ar1.toInt = 5 ∨ ar1.toInt = 6 ∨ ar1.toInt = 7 ∨ (ar1.toInt ≠ 0 ∧ ar1.toInt ≠ 1 ∧ ar1.toInt ≠ 2 ∧ ar1.toInt ≠ 3 ∧ ar1.toInt ≠ 4 ∧ ar1.toInt ≠ 5 ∧ ar1.toInt ≠ 6 ∧ ar1.toInt ≠ 7) := by have := (t_lo ar1); have := (t_hi ar1); omega
  rcases h1 with h1 | h1 | h1 | h1 | h1 | h1 | h1 | h1 | h1
  · refine ev_swt f_X11_told (nx := 48) (c := 0) rfl h1 rfl ?_
    refine ev_loc f_X11_told (nx := 49) rfl rfl rfl rfl ?_
    refine ev_loc f_X11_told (nx := 50) rfl rfl rfl rfl ?_
    obtain ⟨a2, e2, p2⟩ := hI.2.2.2.1.1
    refine ev_getR f_X11_told (nx := 53) rfl (hI.wf.s rfl) rfl rfl e2 rfl rfl ?_
    refine ev_getI f_X11_told (nx := 56) rfl p2.1 rfl rfl rfl ?_
    obtain ⟨l3, u3⟩ := hI.b p2.1 (t_bdK rfl : t_bd 4 0 = some (0, 6))
    refine ev_inV2 f_X11_told (nx := 59) (lo2 := [(0, .ref 0), (1, .int (gi a2 0))]) rfl rfl rfl rfl f_X11_answer (hI.wf.s rfl) rfl rfl rfl rfl rfl ?_
    refine ev_loc f_X11_answer (nx := 1) rfl rfl rfl rfl ?_
    refine ev_ic f_X11_answer (nx := 2) (v := 0) rfl (by decide) rfl ?_
    refine ev_putIT f_X11_answer (nx := 5) rfl (hI.wf.s rfl) rfl rfl rfl (hI.put0 (hI.wf.s rfl) rfl rfl) (hX.upI rfl) (fun g4 e4 hI hX => ?_)
    refine ev_loc f_X11_answer (nx := 6) rfl rfl rfl rfl ?_
    refine ev_retK1 f_X11_answer rfl rfl rfl ?_
    exact ev_ret f_X11_told rfl rfl rfl ⟨_, _, _, rfl, hI, hX, ⟨_, rfl, (Int.le_trans (by decide : ((-2147483648):Int) ≤ 0) l3), (Int.le_trans u3 (by decide : (6:Int) ≤ 2147483647))⟩⟩
  · refine ev_swt f_X11_told (nx := 60) (c := 1) rfl h1 rfl ?_
    refine ev_loc f_X11_told (nx := 61) rfl rfl rfl rfl ?_
    refine ev_loc f_X11_told (nx := 62) rfl rfl rfl rfl ?_
    obtain ⟨a5, e5, p5⟩ := hI.2.2.2.1.1
    refine ev_getR f_X11_told (nx := 65) rfl (hI.wf.s rfl) rfl rfl e5 rfl rfl ?_
    obtain ⟨a6, e6, p6⟩ := p5.2.2.2.2.1
    refine ev_getR f_X11_told (nx := 68) rfl p5.1 rfl rfl e6 rfl rfl ?_
    refine ev_getI f_X11_told (nx := 71) rfl p6.1 rfl rfl rfl ?_
    obtain ⟨l7, u7⟩ := hI.b p6.1 (t_bdK rfl : t_bd 3 0 = some (0, 6))
    refine ev_inV2 f_X11_told (nx := 74) (lo2 := [(0, .ref 0), (1, .int (gi a6 0))]) rfl rfl rfl rfl f_X11_answer (hI.wf.s rfl) rfl rfl rfl rfl rfl ?_
    refine ev_loc f_X11_answer (nx := 1) rfl rfl rfl rfl ?_
    refine ev_ic f_X11_answer (nx := 2) (v := 0) rfl (by decide) rfl ?_
    refine ev_putIT f_X11_answer (nx := 5) rfl (hI.wf.s rfl) rfl rfl rfl (hI.put0 (hI.wf.s rfl) rfl rfl) (hX.upI rfl) (fun g8 e8 hI hX => ?_)
    refine ev_loc f_X11_answer (nx := 6) rfl rfl rfl rfl ?_
    refine ev_retK1 f_X11_answer rfl rfl rfl ?_
    exact ev_ret f_X11_told rfl rfl rfl ⟨_, _, _, rfl, hI, hX, ⟨_, rfl, (Int.le_trans (by decide : ((-2147483648):Int) ≤ 0) l7), (Int.le_trans u7 (by decide : (6:Int) ≤ 2147483647))⟩⟩
  · refine ev_swt f_X11_told (nx := 75) (c := 2) rfl h1 rfl ?_
    refine ev_loc f_X11_told (nx := 76) rfl rfl rfl rfl ?_
    refine ev_loc f_X11_told (nx := 77) rfl rfl rfl rfl ?_
    obtain ⟨a9, e9, p9⟩ := hI.2.2.2.1.1
    refine ev_getR f_X11_told (nx := 80) rfl (hI.wf.s rfl) rfl rfl e9 rfl rfl ?_
    obtain ⟨a10, e10, p10⟩ := p9.2.2.2.2.2
    refine ev_getR f_X11_told (nx := 83) rfl p9.1 rfl rfl e10 rfl rfl ?_
    refine ev_getI f_X11_told (nx := 86) rfl p10.1 rfl rfl rfl ?_
    obtain ⟨l11, u11⟩ := hI.b p10.1 (t_bdK rfl : t_bd 3 0 = some (0, 6))
    refine ev_inV2 f_X11_told (nx := 89) (lo2 := [(0, .ref 0), (1, .int (gi a10 0))]) rfl rfl rfl rfl f_X11_answer (hI.wf.s rfl) rfl rfl rfl rfl rfl ?_
    refine ev_loc f_X11_answer (nx := 1) rfl rfl rfl rfl ?_
    refine ev_ic f_X11_answer (nx := 2) (v := 0) rfl (by decide) rfl ?_
    refine ev_putIT f_X11_answer (nx := 5) rfl (hI.wf.s rfl) rfl rfl rfl (hI.put0 (hI.wf.s rfl) rfl rfl) (hX.upI rfl) (fun g12 e12 hI hX => ?_)
    refine ev_loc f_X11_answer (nx := 6) rfl rfl rfl rfl ?_
    refine ev_retK1 f_X11_answer rfl rfl rfl ?_
    exact ev_ret f_X11_told rfl rfl rfl ⟨_, _, _, rfl, hI, hX, ⟨_, rfl, (Int.le_trans (by decide : ((-2147483648):Int) ≤ 0) l11), (Int.le_trans u11 (by decide : (6:Int) ≤ 2147483647))⟩⟩
  · refine ev_swt f_X11_told (nx := 90) (c := 3) rfl h1 rfl ?_
    refine ev_loc f_X11_told (nx := 91) rfl rfl rfl rfl ?_
    refine ev_loc f_X11_told (nx := 92) rfl rfl rfl rfl ?_
    rcases hI.2.2.2.1.2.1 with e13 | ⟨a13, e13, p13⟩
    · refine ev_getR f_X11_told (nx := 95) rfl (hI.wf.s rfl) rfl rfl e13 rfl rfl ?_
      refine ev_jmp f_X11_told (nx := 98) rfl rfl rfl ?_
      refine ev_ic f_X11_told (nx := 99) (v := 0) rfl (by decide) rfl ?_
      refine ev_jmp f_X11_told (nx := 109) rfl rfl rfl ?_
      refine ev_inV2 f_X11_told (nx := 112) (lo2 := [(0, .ref 0), (1, .int 0)]) rfl rfl rfl rfl f_X11_answer (hI.wf.s rfl) rfl rfl rfl rfl rfl ?_
      refine ev_loc f_X11_answer (nx := 1) rfl rfl rfl rfl ?_
      refine ev_ic f_X11_answer (nx := 2) (v := 0) rfl (by decide) rfl ?_
      refine ev_putIT f_X11_answer (nx := 5) rfl (hI.wf.s rfl) rfl rfl rfl (hI.put0 (hI.wf.s rfl) rfl rfl) (hX.upI rfl) (fun g14 e14 hI hX => ?_)
      refine ev_loc f_X11_answer (nx := 6) rfl rfl rfl rfl ?_
      refine ev_retK1 f_X11_answer rfl rfl rfl ?_
      exact ev_ret f_X11_told rfl rfl rfl ⟨_, _, _, rfl, hI, hX, ⟨_, rfl, (Int.le_trans (by decide : ((-2147483648):Int) ≤ 0) (by decide : (0:Int) ≤ (0:Int32).toInt)), (Int.le_trans (by decide : (0:Int32).toInt ≤ (0:Int)) (by decide : (0:Int) ≤ 2147483647))⟩⟩
    · refine ev_getR f_X11_told (nx := 95) rfl (hI.wf.s rfl) rfl rfl e13 rfl rfl ?_
      refine ev_jmp f_X11_told (nx := 102) rfl rfl rfl ?_
      refine ev_loc f_X11_told (nx := 103) rfl rfl rfl rfl ?_
      refine ev_getR f_X11_told (nx := 106) (v := .ref a13) rfl (hI.wf.s rfl) rfl rfl e13 rfl rfl ?_
      refine ev_getI f_X11_told (nx := 109) rfl p13.1 rfl rfl rfl ?_
      obtain ⟨l15, u15⟩ := hI.b p13.1 (t_bdK rfl : t_bd 6 0 = some (0, 12))
      refine ev_inV2 f_X11_told (nx := 112) (lo2 := [(0, .ref 0), (1, .int (gi a13 0))]) rfl rfl rfl rfl f_X11_answer (hI.wf.s rfl) rfl rfl rfl rfl rfl ?_
      refine ev_loc f_X11_answer (nx := 1) rfl rfl rfl rfl ?_
      refine ev_ic f_X11_answer (nx := 2) (v := 0) rfl (by decide) rfl ?_
      refine ev_putIT f_X11_answer (nx := 5) rfl (hI.wf.s rfl) rfl rfl rfl (hI.put0 (hI.wf.s rfl) rfl rfl) (hX.upI rfl) (fun g16 e16 hI hX => ?_)
      refine ev_loc f_X11_answer (nx := 6) rfl rfl rfl rfl ?_
      refine ev_retK1 f_X11_answer rfl rfl rfl ?_
      exact ev_ret f_X11_told rfl rfl rfl ⟨_, _, _, rfl, hI, hX, ⟨_, rfl, (Int.le_trans (by decide : ((-2147483648):Int) ≤ 0) l15), (Int.le_trans u15 (by decide : (12:Int) ≤ 2147483647))⟩⟩
  · refine ev_swt f_X11_told (nx := 113) (c := 4) rfl h1 rfl ?_
    refine ev_loc f_X11_told (nx := 114) rfl rfl rfl rfl ?_
    refine ev_loc f_X11_told (nx := 115) rfl rfl rfl rfl ?_
    obtain ⟨a17, e17, p17⟩ := hI.2.2.2.1.1
    refine ev_getR f_X11_told (nx := 118) rfl (hI.wf.s rfl) rfl rfl e17 rfl rfl ?_
    refine ev_getI f_X11_told (nx := 121) rfl p17.1 rfl rfl rfl ?_
    refine ev_inV2 f_X11_told (nx := 124) (lo2 := [(0, .ref 0), (1, .int (gi a17 3))]) rfl rfl rfl rfl f_X11_answer (hI.wf.s rfl) rfl rfl rfl rfl rfl ?_
    refine ev_loc f_X11_answer (nx := 1) rfl rfl rfl rfl ?_
    refine ev_ic f_X11_answer (nx := 2) (v := 0) rfl (by decide) rfl ?_
    refine ev_putIT f_X11_answer (nx := 5) rfl (hI.wf.s rfl) rfl rfl rfl (hI.put0 (hI.wf.s rfl) rfl rfl) (hX.upI rfl) (fun g18 e18 hI hX => ?_)
    refine ev_loc f_X11_answer (nx := 6) rfl rfl rfl rfl ?_
    refine ev_retK1 f_X11_answer rfl rfl rfl ?_
    exact ev_ret f_X11_told rfl rfl rfl ⟨_, _, _, rfl, hI, hX, ⟨_, rfl, (t_lo (gi a17 3)), (t_hi (gi a17 3))⟩⟩
  · refine ev_swt f_X11_told (nx := 125) (c := 5) rfl h1 rfl ?_
    refine ev_loc f_X11_told (nx := 126) rfl rfl rfl rfl ?_
    refine ev_loc f_X11_told (nx := 127) rfl rfl rfl rfl ?_
    obtain ⟨a19, e19, p19⟩ := hI.2.2.2.1.1
    refine ev_getR f_X11_told (nx := 130) rfl (hI.wf.s rfl) rfl rfl e19 rfl rfl ?_
    refine ev_getI f_X11_told (nx := 133) rfl p19.1 rfl rfl rfl ?_
    refine ev_inV2 f_X11_told (nx := 136) (lo2 := [(0, .ref 0), (1, .int (gi a19 4))]) rfl rfl rfl rfl f_X11_answer (hI.wf.s rfl) rfl rfl rfl rfl rfl ?_
    refine ev_loc f_X11_answer (nx := 1) rfl rfl rfl rfl ?_
    refine ev_ic f_X11_answer (nx := 2) (v := 0) rfl (by decide) rfl ?_
    refine ev_putIT f_X11_answer (nx := 5) rfl (hI.wf.s rfl) rfl rfl rfl (hI.put0 (hI.wf.s rfl) rfl rfl) (hX.upI rfl) (fun g20 e20 hI hX => ?_)
    refine ev_loc f_X11_answer (nx := 6) rfl rfl rfl rfl ?_
    refine ev_retK1 f_X11_answer rfl rfl rfl ?_
    exact ev_ret f_X11_told rfl rfl rfl ⟨_, _, _, rfl, hI, hX, ⟨_, rfl, (t_lo (gi a19 4)), (t_hi (gi a19 4))⟩⟩
  · refine ev_swt f_X11_told (nx := 137) (c := 6) rfl h1 rfl ?_
    refine ev_loc f_X11_told (nx := 138) rfl rfl rfl rfl ?_
    refine ev_loc f_X11_told (nx := 139) rfl rfl rfl rfl ?_
    obtain ⟨a21, e21, p21⟩ := hI.2.2.2.1.1
    refine ev_getR f_X11_told (nx := 142) rfl (hI.wf.s rfl) rfl rfl e21 rfl rfl ?_
    refine ev_getI f_X11_told (nx := 145) rfl p21.1 rfl rfl rfl ?_
    refine ev_inV2 f_X11_told (nx := 148) (lo2 := [(0, .ref 0), (1, .int (gi a21 5))]) rfl rfl rfl rfl f_X11_answer (hI.wf.s rfl) rfl rfl rfl rfl rfl ?_
    refine ev_loc f_X11_answer (nx := 1) rfl rfl rfl rfl ?_
    refine ev_ic f_X11_answer (nx := 2) (v := 0) rfl (by decide) rfl ?_
    refine ev_putIT f_X11_answer (nx := 5) rfl (hI.wf.s rfl) rfl rfl rfl (hI.put0 (hI.wf.s rfl) rfl rfl) (hX.upI rfl) (fun g22 e22 hI hX => ?_)
    refine ev_loc f_X11_answer (nx := 6) rfl rfl rfl rfl ?_
    refine ev_retK1 f_X11_answer rfl rfl rfl ?_
    exact ev_ret f_X11_told rfl rfl rfl ⟨_, _, _, rfl, hI, hX, ⟨_, rfl, (t_lo (gi a21 5)), (t_hi (gi a21 5))⟩⟩
  · refine ev_swt f_X11_told (nx := 149) (c := 7) rfl h1 rfl ?_
    refine ev_loc f_X11_told (nx := 150) rfl rfl rfl rfl ?_
    refine ev_loc f_X11_told (nx := 151) rfl rfl rfl rfl ?_
    obtain ⟨a23, e23, p23⟩ := hI.2.2.2.1.1
    refine ev_getR f_X11_told (nx := 154) rfl (hI.wf.s rfl) rfl rfl e23 rfl rfl ?_
    refine ev_getI f_X11_told (nx := 157) rfl p23.1 rfl rfl rfl ?_
    refine ev_inV2 f_X11_told (nx := 160) (lo2 := [(0, .ref 0), (1, .int (gi a23 6))]) rfl rfl rfl rfl f_X11_answer (hI.wf.s rfl) rfl rfl rfl rfl rfl ?_
    refine ev_loc f_X11_answer (nx := 1) rfl rfl rfl rfl ?_
    refine ev_ic f_X11_answer (nx := 2) (v := 0) rfl (by decide) rfl ?_
    refine ev_putIT f_X11_answer (nx := 5) rfl (hI.wf.s rfl) rfl rfl rfl (hI.put0 (hI.wf.s rfl) rfl rfl) (hX.upI rfl) (fun g24 e24 hI hX => ?_)
    refine ev_loc f_X11_answer (nx := 6) rfl rfl rfl rfl ?_
    refine ev_retK1 f_X11_answer rfl rfl rfl ?_
    exact ev_ret f_X11_told rfl rfl rfl ⟨_, _, _, rfl, hI, hX, ⟨_, rfl, (t_lo (gi a23 6)), (t_hi (gi a23 6))⟩⟩
  · refine ev_swtd f_X11_told (nx := 161) rfl (by omega) (by decide) rfl ?_
    refine ev_loc f_X11_told (nx := 162) rfl rfl rfl rfl ?_
    refine ev_ic f_X11_told (nx := 163) (v := 1) rfl (by decide) rfl ?_
    refine ev_inV2 f_X11_told (nx := 166) (lo2 := [(0, .ref 0), (1, .int 1)]) rfl rfl rfl rfl f_X11_refuse (hI.wf.s rfl) rfl rfl rfl rfl rfl ?_
    refine ev_loc f_X11_refuse (nx := 1) rfl rfl rfl rfl ?_
    refine ev_loc f_X11_refuse (nx := 2) rfl rfl rfl rfl ?_
    refine ev_putIT f_X11_refuse (nx := 5) rfl (hI.wf.s rfl) rfl rfl rfl (hI.put0 (hI.wf.s rfl) rfl rfl) (hX.upI rfl) (fun g25 e25 hI hX => ?_)
    refine ev_ic f_X11_refuse (nx := 6) (v := -1) rfl (by decide) rfl ?_
    refine ev_retK1 f_X11_refuse rfl rfl rfl ?_
    exact ev_ret f_X11_told rfl rfl rfl ⟨_, _, _, rfl, hI, hX, ⟨_, rfl, (Int.le_trans (by decide : ((-2147483648):Int) ≤ (-1)) (by decide : ((-1):Int) ≤ ((-1):Int32).toInt)), (Int.le_trans (by decide : ((-1):Int32).toInt ≤ ((-1):Int)) (by decide : ((-1):Int) ≤ 2147483647))⟩⟩
noncomputable def wl_h_ship : List (Nat × Nat) := [(0, 0)]
theorem c_h_ship {X : x_Ext} {d : Nat} {sh : List (Nat ⊕ (Nat × Nat))} {gi : Nat → Nat → Int32} {gl : Nat → Nat → Int64} {gr : Nat → Nat → Value} (hI : t_I sh gi gr) (ar1 : Int32) (ar2 : Int32) : x_Me X (d + 2) n_X11_ship [.ref 0, .int ar1, .int ar2] (sh, gi, gl, gr) (t_P wl_h_ship sh gi gl gr (t_Ri (-2147483648) 2147483647)) := by
  have hX : t_X wl_h_ship sh gi gl gr gi gl gr := t_X.rf
  refine me_i f_X11_ship (hI.wf.s rfl) rfl rfl rfl ?_
  refine ev_loc f_X11_ship (nx := 1) rfl rfl rfl rfl ?_
  refine ev_loc f_X11_ship (nx := 2) rfl rfl rfl rfl ?_
  refine ev_inV2 f_X11_ship (nx := 5) (lo2 := [(0, .ref 0), (1, .int ar1)]) rfl rfl rfl rfl f_X11_isShip (hI.wf.s rfl) rfl rfl rfl rfl rfl ?_
  refine ev_loc f_X11_isShip (nx := 1) rfl rfl rfl rfl ?_
  refine ev_if f_X11_isShip (t1 := 22) (t2 := 4) rfl rfl rfl (fun h1 => ?_) (fun h1 => ?_)
  · have u2 : ar1.toInt ≤ (-1) := t_ltu h1 (by decide : (0:Int32).toInt ≤ (0:Int)) rfl
    refine ev_ic f_X11_isShip (nx := 23) (v := 0) rfl (by decide) rfl ?_
    refine ev_retK1 f_X11_isShip rfl rfl rfl ?_
    refine ev_t f_X11_ship (t1 := 8) (t2 := 14) rfl rfl rfl (by decide) ?_
    refine ev_loc f_X11_ship (nx := 9) rfl rfl rfl rfl ?_
    refine ev_ic f_X11_ship (nx := 10) (v := 1) rfl (by decide) rfl ?_
    refine ev_inV2 f_X11_ship (nx := 13) (lo2 := [(0, .ref 0), (1, .int 1)]) rfl rfl rfl rfl f_X11_refuse (hI.wf.s rfl) rfl rfl rfl rfl rfl ?_
    refine ev_loc f_X11_refuse (nx := 1) rfl rfl rfl rfl ?_
    refine ev_loc f_X11_refuse (nx := 2) rfl rfl rfl rfl ?_
    refine ev_putIT f_X11_refuse (nx := 5) rfl (hI.wf.s rfl) rfl rfl rfl (hI.put0 (hI.wf.s rfl) rfl rfl) (hX.upI rfl) (fun g3 e3 hI hX => ?_)
    refine ev_ic f_X11_refuse (nx := 6) (v := -1) rfl (by decide) rfl ?_
    refine ev_retK1 f_X11_refuse rfl rfl rfl ?_
    exact ev_ret f_X11_ship rfl rfl rfl ⟨_, _, _, rfl, hI, hX, ⟨_, rfl, (Int.le_trans (by decide : ((-2147483648):Int) ≤ (-1)) (by decide : ((-1):Int) ≤ ((-1):Int32).toInt)), (Int.le_trans (by decide : ((-1):Int32).toInt ≤ ((-1):Int)) (by decide : ((-1):Int) ≤ 2147483647))⟩⟩
  · have l4 : 0 ≤ ar1.toInt := t_lel (t_nlt h1) (by decide : (0:Int) ≤ (0:Int32).toInt)
    refine ev_loc f_X11_isShip (nx := 5) rfl rfl rfl rfl ?_
    refine ev_loc f_X11_isShip (nx := 6) rfl rfl rfl rfl ?_
    obtain ⟨a5, e5, p5⟩ := hI.2.2.2.1.1
    refine ev_getR f_X11_isShip (nx := 9) rfl (hI.wf.s rfl) rfl rfl e5 rfl rfl ?_
    obtain ⟨a6, e6, p6⟩ := p5.2.2.2.2.1
    refine ev_getR f_X11_isShip (nx := 12) rfl p5.1 rfl rfl e6 rfl rfl ?_
    refine ev_getI f_X11_isShip (nx := 15) rfl p6.1 rfl rfl rfl ?_
    obtain ⟨l7, u7⟩ := hI.b p6.1 (t_bdK rfl : t_bd 3 0 = some (0, 6))
    refine ev_if f_X11_isShip (t1 := 22) (t2 := 18) rfl rfl rfl (fun h8 => ?_) (fun h8 => ?_)
    · refine ev_ic f_X11_isShip (nx := 23) (v := 0) rfl (by decide) rfl ?_
      refine ev_retK1 f_X11_isShip rfl rfl rfl ?_
      refine ev_t f_X11_ship (t1 := 8) (t2 := 14) rfl rfl rfl (by decide) ?_
      refine ev_loc f_X11_ship (nx := 9) rfl rfl rfl rfl ?_
      refine ev_ic f_X11_ship (nx := 10) (v := 1) rfl (by decide) rfl ?_
      refine ev_inV2 f_X11_ship (nx := 13) (lo2 := [(0, .ref 0), (1, .int 1)]) rfl rfl rfl rfl f_X11_refuse (hI.wf.s rfl) rfl rfl rfl rfl rfl ?_
      refine ev_loc f_X11_refuse (nx := 1) rfl rfl rfl rfl ?_
      refine ev_loc f_X11_refuse (nx := 2) rfl rfl rfl rfl ?_
      refine ev_putIT f_X11_refuse (nx := 5) rfl (hI.wf.s rfl) rfl rfl rfl (hI.put0 (hI.wf.s rfl) rfl rfl) (hX.upI rfl) (fun g9 e9 hI hX => ?_)
      refine ev_ic f_X11_refuse (nx := 6) (v := -1) rfl (by decide) rfl ?_
      refine ev_retK1 f_X11_refuse rfl rfl rfl ?_
      exact ev_ret f_X11_ship rfl rfl rfl ⟨_, _, _, rfl, hI, hX, ⟨_, rfl, (Int.le_trans (by decide : ((-2147483648):Int) ≤ (-1)) (by decide : ((-1):Int) ≤ ((-1):Int32).toInt)), (Int.le_trans (by decide : ((-1):Int32).toInt ≤ ((-1):Int)) (by decide : ((-1):Int) ≤ 2147483647))⟩⟩
    · have u10 : ar1.toInt ≤ 5 := t_ltu (t_nle h8) u7 rfl
      have l11 : 1 ≤ (gi a6 0).toInt := t_ltl (t_nle h8) l4 rfl
      refine ev_ic f_X11_isShip (nx := 19) (v := 1) rfl (by decide) rfl ?_
      refine ev_jmp f_X11_isShip (nx := 23) rfl rfl rfl ?_
      refine ev_retK1 f_X11_isShip rfl rfl rfl ?_
      refine ev_f f_X11_ship (t1 := 8) (t2 := 14) rfl rfl rfl (by decide) ?_
      refine ev_loc f_X11_ship (nx := 15) rfl rfl rfl rfl ?_
      have h12 : ar2.toInt = 0 ∨ ar2.toInt = 1 ∨ ar2.toInt = 2 ∨ ar2.toInt = 3 ∨ ar2.toInt = 4 ∨ (ar2.toInt ≠ 0 ∧ ar2.toInt ≠ 1 ∧ ar2.toInt ≠ 2 ∧ ar2.toInt ≠ 3 ∧ ar2.toInt ≠ 4) := by have := (t_lo ar2); have := (t_hi ar2); omega
      rcases h12 with h12 | h12 | h12 | h12 | h12 | h12
      · refine ev_swt f_X11_ship (nx := 48) (c := 0) rfl h12 rfl ?_
        refine ev_loc f_X11_ship (nx := 49) rfl rfl rfl rfl ?_
        refine ev_loc f_X11_ship (nx := 50) rfl rfl rfl rfl ?_
        refine ev_getR f_X11_ship (nx := 53) (v := .ref a5) rfl (hI.wf.s rfl) rfl rfl e5 rfl rfl ?_
        obtain ⟨a13, e13, s13, o13⟩ := p5.2.2.2.1
        refine ev_getR f_X11_ship (nx := 56) rfl p5.1 rfl rfl e13 rfl rfl ?_
        refine ev_loc f_X11_ship (nx := 57) rfl rfl rfl rfl ?_
        refine ev_ialdT f_X11_ship (nx := 58) rfl s13 l4 (by decide) u10 (by decide) rfl (fun w14 e14 => ?_)
        refine ev_inV2 f_X11_ship (nx := 61) (lo2 := [(0, .ref 0), (1, .int w14)]) rfl rfl rfl rfl f_X11_answer (hI.wf.s rfl) rfl rfl rfl rfl rfl ?_
        refine ev_loc f_X11_answer (nx := 1) rfl rfl rfl rfl ?_
        refine ev_ic f_X11_answer (nx := 2) (v := 0) rfl (by decide) rfl ?_
        refine ev_putIT f_X11_answer (nx := 5) rfl (hI.wf.s rfl) rfl rfl rfl (hI.put0 (hI.wf.s rfl) rfl rfl) (hX.upI rfl) (fun g15 e15 hI hX => ?_)
        refine ev_loc f_X11_answer (nx := 6) rfl rfl rfl rfl ?_
        refine ev_retK1 f_X11_answer rfl rfl rfl ?_
        exact ev_ret f_X11_ship rfl rfl rfl ⟨_, _, _, rfl, hI, hX, ⟨_, rfl, (t_lo w14), (t_hi w14)⟩⟩
      · refine ev_swt f_X11_ship (nx := 62) (c := 1) rfl h12 rfl ?_
        refine ev_loc f_X11_ship (nx := 63) rfl rfl rfl rfl ?_
        refine ev_loc f_X11_ship (nx := 64) rfl rfl rfl rfl ?_
        refine ev_getR f_X11_ship (nx := 67) (v := .ref a5) rfl (hI.wf.s rfl) rfl rfl e5 rfl rfl ?_
        refine ev_getR f_X11_ship (nx := 70) (v := .ref a6) rfl p5.1 rfl rfl e6 rfl rfl ?_
        obtain ⟨a16, e16, s16, o16⟩ := p6.2.2.1
        refine ev_getR f_X11_ship (nx := 73) rfl p6.1 rfl rfl e16 rfl rfl ?_
        refine ev_loc f_X11_ship (nx := 74) rfl rfl rfl rfl ?_
        refine ev_ialdT f_X11_ship (nx := 75) rfl s16 l4 (by decide) u10 (by decide) rfl (fun w17 e17 => ?_)
        refine ev_inV2 f_X11_ship (nx := 78) (lo2 := [(0, .ref 0), (1, .int w17)]) rfl rfl rfl rfl f_X11_answer (hI.wf.s rfl) rfl rfl rfl rfl rfl ?_
        refine ev_loc f_X11_answer (nx := 1) rfl rfl rfl rfl ?_
        refine ev_ic f_X11_answer (nx := 2) (v := 0) rfl (by decide) rfl ?_
        refine ev_putIT f_X11_answer (nx := 5) rfl (hI.wf.s rfl) rfl rfl rfl (hI.put0 (hI.wf.s rfl) rfl rfl) (hX.upI rfl) (fun g18 e18 hI hX => ?_)
        refine ev_loc f_X11_answer (nx := 6) rfl rfl rfl rfl ?_
        refine ev_retK1 f_X11_answer rfl rfl rfl ?_
        exact ev_ret f_X11_ship rfl rfl rfl ⟨_, _, _, rfl, hI, hX, ⟨_, rfl, (t_lo w17), (t_hi w17)⟩⟩
      · refine ev_swt f_X11_ship (nx := 79) (c := 2) rfl h12 rfl ?_
        refine ev_loc f_X11_ship (nx := 80) rfl rfl rfl rfl ?_
        refine ev_loc f_X11_ship (nx := 81) rfl rfl rfl rfl ?_
        refine ev_getR f_X11_ship (nx := 84) (v := .ref a5) rfl (hI.wf.s rfl) rfl rfl e5 rfl rfl ?_
        refine ev_getR f_X11_ship (nx := 87) (v := .ref a6) rfl p5.1 rfl rfl e6 rfl rfl ?_
        obtain ⟨a19, e19, s19, o19⟩ := p6.2.2.2.1
        refine ev_getR f_X11_ship (nx := 90) rfl p6.1 rfl rfl e19 rfl rfl ?_
        refine ev_loc f_X11_ship (nx := 91) rfl rfl rfl rfl ?_
        refine ev_ialdT f_X11_ship (nx := 92) rfl s19 l4 (by decide) u10 (by decide) rfl (fun w20 e20 => ?_)
        refine ev_inV2 f_X11_ship (nx := 95) (lo2 := [(0, .ref 0), (1, .int w20)]) rfl rfl rfl rfl f_X11_answer (hI.wf.s rfl) rfl rfl rfl rfl rfl ?_
        refine ev_loc f_X11_answer (nx := 1) rfl rfl rfl rfl ?_
        refine ev_ic f_X11_answer (nx := 2) (v := 0) rfl (by decide) rfl ?_
        refine ev_putIT f_X11_answer (nx := 5) rfl (hI.wf.s rfl) rfl rfl rfl (hI.put0 (hI.wf.s rfl) rfl rfl) (hX.upI rfl) (fun g21 e21 hI hX => ?_)
        refine ev_loc f_X11_answer (nx := 6) rfl rfl rfl rfl ?_
        refine ev_retK1 f_X11_answer rfl rfl rfl ?_
        exact ev_ret f_X11_ship rfl rfl rfl ⟨_, _, _, rfl, hI, hX, ⟨_, rfl, (t_lo w20), (t_hi w20)⟩⟩
      · refine ev_swt f_X11_ship (nx := 96) (c := 3) rfl h12 rfl ?_
        refine ev_loc f_X11_ship (nx := 97) rfl rfl rfl rfl ?_
        refine ev_loc f_X11_ship (nx := 98) rfl rfl rfl rfl ?_
        refine ev_getR f_X11_ship (nx := 101) (v := .ref a5) rfl (hI.wf.s rfl) rfl rfl e5 rfl rfl ?_
        refine ev_getR f_X11_ship (nx := 104) (v := .ref a6) rfl p5.1 rfl rfl e6 rfl rfl ?_
        obtain ⟨a22, e22, s22, o22⟩ := p6.2.2.2.2.1
        refine ev_getR f_X11_ship (nx := 107) rfl p6.1 rfl rfl e22 rfl rfl ?_
        refine ev_loc f_X11_ship (nx := 108) rfl rfl rfl rfl ?_
        refine ev_ialdT f_X11_ship (nx := 109) rfl s22 l4 (by decide) u10 (by decide) rfl (fun w23 e23 => ?_)
        refine ev_inV2 f_X11_ship (nx := 112) (lo2 := [(0, .ref 0), (1, .int w23)]) rfl rfl rfl rfl f_X11_answer (hI.wf.s rfl) rfl rfl rfl rfl rfl ?_
        refine ev_loc f_X11_answer (nx := 1) rfl rfl rfl rfl ?_
        refine ev_ic f_X11_answer (nx := 2) (v := 0) rfl (by decide) rfl ?_
        refine ev_putIT f_X11_answer (nx := 5) rfl (hI.wf.s rfl) rfl rfl rfl (hI.put0 (hI.wf.s rfl) rfl rfl) (hX.upI rfl) (fun g24 e24 hI hX => ?_)
        refine ev_loc f_X11_answer (nx := 6) rfl rfl rfl rfl ?_
        refine ev_retK1 f_X11_answer rfl rfl rfl ?_
        exact ev_ret f_X11_ship rfl rfl rfl ⟨_, _, _, rfl, hI, hX, ⟨_, rfl, (t_lo w23), (t_hi w23)⟩⟩
      · refine ev_swt f_X11_ship (nx := 113) (c := 4) rfl h12 rfl ?_
        refine ev_loc f_X11_ship (nx := 114) rfl rfl rfl rfl ?_
        refine ev_loc f_X11_ship (nx := 115) rfl rfl rfl rfl ?_
        refine ev_getR f_X11_ship (nx := 118) (v := .ref a5) rfl (hI.wf.s rfl) rfl rfl e5 rfl rfl ?_
        refine ev_getR f_X11_ship (nx := 121) (v := .ref a6) rfl p5.1 rfl rfl e6 rfl rfl ?_
        obtain ⟨a25, e25, s25, o25⟩ := p6.2.2.2.2.2
        refine ev_getR f_X11_ship (nx := 124) rfl p6.1 rfl rfl e25 rfl rfl ?_
        refine ev_loc f_X11_ship (nx := 125) rfl rfl rfl rfl ?_
        refine ev_baldT f_X11_ship (nx := 126) rfl s25 rfl l4 (by decide) u10 (by decide) rfl (fun w26 e26 => ?_)
        refine ev_if f_X11_ship (t1 := 133) (t2 := 129) rfl rfl rfl (fun h27 => ?_) (fun h27 => ?_)
        · have u28 : w26.toInt ≤ 0 := t_equ h27 (by decide : (0:Int32).toInt ≤ (0:Int))
          have l29 : 0 ≤ w26.toInt := t_eql h27 (by decide : (0:Int) ≤ (0:Int32).toInt)
          refine ev_ic f_X11_ship (nx := 134) (v := 0) rfl (by decide) rfl ?_
          refine ev_inV2 f_X11_ship (nx := 137) (lo2 := [(0, .ref 0), (1, .int 0)]) rfl rfl rfl rfl f_X11_answer (hI.wf.s rfl) rfl rfl rfl rfl rfl ?_
          refine ev_loc f_X11_answer (nx := 1) rfl rfl rfl rfl ?_
          refine ev_ic f_X11_answer (nx := 2) (v := 0) rfl (by decide) rfl ?_
          refine ev_putIT f_X11_answer (nx := 5) rfl (hI.wf.s rfl) rfl rfl rfl (hI.put0 (hI.wf.s rfl) rfl rfl) (hX.upI rfl) (fun g30 e30 hI hX => ?_)
          refine ev_loc f_X11_answer (nx := 6) rfl rfl rfl rfl ?_
          refine ev_retK1 f_X11_answer rfl rfl rfl ?_
          exact ev_ret f_X11_ship rfl rfl rfl ⟨_, _, _, rfl, hI, hX, ⟨_, rfl, (Int.le_trans (by decide : ((-2147483648):Int) ≤ 0) (by decide : (0:Int) ≤ (0:Int32).toInt)), (Int.le_trans (by decide : (0:Int32).toInt ≤ (0:Int)) (by decide : (0:Int) ≤ 2147483647))⟩⟩
        · refine ev_ic f_X11_ship (nx := 130) (v := 1) rfl (by decide) rfl ?_
          refine ev_jmp f_X11_ship (nx := 134) rfl rfl rfl ?_
          refine ev_inV2 f_X11_ship (nx := 137) (lo2 := [(0, .ref 0), (1, .int 1)]) rfl rfl rfl rfl f_X11_answer (hI.wf.s rfl) rfl rfl rfl rfl rfl ?_
          refine ev_loc f_X11_answer (nx := 1) rfl rfl rfl rfl ?_
          refine ev_ic f_X11_answer (nx := 2) (v := 0) rfl (by decide) rfl ?_
          refine ev_putIT f_X11_answer (nx := 5) rfl (hI.wf.s rfl) rfl rfl rfl (hI.put0 (hI.wf.s rfl) rfl rfl) (hX.upI rfl) (fun g31 e31 hI hX => ?_)
          refine ev_loc f_X11_answer (nx := 6) rfl rfl rfl rfl ?_
          refine ev_retK1 f_X11_answer rfl rfl rfl ?_
          exact ev_ret f_X11_ship rfl rfl rfl ⟨_, _, _, rfl, hI, hX, ⟨_, rfl, (Int.le_trans (by decide : ((-2147483648):Int) ≤ 1) (by decide : (1:Int) ≤ (1:Int32).toInt)), (Int.le_trans (by decide : (1:Int32).toInt ≤ (1:Int)) (by decide : (1:Int) ≤ 2147483647))⟩⟩
      · refine ev_swtd f_X11_ship (nx := 138) rfl (by omega) (by decide) rfl ?_
        refine ev_loc f_X11_ship (nx := 139) rfl rfl rfl rfl ?_
        refine ev_ic f_X11_ship (nx := 140) (v := 1) rfl (by decide) rfl ?_
        refine ev_inV2 f_X11_ship (nx := 143) (lo2 := [(0, .ref 0), (1, .int 1)]) rfl rfl rfl rfl f_X11_refuse (hI.wf.s rfl) rfl rfl rfl rfl rfl ?_
        refine ev_loc f_X11_refuse (nx := 1) rfl rfl rfl rfl ?_
        refine ev_loc f_X11_refuse (nx := 2) rfl rfl rfl rfl ?_
        refine ev_putIT f_X11_refuse (nx := 5) rfl (hI.wf.s rfl) rfl rfl rfl (hI.put0 (hI.wf.s rfl) rfl rfl) (hX.upI rfl) (fun g32 e32 hI hX => ?_)
        refine ev_ic f_X11_refuse (nx := 6) (v := -1) rfl (by decide) rfl ?_
        refine ev_retK1 f_X11_refuse rfl rfl rfl ?_
        exact ev_ret f_X11_ship rfl rfl rfl ⟨_, _, _, rfl, hI, hX, ⟨_, rfl, (Int.le_trans (by decide : ((-2147483648):Int) ≤ (-1)) (by decide : ((-1):Int) ≤ ((-1):Int32).toInt)), (Int.le_trans (by decide : ((-1):Int32).toInt ≤ ((-1):Int)) (by decide : ((-1):Int) ≤ 2147483647))⟩⟩
noncomputable def wl_h_cart : List (Nat × Nat) := [(0, 0)]
theorem c_h_cart {X : x_Ext} {d : Nat} {sh : List (Nat ⊕ (Nat × Nat))} {gi : Nat → Nat → Int32} {gl : Nat → Nat → Int64} {gr : Nat → Nat → Value} (hI : t_I sh gi gr) (ar1 : Int32) (ar2 : Int32) : x_Me X (d + 2) n_X11_cart [.ref 0, .int ar1, .int ar2] (sh, gi, gl, gr) (t_P wl_h_cart sh gi gl gr (t_Ri (-2147483648) 2147483647)) := by
  have hX : t_X wl_h_cart sh gi gl gr gi gl gr := t_X.rf
  refine me_i f_X11_cart (hI.wf.s rfl) rfl rfl rfl ?_
  refine ev_loc f_X11_cart (nx := 1) rfl rfl rfl rfl ?_
  refine ev_loc f_X11_cart (nx := 2) rfl rfl rfl rfl ?_
  refine ev_inV2 f_X11_cart (nx := 5) (lo2 := [(0, .ref 0), (1, .int ar1)]) rfl rfl rfl rfl f_X11_isCart (hI.wf.s rfl) rfl rfl rfl rfl rfl ?_
  refine ev_loc f_X11_isCart (nx := 1) rfl rfl rfl rfl ?_
  refine ev_if f_X11_isCart (t1 := 22) (t2 := 4) rfl rfl rfl (fun h1 => ?_) (fun h1 => ?_)
  · have u2 : ar1.toInt ≤ (-1) := t_ltu h1 (by decide : (0:Int32).toInt ≤ (0:Int)) rfl
    refine ev_ic f_X11_isCart (nx := 23) (v := 0) rfl (by decide) rfl ?_
    refine ev_retK1 f_X11_isCart rfl rfl rfl ?_
    refine ev_t f_X11_cart (t1 := 8) (t2 := 14) rfl rfl rfl (by decide) ?_
    refine ev_loc f_X11_cart (nx := 9) rfl rfl rfl rfl ?_
    refine ev_ic f_X11_cart (nx := 10) (v := 1) rfl (by decide) rfl ?_
    refine ev_inV2 f_X11_cart (nx := 13) (lo2 := [(0, .ref 0), (1, .int 1)]) rfl rfl rfl rfl f_X11_refuse (hI.wf.s rfl) rfl rfl rfl rfl rfl ?_
    refine ev_loc f_X11_refuse (nx := 1) rfl rfl rfl rfl ?_
    refine ev_loc f_X11_refuse (nx := 2) rfl rfl rfl rfl ?_
    refine ev_putIT f_X11_refuse (nx := 5) rfl (hI.wf.s rfl) rfl rfl rfl (hI.put0 (hI.wf.s rfl) rfl rfl) (hX.upI rfl) (fun g3 e3 hI hX => ?_)
    refine ev_ic f_X11_refuse (nx := 6) (v := -1) rfl (by decide) rfl ?_
    refine ev_retK1 f_X11_refuse rfl rfl rfl ?_
    exact ev_ret f_X11_cart rfl rfl rfl ⟨_, _, _, rfl, hI, hX, ⟨_, rfl, (Int.le_trans (by decide : ((-2147483648):Int) ≤ (-1)) (by decide : ((-1):Int) ≤ ((-1):Int32).toInt)), (Int.le_trans (by decide : ((-1):Int32).toInt ≤ ((-1):Int)) (by decide : ((-1):Int) ≤ 2147483647))⟩⟩
  · have l4 : 0 ≤ ar1.toInt := t_lel (t_nlt h1) (by decide : (0:Int) ≤ (0:Int32).toInt)
    refine ev_loc f_X11_isCart (nx := 5) rfl rfl rfl rfl ?_
    refine ev_loc f_X11_isCart (nx := 6) rfl rfl rfl rfl ?_
    obtain ⟨a5, e5, p5⟩ := hI.2.2.2.1.1
    refine ev_getR f_X11_isCart (nx := 9) rfl (hI.wf.s rfl) rfl rfl e5 rfl rfl ?_
    obtain ⟨a6, e6, p6⟩ := p5.2.2.2.2.2
    refine ev_getR f_X11_isCart (nx := 12) rfl p5.1 rfl rfl e6 rfl rfl ?_
    refine ev_getI f_X11_isCart (nx := 15) rfl p6.1 rfl rfl rfl ?_
    obtain ⟨l7, u7⟩ := hI.b p6.1 (t_bdK rfl : t_bd 3 0 = some (0, 6))
    refine ev_if f_X11_isCart (t1 := 22) (t2 := 18) rfl rfl rfl (fun h8 => ?_) (fun h8 => ?_)
    · refine ev_ic f_X11_isCart (nx := 23) (v := 0) rfl (by decide) rfl ?_
      refine ev_retK1 f_X11_isCart rfl rfl rfl ?_
      refine ev_t f_X11_cart (t1 := 8) (t2 := 14) rfl rfl rfl (by decide) ?_
      refine ev_loc f_X11_cart (nx := 9) rfl rfl rfl rfl ?_
      refine ev_ic f_X11_cart (nx := 10) (v := 1) rfl (by decide) rfl ?_
      refine ev_inV2 f_X11_cart (nx := 13) (lo2 := [(0, .ref 0), (1, .int 1)]) rfl rfl rfl rfl f_X11_refuse (hI.wf.s rfl) rfl rfl rfl rfl rfl ?_
      refine ev_loc f_X11_refuse (nx := 1) rfl rfl rfl rfl ?_
      refine ev_loc f_X11_refuse (nx := 2) rfl rfl rfl rfl ?_
      refine ev_putIT f_X11_refuse (nx := 5) rfl (hI.wf.s rfl) rfl rfl rfl (hI.put0 (hI.wf.s rfl) rfl rfl) (hX.upI rfl) (fun g9 e9 hI hX => ?_)
      refine ev_ic f_X11_refuse (nx := 6) (v := -1) rfl (by decide) rfl ?_
      refine ev_retK1 f_X11_refuse rfl rfl rfl ?_
      exact ev_ret f_X11_cart rfl rfl rfl ⟨_, _, _, rfl, hI, hX, ⟨_, rfl, (Int.le_trans (by decide : ((-2147483648):Int) ≤ (-1)) (by decide : ((-1):Int) ≤ ((-1):Int32).toInt)), (Int.le_trans (by decide : ((-1):Int32).toInt ≤ ((-1):Int)) (by decide : ((-1):Int) ≤ 2147483647))⟩⟩
    · have u10 : ar1.toInt ≤ 5 := t_ltu (t_nle h8) u7 rfl
      have l11 : 1 ≤ (gi a6 0).toInt := t_ltl (t_nle h8) l4 rfl
      refine ev_ic f_X11_isCart (nx := 19) (v := 1) rfl (by decide) rfl ?_
      refine ev_jmp f_X11_isCart (nx := 23) rfl rfl rfl ?_
      refine ev_retK1 f_X11_isCart rfl rfl rfl ?_
      refine ev_f f_X11_cart (t1 := 8) (t2 := 14) rfl rfl rfl (by decide) ?_
      refine ev_loc f_X11_cart (nx := 15) rfl rfl rfl rfl ?_
      have h12 : ar2.toInt = 0 ∨ ar2.toInt = 1 ∨ ar2.toInt = 2 ∨ (ar2.toInt ≠ 0 ∧ ar2.toInt ≠ 1 ∧ ar2.toInt ≠ 2) := by have := (t_lo ar2); have := (t_hi ar2); omega
      rcases h12 with h12 | h12 | h12 | h12
      · refine ev_swt f_X11_cart (nx := 40) (c := 0) rfl h12 rfl ?_
        refine ev_loc f_X11_cart (nx := 41) rfl rfl rfl rfl ?_
        refine ev_loc f_X11_cart (nx := 42) rfl rfl rfl rfl ?_
        refine ev_getR f_X11_cart (nx := 45) (v := .ref a5) rfl (hI.wf.s rfl) rfl rfl e5 rfl rfl ?_
        refine ev_getR f_X11_cart (nx := 48) (v := .ref a6) rfl p5.1 rfl rfl e6 rfl rfl ?_
        obtain ⟨a13, e13, s13, o13⟩ := p6.2.2.1
        refine ev_getR f_X11_cart (nx := 51) rfl p6.1 rfl rfl e13 rfl rfl ?_
        refine ev_loc f_X11_cart (nx := 52) rfl rfl rfl rfl ?_
        refine ev_ialdT f_X11_cart (nx := 53) rfl s13 l4 (by decide) u10 (by decide) rfl (fun w14 e14 => ?_)
        refine ev_inV2 f_X11_cart (nx := 56) (lo2 := [(0, .ref 0), (1, .int w14)]) rfl rfl rfl rfl f_X11_answer (hI.wf.s rfl) rfl rfl rfl rfl rfl ?_
        refine ev_loc f_X11_answer (nx := 1) rfl rfl rfl rfl ?_
        refine ev_ic f_X11_answer (nx := 2) (v := 0) rfl (by decide) rfl ?_
        refine ev_putIT f_X11_answer (nx := 5) rfl (hI.wf.s rfl) rfl rfl rfl (hI.put0 (hI.wf.s rfl) rfl rfl) (hX.upI rfl) (fun g15 e15 hI hX => ?_)
        refine ev_loc f_X11_answer (nx := 6) rfl rfl rfl rfl ?_
        refine ev_retK1 f_X11_answer rfl rfl rfl ?_
        exact ev_ret f_X11_cart rfl rfl rfl ⟨_, _, _, rfl, hI, hX, ⟨_, rfl, (t_lo w14), (t_hi w14)⟩⟩
      · refine ev_swt f_X11_cart (nx := 57) (c := 1) rfl h12 rfl ?_
        refine ev_loc f_X11_cart (nx := 58) rfl rfl rfl rfl ?_
        refine ev_loc f_X11_cart (nx := 59) rfl rfl rfl rfl ?_
        refine ev_getR f_X11_cart (nx := 62) (v := .ref a5) rfl (hI.wf.s rfl) rfl rfl e5 rfl rfl ?_
        refine ev_getR f_X11_cart (nx := 65) (v := .ref a6) rfl p5.1 rfl rfl e6 rfl rfl ?_
        obtain ⟨a16, e16, s16, o16⟩ := p6.2.2.2.1
        refine ev_getR f_X11_cart (nx := 68) rfl p6.1 rfl rfl e16 rfl rfl ?_
        refine ev_loc f_X11_cart (nx := 69) rfl rfl rfl rfl ?_
        refine ev_ialdT f_X11_cart (nx := 70) rfl s16 l4 (by decide) u10 (by decide) rfl (fun w17 e17 => ?_)
        refine ev_inV2 f_X11_cart (nx := 73) (lo2 := [(0, .ref 0), (1, .int w17)]) rfl rfl rfl rfl f_X11_answer (hI.wf.s rfl) rfl rfl rfl rfl rfl ?_
        refine ev_loc f_X11_answer (nx := 1) rfl rfl rfl rfl ?_
        refine ev_ic f_X11_answer (nx := 2) (v := 0) rfl (by decide) rfl ?_
        refine ev_putIT f_X11_answer (nx := 5) rfl (hI.wf.s rfl) rfl rfl rfl (hI.put0 (hI.wf.s rfl) rfl rfl) (hX.upI rfl) (fun g18 e18 hI hX => ?_)
        refine ev_loc f_X11_answer (nx := 6) rfl rfl rfl rfl ?_
        refine ev_retK1 f_X11_answer rfl rfl rfl ?_
        exact ev_ret f_X11_cart rfl rfl rfl ⟨_, _, _, rfl, hI, hX, ⟨_, rfl, (t_lo w17), (t_hi w17)⟩⟩
      · refine ev_swt f_X11_cart (nx := 74) (c := 2) rfl h12 rfl ?_
        refine ev_loc f_X11_cart (nx := 75) rfl rfl rfl rfl ?_
        refine ev_loc f_X11_cart (nx := 76) rfl rfl rfl rfl ?_
        refine ev_getR f_X11_cart (nx := 79) (v := .ref a5) rfl (hI.wf.s rfl) rfl rfl e5 rfl rfl ?_
        refine ev_getR f_X11_cart (nx := 82) (v := .ref a6) rfl p5.1 rfl rfl e6 rfl rfl ?_
        obtain ⟨a19, e19, s19, o19⟩ := p6.2.2.2.2.1
        refine ev_getR f_X11_cart (nx := 85) rfl p6.1 rfl rfl e19 rfl rfl ?_
        refine ev_loc f_X11_cart (nx := 86) rfl rfl rfl rfl ?_
        refine ev_ialdT f_X11_cart (nx := 87) rfl s19 l4 (by decide) u10 (by decide) rfl (fun w20 e20 => ?_)
        refine ev_inV2 f_X11_cart (nx := 90) (lo2 := [(0, .ref 0), (1, .int w20)]) rfl rfl rfl rfl f_X11_answer (hI.wf.s rfl) rfl rfl rfl rfl rfl ?_
        refine ev_loc f_X11_answer (nx := 1) rfl rfl rfl rfl ?_
        refine ev_ic f_X11_answer (nx := 2) (v := 0) rfl (by decide) rfl ?_
        refine ev_putIT f_X11_answer (nx := 5) rfl (hI.wf.s rfl) rfl rfl rfl (hI.put0 (hI.wf.s rfl) rfl rfl) (hX.upI rfl) (fun g21 e21 hI hX => ?_)
        refine ev_loc f_X11_answer (nx := 6) rfl rfl rfl rfl ?_
        refine ev_retK1 f_X11_answer rfl rfl rfl ?_
        exact ev_ret f_X11_cart rfl rfl rfl ⟨_, _, _, rfl, hI, hX, ⟨_, rfl, (t_lo w20), (t_hi w20)⟩⟩
      · refine ev_swtd f_X11_cart (nx := 91) rfl (by omega) (by decide) rfl ?_
        refine ev_loc f_X11_cart (nx := 92) rfl rfl rfl rfl ?_
        refine ev_ic f_X11_cart (nx := 93) (v := 1) rfl (by decide) rfl ?_
        refine ev_inV2 f_X11_cart (nx := 96) (lo2 := [(0, .ref 0), (1, .int 1)]) rfl rfl rfl rfl f_X11_refuse (hI.wf.s rfl) rfl rfl rfl rfl rfl ?_
        refine ev_loc f_X11_refuse (nx := 1) rfl rfl rfl rfl ?_
        refine ev_loc f_X11_refuse (nx := 2) rfl rfl rfl rfl ?_
        refine ev_putIT f_X11_refuse (nx := 5) rfl (hI.wf.s rfl) rfl rfl rfl (hI.put0 (hI.wf.s rfl) rfl rfl) (hX.upI rfl) (fun g22 e22 hI hX => ?_)
        refine ev_ic f_X11_refuse (nx := 6) (v := -1) rfl (by decide) rfl ?_
        refine ev_retK1 f_X11_refuse rfl rfl rfl ?_
        exact ev_ret f_X11_cart rfl rfl rfl ⟨_, _, _, rfl, hI, hX, ⟨_, rfl, (Int.le_trans (by decide : ((-2147483648):Int) ≤ (-1)) (by decide : ((-1):Int) ≤ ((-1):Int32).toInt)), (Int.le_trans (by decide : ((-1):Int32).toInt ≤ ((-1):Int)) (by decide : ((-1):Int) ≤ 2147483647))⟩⟩
noncomputable def wl_h_nextShip : List (Nat × Nat) := [(0, 0), (29, 0), (30, 9999), (31, 9999), (32, 9999), (33, 9999), (34, 9999)]
theorem c_h_nextShip {X : x_Ext} {d : Nat} {sh : List (Nat ⊕ (Nat × Nat))} {gi : Nat → Nat → Int32} {gl : Nat → Nat → Int64} {gr : Nat → Nat → Value} (hI : t_I sh gi gr) (ar1 : Int32) : x_Me X (d + 4) n_X11_nextShip [.ref 0, .int ar1] (sh, gi, gl, gr) (t_P wl_h_nextShip sh gi gl gr (t_Ri (-2147483648) 2147483647)) := by
  have hX : t_X wl_h_nextShip sh gi gl gr gi gl gr := t_X.rf
  refine me_i f_X11_nextShip (hI.wf.s rfl) rfl rfl rfl ?_
  refine ev_loc f_X11_nextShip (nx := 1) rfl rfl rfl rfl ?_
  refine ev_loc f_X11_nextShip (nx := 2) rfl rfl rfl rfl ?_
  refine ev_inV2 f_X11_nextShip (nx := 5) (lo2 := [(0, .ref 0), (1, .int ar1)]) rfl rfl rfl rfl f_X11_isShip (hI.wf.s rfl) rfl rfl rfl rfl rfl ?_
  refine ev_loc f_X11_isShip (nx := 1) rfl rfl rfl rfl ?_
  refine ev_if f_X11_isShip (t1 := 22) (t2 := 4) rfl rfl rfl (fun h1 => ?_) (fun h1 => ?_)
  · have u2 : ar1.toInt ≤ (-1) := t_ltu h1 (by decide : (0:Int32).toInt ≤ (0:Int)) rfl
    refine ev_ic f_X11_isShip (nx := 23) (v := 0) rfl (by decide) rfl ?_
    refine ev_retK1 f_X11_isShip rfl rfl rfl ?_
    refine ev_t f_X11_nextShip (t1 := 8) (t2 := 15) rfl rfl rfl (by decide) ?_
    refine ev_loc f_X11_nextShip (nx := 9) rfl rfl rfl rfl ?_
    refine ev_bp f_X11_nextShip (nx := 11) (v := 6) rfl (by decide) rfl ?_
    refine ev_inV2 f_X11_nextShip (nx := 14) (lo2 := [(0, .ref 0), (1, .int 6)]) rfl rfl rfl rfl f_X11_refuse (hI.wf.s rfl) rfl rfl rfl rfl rfl ?_
    refine ev_loc f_X11_refuse (nx := 1) rfl rfl rfl rfl ?_
    refine ev_loc f_X11_refuse (nx := 2) rfl rfl rfl rfl ?_
    refine ev_putIT f_X11_refuse (nx := 5) rfl (hI.wf.s rfl) rfl rfl rfl (hI.put0 (hI.wf.s rfl) rfl rfl) (hX.upI rfl) (fun g3 e3 hI hX => ?_)
    refine ev_ic f_X11_refuse (nx := 6) (v := -1) rfl (by decide) rfl ?_
    refine ev_retK1 f_X11_refuse rfl rfl rfl ?_
    exact ev_ret f_X11_nextShip rfl rfl rfl ⟨_, _, _, rfl, hI, hX, ⟨_, rfl, (Int.le_trans (by decide : ((-2147483648):Int) ≤ (-1)) (by decide : ((-1):Int) ≤ ((-1):Int32).toInt)), (Int.le_trans (by decide : ((-1):Int32).toInt ≤ ((-1):Int)) (by decide : ((-1):Int) ≤ 2147483647))⟩⟩
  · have l4 : 0 ≤ ar1.toInt := t_lel (t_nlt h1) (by decide : (0:Int) ≤ (0:Int32).toInt)
    refine ev_loc f_X11_isShip (nx := 5) rfl rfl rfl rfl ?_
    refine ev_loc f_X11_isShip (nx := 6) rfl rfl rfl rfl ?_
    obtain ⟨a5, e5, p5⟩ := hI.2.2.2.1.1
    refine ev_getR f_X11_isShip (nx := 9) rfl (hI.wf.s rfl) rfl rfl e5 rfl rfl ?_
    obtain ⟨a6, e6, p6⟩ := p5.2.2.2.2.1
    refine ev_getR f_X11_isShip (nx := 12) rfl p5.1 rfl rfl e6 rfl rfl ?_
    refine ev_getI f_X11_isShip (nx := 15) rfl p6.1 rfl rfl rfl ?_
    obtain ⟨l7, u7⟩ := hI.b p6.1 (t_bdK rfl : t_bd 3 0 = some (0, 6))
    refine ev_if f_X11_isShip (t1 := 22) (t2 := 18) rfl rfl rfl (fun h8 => ?_) (fun h8 => ?_)
    · refine ev_ic f_X11_isShip (nx := 23) (v := 0) rfl (by decide) rfl ?_
      refine ev_retK1 f_X11_isShip rfl rfl rfl ?_
      refine ev_t f_X11_nextShip (t1 := 8) (t2 := 15) rfl rfl rfl (by decide) ?_
      refine ev_loc f_X11_nextShip (nx := 9) rfl rfl rfl rfl ?_
      refine ev_bp f_X11_nextShip (nx := 11) (v := 6) rfl (by decide) rfl ?_
      refine ev_inV2 f_X11_nextShip (nx := 14) (lo2 := [(0, .ref 0), (1, .int 6)]) rfl rfl rfl rfl f_X11_refuse (hI.wf.s rfl) rfl rfl rfl rfl rfl ?_
      refine ev_loc f_X11_refuse (nx := 1) rfl rfl rfl rfl ?_
      refine ev_loc f_X11_refuse (nx := 2) rfl rfl rfl rfl ?_
      refine ev_putIT f_X11_refuse (nx := 5) rfl (hI.wf.s rfl) rfl rfl rfl (hI.put0 (hI.wf.s rfl) rfl rfl) (hX.upI rfl) (fun g9 e9 hI hX => ?_)
      refine ev_ic f_X11_refuse (nx := 6) (v := -1) rfl (by decide) rfl ?_
      refine ev_retK1 f_X11_refuse rfl rfl rfl ?_
      exact ev_ret f_X11_nextShip rfl rfl rfl ⟨_, _, _, rfl, hI, hX, ⟨_, rfl, (Int.le_trans (by decide : ((-2147483648):Int) ≤ (-1)) (by decide : ((-1):Int) ≤ ((-1):Int32).toInt)), (Int.le_trans (by decide : ((-1):Int32).toInt ≤ ((-1):Int)) (by decide : ((-1):Int) ≤ 2147483647))⟩⟩
    · have u10 : ar1.toInt ≤ 5 := t_ltu (t_nle h8) u7 rfl
      have l11 : 1 ≤ (gi a6 0).toInt := t_ltl (t_nle h8) l4 rfl
      refine ev_ic f_X11_isShip (nx := 19) (v := 1) rfl (by decide) rfl ?_
      refine ev_jmp f_X11_isShip (nx := 23) rfl rfl rfl ?_
      refine ev_retK1 f_X11_isShip rfl rfl rfl ?_
      refine ev_f f_X11_nextShip (t1 := 8) (t2 := 15) rfl rfl rfl (by decide) ?_
      refine ev_loc f_X11_nextShip (nx := 16) rfl rfl rfl rfl ?_
      refine ev_getR f_X11_nextShip (nx := 19) rfl (hI.wf.s rfl) rfl rfl (hI.wf.r rfl) rfl rfl ?_
      refine ev_loc f_X11_nextShip (nx := 20) rfl rfl rfl rfl ?_
      refine ev_getR f_X11_nextShip (nx := 23) (v := .ref a5) rfl (hI.wf.s rfl) rfl rfl e5 rfl rfl ?_
      refine ev_ic f_X11_nextShip (nx := 24) (v := 0) rfl (by decide) rfl ?_
      refine ev_ic f_X11_nextShip (nx := 25) (v := -1) rfl (by decide) rfl ?_
      refine ev_ic f_X11_nextShip (nx := 26) (v := 0) rfl (by decide) rfl ?_
      refine ev_c0 f_X11_nextShip (nx := 29) (r := []) rfl rfl rfl rfl rfl rfl rfl (c_takeShips hI (a5) p5 (0) ((-1)) (0)) rfl hX rfl (fun gi12 gl12 gr12 hI hX hC12 => ?_)
      replace p5 := p5.ext hC12.2
      replace p6 := p6.ext hC12.2
      refine ev_loc f_X11_nextShip (nx := 30) rfl rfl rfl rfl ?_
      refine ev_loc f_X11_nextShip (nx := 31) rfl rfl rfl rfl ?_
      refine ev_getR f_X11_nextShip (nx := 34) rfl (hI.wf.s rfl) rfl rfl (hI.wf.r rfl) rfl rfl ?_
      refine ev_getR f_X11_nextShip (nx := 37) rfl (hI.wf.s rfl) rfl rfl (hI.wf.r rfl) rfl rfl ?_
      refine ev_getR f_X11_nextShip (nx := 40) rfl (hI.wf.s rfl) rfl rfl (hI.wf.r rfl) rfl rfl ?_
      refine ev_loc f_X11_nextShip (nx := 41) rfl rfl rfl rfl ?_
      refine ev_ialdT f_X11_nextShip (nx := 42) rfl (hI.wf.s rfl) l4 (by decide) u10 (by decide) rfl (fun w13 e13 => ?_)
      refine ev_inV2 f_X11_nextShip (nx := 45) (lo2 := [(0, .ref 0), (1, .int w13)]) rfl rfl rfl rfl f_X11_answer (hI.wf.s rfl) rfl rfl rfl rfl rfl ?_
      refine ev_loc f_X11_answer (nx := 1) rfl rfl rfl rfl ?_
      refine ev_ic f_X11_answer (nx := 2) (v := 0) rfl (by decide) rfl ?_
      refine ev_putIT f_X11_answer (nx := 5) rfl (hI.wf.s rfl) rfl rfl rfl (hI.put0 (hI.wf.s rfl) rfl rfl) (hX.upI rfl) (fun g14 e14 hI hX => ?_)
      refine ev_loc f_X11_answer (nx := 6) rfl rfl rfl rfl ?_
      refine ev_retK1 f_X11_answer rfl rfl rfl ?_
      exact ev_ret f_X11_nextShip rfl rfl rfl ⟨_, _, _, rfl, hI, hX, ⟨_, rfl, (t_lo w13), (t_hi w13)⟩⟩
noncomputable def wl_h_nextCart : List (Nat × Nat) := [(0, 0), (35, 0), (36, 9999), (37, 9999), (38, 9999), (39, 9999), (40, 9999)]
theorem c_h_nextCart {X : x_Ext} {d : Nat} {sh : List (Nat ⊕ (Nat × Nat))} {gi : Nat → Nat → Int32} {gl : Nat → Nat → Int64} {gr : Nat → Nat → Value} (hI : t_I sh gi gr) (ar1 : Int32) : x_Me X (d + 4) n_X11_nextCart [.ref 0, .int ar1] (sh, gi, gl, gr) (t_P wl_h_nextCart sh gi gl gr (t_Ri (-2147483648) 2147483647)) := by
  have hX : t_X wl_h_nextCart sh gi gl gr gi gl gr := t_X.rf
  refine me_i f_X11_nextCart (hI.wf.s rfl) rfl rfl rfl ?_
  refine ev_loc f_X11_nextCart (nx := 1) rfl rfl rfl rfl ?_
  refine ev_loc f_X11_nextCart (nx := 2) rfl rfl rfl rfl ?_
  refine ev_inV2 f_X11_nextCart (nx := 5) (lo2 := [(0, .ref 0), (1, .int ar1)]) rfl rfl rfl rfl f_X11_isCart (hI.wf.s rfl) rfl rfl rfl rfl rfl ?_
  refine ev_loc f_X11_isCart (nx := 1) rfl rfl rfl rfl ?_
  refine ev_if f_X11_isCart (t1 := 22) (t2 := 4) rfl rfl rfl (fun h1 => ?_) (fun h1 => ?_)
  · have u2 : ar1.toInt ≤ (-1) := t_ltu h1 (by decide : (0:Int32).toInt ≤ (0:Int)) rfl
    refine ev_ic f_X11_isCart (nx := 23) (v := 0) rfl (by decide) rfl ?_
    refine ev_retK1 f_X11_isCart rfl rfl rfl ?_
    refine ev_t f_X11_nextCart (t1 := 8) (t2 := 15) rfl rfl rfl (by decide) ?_
    refine ev_loc f_X11_nextCart (nx := 9) rfl rfl rfl rfl ?_
    refine ev_bp f_X11_nextCart (nx := 11) (v := 6) rfl (by decide) rfl ?_
    refine ev_inV2 f_X11_nextCart (nx := 14) (lo2 := [(0, .ref 0), (1, .int 6)]) rfl rfl rfl rfl f_X11_refuse (hI.wf.s rfl) rfl rfl rfl rfl rfl ?_
    refine ev_loc f_X11_refuse (nx := 1) rfl rfl rfl rfl ?_
    refine ev_loc f_X11_refuse (nx := 2) rfl rfl rfl rfl ?_
    refine ev_putIT f_X11_refuse (nx := 5) rfl (hI.wf.s rfl) rfl rfl rfl (hI.put0 (hI.wf.s rfl) rfl rfl) (hX.upI rfl) (fun g3 e3 hI hX => ?_)
    refine ev_ic f_X11_refuse (nx := 6) (v := -1) rfl (by decide) rfl ?_
    refine ev_retK1 f_X11_refuse rfl rfl rfl ?_
    exact ev_ret f_X11_nextCart rfl rfl rfl ⟨_, _, _, rfl, hI, hX, ⟨_, rfl, (Int.le_trans (by decide : ((-2147483648):Int) ≤ (-1)) (by decide : ((-1):Int) ≤ ((-1):Int32).toInt)), (Int.le_trans (by decide : ((-1):Int32).toInt ≤ ((-1):Int)) (by decide : ((-1):Int) ≤ 2147483647))⟩⟩
  · have l4 : 0 ≤ ar1.toInt := t_lel (t_nlt h1) (by decide : (0:Int) ≤ (0:Int32).toInt)
    refine ev_loc f_X11_isCart (nx := 5) rfl rfl rfl rfl ?_
    refine ev_loc f_X11_isCart (nx := 6) rfl rfl rfl rfl ?_
    obtain ⟨a5, e5, p5⟩ := hI.2.2.2.1.1
    refine ev_getR f_X11_isCart (nx := 9) rfl (hI.wf.s rfl) rfl rfl e5 rfl rfl ?_
    obtain ⟨a6, e6, p6⟩ := p5.2.2.2.2.2
    refine ev_getR f_X11_isCart (nx := 12) rfl p5.1 rfl rfl e6 rfl rfl ?_
    refine ev_getI f_X11_isCart (nx := 15) rfl p6.1 rfl rfl rfl ?_
    obtain ⟨l7, u7⟩ := hI.b p6.1 (t_bdK rfl : t_bd 3 0 = some (0, 6))
    refine ev_if f_X11_isCart (t1 := 22) (t2 := 18) rfl rfl rfl (fun h8 => ?_) (fun h8 => ?_)
    · refine ev_ic f_X11_isCart (nx := 23) (v := 0) rfl (by decide) rfl ?_
      refine ev_retK1 f_X11_isCart rfl rfl rfl ?_
      refine ev_t f_X11_nextCart (t1 := 8) (t2 := 15) rfl rfl rfl (by decide) ?_
      refine ev_loc f_X11_nextCart (nx := 9) rfl rfl rfl rfl ?_
      refine ev_bp f_X11_nextCart (nx := 11) (v := 6) rfl (by decide) rfl ?_
      refine ev_inV2 f_X11_nextCart (nx := 14) (lo2 := [(0, .ref 0), (1, .int 6)]) rfl rfl rfl rfl f_X11_refuse (hI.wf.s rfl) rfl rfl rfl rfl rfl ?_
      refine ev_loc f_X11_refuse (nx := 1) rfl rfl rfl rfl ?_
      refine ev_loc f_X11_refuse (nx := 2) rfl rfl rfl rfl ?_
      refine ev_putIT f_X11_refuse (nx := 5) rfl (hI.wf.s rfl) rfl rfl rfl (hI.put0 (hI.wf.s rfl) rfl rfl) (hX.upI rfl) (fun g9 e9 hI hX => ?_)
      refine ev_ic f_X11_refuse (nx := 6) (v := -1) rfl (by decide) rfl ?_
      refine ev_retK1 f_X11_refuse rfl rfl rfl ?_
      exact ev_ret f_X11_nextCart rfl rfl rfl ⟨_, _, _, rfl, hI, hX, ⟨_, rfl, (Int.le_trans (by decide : ((-2147483648):Int) ≤ (-1)) (by decide : ((-1):Int) ≤ ((-1):Int32).toInt)), (Int.le_trans (by decide : ((-1):Int32).toInt ≤ ((-1):Int)) (by decide : ((-1):Int) ≤ 2147483647))⟩⟩
    · have u10 : ar1.toInt ≤ 5 := t_ltu (t_nle h8) u7 rfl
      have l11 : 1 ≤ (gi a6 0).toInt := t_ltl (t_nle h8) l4 rfl
      refine ev_ic f_X11_isCart (nx := 19) (v := 1) rfl (by decide) rfl ?_
      refine ev_jmp f_X11_isCart (nx := 23) rfl rfl rfl ?_
      refine ev_retK1 f_X11_isCart rfl rfl rfl ?_
      refine ev_f f_X11_nextCart (t1 := 8) (t2 := 15) rfl rfl rfl (by decide) ?_
      refine ev_loc f_X11_nextCart (nx := 16) rfl rfl rfl rfl ?_
      refine ev_getR f_X11_nextCart (nx := 19) rfl (hI.wf.s rfl) rfl rfl (hI.wf.r rfl) rfl rfl ?_
      refine ev_loc f_X11_nextCart (nx := 20) rfl rfl rfl rfl ?_
      refine ev_getR f_X11_nextCart (nx := 23) (v := .ref a5) rfl (hI.wf.s rfl) rfl rfl e5 rfl rfl ?_
      refine ev_ic f_X11_nextCart (nx := 24) (v := -1) rfl (by decide) rfl ?_
      refine ev_c0 f_X11_nextCart (nx := 27) (r := []) rfl rfl rfl rfl rfl rfl rfl (c_takeCarts hI (a5) p5 ((-1))) rfl hX rfl (fun gi12 gl12 gr12 hI hX hC12 => ?_)
      replace p5 := p5.ext hC12.2
      replace p6 := p6.ext hC12.2
      refine ev_loc f_X11_nextCart (nx := 28) rfl rfl rfl rfl ?_
      refine ev_loc f_X11_nextCart (nx := 29) rfl rfl rfl rfl ?_
      refine ev_getR f_X11_nextCart (nx := 32) rfl (hI.wf.s rfl) rfl rfl (hI.wf.r rfl) rfl rfl ?_
      refine ev_getR f_X11_nextCart (nx := 35) rfl (hI.wf.s rfl) rfl rfl (hI.wf.r rfl) rfl rfl ?_
      refine ev_getR f_X11_nextCart (nx := 38) rfl (hI.wf.s rfl) rfl rfl (hI.wf.r rfl) rfl rfl ?_
      refine ev_loc f_X11_nextCart (nx := 39) rfl rfl rfl rfl ?_
      refine ev_ialdT f_X11_nextCart (nx := 40) rfl (hI.wf.s rfl) l4 (by decide) u10 (by decide) rfl (fun w13 e13 => ?_)
      refine ev_inV2 f_X11_nextCart (nx := 43) (lo2 := [(0, .ref 0), (1, .int w13)]) rfl rfl rfl rfl f_X11_answer (hI.wf.s rfl) rfl rfl rfl rfl rfl ?_
      refine ev_loc f_X11_answer (nx := 1) rfl rfl rfl rfl ?_
      refine ev_ic f_X11_answer (nx := 2) (v := 0) rfl (by decide) rfl ?_
      refine ev_putIT f_X11_answer (nx := 5) rfl (hI.wf.s rfl) rfl rfl rfl (hI.put0 (hI.wf.s rfl) rfl rfl) (hX.upI rfl) (fun g14 e14 hI hX => ?_)
      refine ev_loc f_X11_answer (nx := 6) rfl rfl rfl rfl ?_
      refine ev_retK1 f_X11_answer rfl rfl rfl ?_
      exact ev_ret f_X11_nextCart rfl rfl rfl ⟨_, _, _, rfl, hI, hX, ⟨_, rfl, (t_lo w13), (t_hi w13)⟩⟩
noncomputable def wl_h_sound : List (Nat × Nat) := [(0, 0)]
theorem c_h_sound {X : x_Ext} {d : Nat} {sh : List (Nat ⊕ (Nat × Nat))} {gi : Nat → Nat → Int32} {gl : Nat → Nat → Int64} {gr : Nat → Nat → Value} (hI : t_I sh gi gr) (ar1 : Int32) : x_Me X (d + 2) n_X11_sound [.ref 0, .int ar1] (sh, gi, gl, gr) (t_P wl_h_sound sh gi gl gr t_Rl) := by
  have hX : t_X wl_h_sound sh gi gl gr gi gl gr := t_X.rf
  refine me_i f_X11_sound (hI.wf.s rfl) rfl rfl rfl ?_
  refine ev_loc f_X11_sound (nx := 1) rfl rfl rfl rfl ?_
  refine ev_loc f_X11_sound (nx := 2) rfl rfl rfl rfl ?_
  refine ev_inV2 f_X11_sound (nx := 5) (lo2 := [(0, .ref 0), (1, .int ar1)]) rfl rfl rfl rfl f_X11_isPort (hI.wf.s rfl) rfl rfl rfl rfl rfl ?_
  refine ev_loc f_X11_isPort (nx := 1) rfl rfl rfl rfl ?_
  refine ev_if f_X11_isPort (t1 := 19) (t2 := 4) rfl rfl rfl (fun h1 => ?_) (fun h1 => ?_)
  · have u2 : ar1.toInt ≤ (-1) := t_ltu h1 (by decide : (0:Int32).toInt ≤ (0:Int)) rfl
    refine ev_ic f_X11_isPort (nx := 20) (v := 0) rfl (by decide) rfl ?_
    refine ev_retK1 f_X11_isPort rfl rfl rfl ?_
    refine ev_t f_X11_sound (t1 := 24) (t2 := 8) rfl rfl rfl (by decide) ?_
    refine ev_loc f_X11_sound (nx := 25) rfl rfl rfl rfl ?_
    refine ev_ic f_X11_sound (nx := 26) (v := 1) rfl (by decide) rfl ?_
    refine ev_inV2 f_X11_sound (nx := 29) (lo2 := [(0, .ref 0), (1, .int 1)]) rfl rfl rfl rfl f_X11_refuse (hI.wf.s rfl) rfl rfl rfl rfl rfl ?_
    refine ev_loc f_X11_refuse (nx := 1) rfl rfl rfl rfl ?_
    refine ev_loc f_X11_refuse (nx := 2) rfl rfl rfl rfl ?_
    refine ev_putIT f_X11_refuse (nx := 5) rfl (hI.wf.s rfl) rfl rfl rfl (hI.put0 (hI.wf.s rfl) rfl rfl) (hX.upI rfl) (fun g3 e3 hI hX => ?_)
    refine ev_ic f_X11_refuse (nx := 6) (v := -1) rfl (by decide) rfl ?_
    refine ev_retK1 f_X11_refuse rfl rfl rfl ?_
    refine ev_aluvL f_X11_sound (nx := 30) (w := -1) rfl rfl rfl (by decide) rfl ?_
    exact ev_ret f_X11_sound rfl rfl rfl ⟨_, _, _, rfl, hI, hX, ⟨_, rfl⟩⟩
  · have l4 : 0 ≤ ar1.toInt := t_lel (t_nlt h1) (by decide : (0:Int) ≤ (0:Int32).toInt)
    refine ev_loc f_X11_isPort (nx := 5) rfl rfl rfl rfl ?_
    refine ev_loc f_X11_isPort (nx := 6) rfl rfl rfl rfl ?_
    obtain ⟨a5, e5, p5⟩ := hI.2.2.2.1.1
    refine ev_getR f_X11_isPort (nx := 9) rfl (hI.wf.s rfl) rfl rfl e5 rfl rfl ?_
    refine ev_getI f_X11_isPort (nx := 12) rfl p5.1 rfl rfl rfl ?_
    obtain ⟨l6, u6⟩ := hI.b p5.1 (t_bdK rfl : t_bd 4 0 = some (0, 6))
    refine ev_if f_X11_isPort (t1 := 19) (t2 := 15) rfl rfl rfl (fun h7 => ?_) (fun h7 => ?_)
    · refine ev_ic f_X11_isPort (nx := 20) (v := 0) rfl (by decide) rfl ?_
      refine ev_retK1 f_X11_isPort rfl rfl rfl ?_
      refine ev_t f_X11_sound (t1 := 24) (t2 := 8) rfl rfl rfl (by decide) ?_
      refine ev_loc f_X11_sound (nx := 25) rfl rfl rfl rfl ?_
      refine ev_ic f_X11_sound (nx := 26) (v := 1) rfl (by decide) rfl ?_
      refine ev_inV2 f_X11_sound (nx := 29) (lo2 := [(0, .ref 0), (1, .int 1)]) rfl rfl rfl rfl f_X11_refuse (hI.wf.s rfl) rfl rfl rfl rfl rfl ?_
      refine ev_loc f_X11_refuse (nx := 1) rfl rfl rfl rfl ?_
      refine ev_loc f_X11_refuse (nx := 2) rfl rfl rfl rfl ?_
      refine ev_putIT f_X11_refuse (nx := 5) rfl (hI.wf.s rfl) rfl rfl rfl (hI.put0 (hI.wf.s rfl) rfl rfl) (hX.upI rfl) (fun g8 e8 hI hX => ?_)
      refine ev_ic f_X11_refuse (nx := 6) (v := -1) rfl (by decide) rfl ?_
      refine ev_retK1 f_X11_refuse rfl rfl rfl ?_
      refine ev_aluvL f_X11_sound (nx := 30) (w := -1) rfl rfl rfl (by decide) rfl ?_
      exact ev_ret f_X11_sound rfl rfl rfl ⟨_, _, _, rfl, hI, hX, ⟨_, rfl⟩⟩
    · have u9 : ar1.toInt ≤ 5 := t_ltu (t_nle h7) u6 rfl
      have l10 : 1 ≤ (gi a5 0).toInt := t_ltl (t_nle h7) l4 rfl
      refine ev_ic f_X11_isPort (nx := 16) (v := 1) rfl (by decide) rfl ?_
      refine ev_jmp f_X11_isPort (nx := 20) rfl rfl rfl ?_
      refine ev_retK1 f_X11_isPort rfl rfl rfl ?_
      refine ev_f f_X11_sound (t1 := 24) (t2 := 8) rfl rfl rfl (by decide) ?_
      refine ev_loc f_X11_sound (nx := 9) rfl rfl rfl rfl ?_
      refine ev_loc f_X11_sound (nx := 10) rfl rfl rfl rfl ?_
      refine ev_getR f_X11_sound (nx := 13) (v := .ref a5) rfl (hI.wf.s rfl) rfl rfl e5 rfl rfl ?_
      obtain ⟨a11, e11, s11, o11⟩ := p5.2.2.1
      refine ev_getR f_X11_sound (nx := 16) rfl p5.1 rfl rfl e11 rfl rfl ?_
      refine ev_loc f_X11_sound (nx := 17) rfl rfl rfl rfl ?_
      refine ev_laldT f_X11_sound (nx := 18) rfl s11 l4 (by decide) u9 (by decide) rfl (fun w12 e12 => ?_)
      refine ev_inV2 f_X11_sound (nx := 21) (lo2 := [(0, .ref 0), (1, .long w12)]) rfl rfl rfl rfl f_X11_answerLong (hI.wf.s rfl) rfl rfl rfl rfl rfl ?_
      refine ev_loc f_X11_answerLong (nx := 1) rfl rfl rfl rfl ?_
      refine ev_ic f_X11_answerLong (nx := 2) (v := 0) rfl (by decide) rfl ?_
      refine ev_putIT f_X11_answerLong (nx := 5) rfl (hI.wf.s rfl) rfl rfl rfl (hI.put0 (hI.wf.s rfl) rfl rfl) (hX.upI rfl) (fun g13 e13 hI hX => ?_)
      refine ev_loc f_X11_answerLong (nx := 6) rfl rfl rfl rfl ?_
      refine ev_retK1 f_X11_answerLong rfl rfl rfl ?_
      refine ev_jmp f_X11_sound (nx := 30) rfl rfl rfl ?_
      exact ev_ret f_X11_sound rfl rfl rfl ⟨_, _, _, rfl, hI, hX, ⟨_, rfl⟩⟩
noncomputable def wl_h_heard : List (Nat × Nat) := [(0, 0)]
theorem c_h_heard {X : x_Ext} {d : Nat} {sh : List (Nat ⊕ (Nat × Nat))} {gi : Nat → Nat → Int32} {gl : Nat → Nat → Int64} {gr : Nat → Nat → Value} (hI : t_I sh gi gr) (ar1 : Int32) : x_Me X (d + 3) n_X11_heard [.ref 0, .int ar1] (sh, gi, gl, gr) (t_P wl_h_heard sh gi gl gr t_Rl) := by
  have hX : t_X wl_h_heard sh gi gl gr gi gl gr := t_X.rf
  refine me_i f_X11_heard (hI.wf.s rfl) rfl rfl rfl ?_
  refine ev_loc f_X11_heard (nx := 1) rfl rfl rfl rfl ?_
  refine ev_loc f_X11_heard (nx := 2) rfl rfl rfl rfl ?_
  refine ev_inV2 f_X11_heard (nx := 5) (lo2 := [(0, .ref 0), (1, .int ar1)]) rfl rfl rfl rfl f_X11_isPort (hI.wf.s rfl) rfl rfl rfl rfl rfl ?_
  refine ev_loc f_X11_isPort (nx := 1) rfl rfl rfl rfl ?_
  refine ev_if f_X11_isPort (t1 := 19) (t2 := 4) rfl rfl rfl (fun h1 => ?_) (fun h1 => ?_)
  · have u2 : ar1.toInt ≤ (-1) := t_ltu h1 (by decide : (0:Int32).toInt ≤ (0:Int)) rfl
    refine ev_ic f_X11_isPort (nx := 20) (v := 0) rfl (by decide) rfl ?_
    refine ev_retK1 f_X11_isPort rfl rfl rfl ?_
    refine ev_t f_X11_heard (t1 := 23) (t2 := 8) rfl rfl rfl (by decide) ?_
    refine ev_loc f_X11_heard (nx := 24) rfl rfl rfl rfl ?_
    refine ev_ic f_X11_heard (nx := 25) (v := 1) rfl (by decide) rfl ?_
    refine ev_inV2 f_X11_heard (nx := 28) (lo2 := [(0, .ref 0), (1, .int 1)]) rfl rfl rfl rfl f_X11_refuse (hI.wf.s rfl) rfl rfl rfl rfl rfl ?_
    refine ev_loc f_X11_refuse (nx := 1) rfl rfl rfl rfl ?_
    refine ev_loc f_X11_refuse (nx := 2) rfl rfl rfl rfl ?_
    refine ev_putIT f_X11_refuse (nx := 5) rfl (hI.wf.s rfl) rfl rfl rfl (hI.put0 (hI.wf.s rfl) rfl rfl) (hX.upI rfl) (fun g3 e3 hI hX => ?_)
    refine ev_ic f_X11_refuse (nx := 6) (v := -1) rfl (by decide) rfl ?_
    refine ev_retK1 f_X11_refuse rfl rfl rfl ?_
    refine ev_aluvL f_X11_heard (nx := 29) (w := -1) rfl rfl rfl (by decide) rfl ?_
    exact ev_ret f_X11_heard rfl rfl rfl ⟨_, _, _, rfl, hI, hX, ⟨_, rfl⟩⟩
  · have l4 : 0 ≤ ar1.toInt := t_lel (t_nlt h1) (by decide : (0:Int) ≤ (0:Int32).toInt)
    refine ev_loc f_X11_isPort (nx := 5) rfl rfl rfl rfl ?_
    refine ev_loc f_X11_isPort (nx := 6) rfl rfl rfl rfl ?_
    obtain ⟨a5, e5, p5⟩ := hI.2.2.2.1.1
    refine ev_getR f_X11_isPort (nx := 9) rfl (hI.wf.s rfl) rfl rfl e5 rfl rfl ?_
    refine ev_getI f_X11_isPort (nx := 12) rfl p5.1 rfl rfl rfl ?_
    obtain ⟨l6, u6⟩ := hI.b p5.1 (t_bdK rfl : t_bd 4 0 = some (0, 6))
    refine ev_if f_X11_isPort (t1 := 19) (t2 := 15) rfl rfl rfl (fun h7 => ?_) (fun h7 => ?_)
    · refine ev_ic f_X11_isPort (nx := 20) (v := 0) rfl (by decide) rfl ?_
      refine ev_retK1 f_X11_isPort rfl rfl rfl ?_
      refine ev_t f_X11_heard (t1 := 23) (t2 := 8) rfl rfl rfl (by decide) ?_
      refine ev_loc f_X11_heard (nx := 24) rfl rfl rfl rfl ?_
      refine ev_ic f_X11_heard (nx := 25) (v := 1) rfl (by decide) rfl ?_
      refine ev_inV2 f_X11_heard (nx := 28) (lo2 := [(0, .ref 0), (1, .int 1)]) rfl rfl rfl rfl f_X11_refuse (hI.wf.s rfl) rfl rfl rfl rfl rfl ?_
      refine ev_loc f_X11_refuse (nx := 1) rfl rfl rfl rfl ?_
      refine ev_loc f_X11_refuse (nx := 2) rfl rfl rfl rfl ?_
      refine ev_putIT f_X11_refuse (nx := 5) rfl (hI.wf.s rfl) rfl rfl rfl (hI.put0 (hI.wf.s rfl) rfl rfl) (hX.upI rfl) (fun g8 e8 hI hX => ?_)
      refine ev_ic f_X11_refuse (nx := 6) (v := -1) rfl (by decide) rfl ?_
      refine ev_retK1 f_X11_refuse rfl rfl rfl ?_
      refine ev_aluvL f_X11_heard (nx := 29) (w := -1) rfl rfl rfl (by decide) rfl ?_
      exact ev_ret f_X11_heard rfl rfl rfl ⟨_, _, _, rfl, hI, hX, ⟨_, rfl⟩⟩
    · have u9 : ar1.toInt ≤ 5 := t_ltu (t_nle h7) u6 rfl
      have l10 : 1 ≤ (gi a5 0).toInt := t_ltl (t_nle h7) l4 rfl
      refine ev_ic f_X11_isPort (nx := 16) (v := 1) rfl (by decide) rfl ?_
      refine ev_jmp f_X11_isPort (nx := 20) rfl rfl rfl ?_
      refine ev_retK1 f_X11_isPort rfl rfl rfl ?_
      refine ev_f f_X11_heard (t1 := 23) (t2 := 8) rfl rfl rfl (by decide) ?_
      refine ev_loc f_X11_heard (nx := 9) rfl rfl rfl rfl ?_
      refine ev_loc f_X11_heard (nx := 10) rfl rfl rfl rfl ?_
      refine ev_getR f_X11_heard (nx := 13) (v := .ref a5) rfl (hI.wf.s rfl) rfl rfl e5 rfl rfl ?_
      refine ev_loc f_X11_heard (nx := 14) rfl rfl rfl rfl ?_
      refine ev_cL f_X11_heard (nx := 17) (r := [.ref 0]) rfl rfl rfl rfl rfl rfl rfl (c_heardOf hI (a5) p5 (ar1)) rfl hX rfl (fun w11 gi11 gl11 gr11 hI hX hC11 => ?_)
      replace p5 := p5.ext hC11.2
      refine ev_inV2 f_X11_heard (nx := 20) (lo2 := [(0, .ref 0), (1, .long w11)]) rfl rfl rfl rfl f_X11_answerLong (hI.wf.s rfl) rfl rfl rfl rfl rfl ?_
      refine ev_loc f_X11_answerLong (nx := 1) rfl rfl rfl rfl ?_
      refine ev_ic f_X11_answerLong (nx := 2) (v := 0) rfl (by decide) rfl ?_
      refine ev_putIT f_X11_answerLong (nx := 5) rfl (hI.wf.s rfl) rfl rfl rfl (hI.put0 (hI.wf.s rfl) rfl rfl) (hX.upI rfl) (fun g12 e12 hI hX => ?_)
      refine ev_loc f_X11_answerLong (nx := 6) rfl rfl rfl rfl ?_
      refine ev_retK1 f_X11_answerLong rfl rfl rfl ?_
      refine ev_jmp f_X11_heard (nx := 29) rfl rfl rfl ?_
      exact ev_ret f_X11_heard rfl rfl rfl ⟨_, _, _, rfl, hI, hX, ⟨_, rfl⟩⟩
noncomputable def wl_h_together : List (Nat × Nat) := [(0, 0)]
theorem c_h_together {X : x_Ext} {d : Nat} {sh : List (Nat ⊕ (Nat × Nat))} {gi : Nat → Nat → Int32} {gl : Nat → Nat → Int64} {gr : Nat → Nat → Value} (hI : t_I sh gi gr) (ar1 : Int32) (ar2 : Int32) (ar3 : Int32) : x_Me X (d + 4) n_X11_together [.ref 0, .int ar1, .int ar2, .int ar3] (sh, gi, gl, gr) (t_P wl_h_together sh gi gl gr t_Rl) := by
  have hX : t_X wl_h_together sh gi gl gr gi gl gr := t_X.rf
  refine me_i f_X11_together (hI.wf.s rfl) rfl rfl rfl ?_
  refine ev_loc f_X11_together (nx := 1) rfl rfl rfl rfl ?_
  refine ev_loc f_X11_together (nx := 2) rfl rfl rfl rfl ?_
  refine ev_inV2 f_X11_together (nx := 5) (lo2 := [(0, .ref 0), (1, .int ar1)]) rfl rfl rfl rfl f_X11_isPort (hI.wf.s rfl) rfl rfl rfl rfl rfl ?_
  refine ev_loc f_X11_isPort (nx := 1) rfl rfl rfl rfl ?_
  refine ev_if f_X11_isPort (t1 := 19) (t2 := 4) rfl rfl rfl (fun h1 => ?_) (fun h1 => ?_)
  · have u2 : ar1.toInt ≤ (-1) := t_ltu h1 (by decide : (0:Int32).toInt ≤ (0:Int)) rfl
    refine ev_ic f_X11_isPort (nx := 20) (v := 0) rfl (by decide) rfl ?_
    refine ev_retK1 f_X11_isPort rfl rfl rfl ?_
    refine ev_t f_X11_together (t1 := 26) (t2 := 8) rfl rfl rfl (by decide) ?_
    refine ev_loc f_X11_together (nx := 27) rfl rfl rfl rfl ?_
    refine ev_ic f_X11_together (nx := 28) (v := 1) rfl (by decide) rfl ?_
    refine ev_inV2 f_X11_together (nx := 31) (lo2 := [(0, .ref 0), (1, .int 1)]) rfl rfl rfl rfl f_X11_refuse (hI.wf.s rfl) rfl rfl rfl rfl rfl ?_
    refine ev_loc f_X11_refuse (nx := 1) rfl rfl rfl rfl ?_
    refine ev_loc f_X11_refuse (nx := 2) rfl rfl rfl rfl ?_
    refine ev_putIT f_X11_refuse (nx := 5) rfl (hI.wf.s rfl) rfl rfl rfl (hI.put0 (hI.wf.s rfl) rfl rfl) (hX.upI rfl) (fun g3 e3 hI hX => ?_)
    refine ev_ic f_X11_refuse (nx := 6) (v := -1) rfl (by decide) rfl ?_
    refine ev_retK1 f_X11_refuse rfl rfl rfl ?_
    refine ev_aluvL f_X11_together (nx := 32) (w := -1) rfl rfl rfl (by decide) rfl ?_
    exact ev_ret f_X11_together rfl rfl rfl ⟨_, _, _, rfl, hI, hX, ⟨_, rfl⟩⟩
  · have l4 : 0 ≤ ar1.toInt := t_lel (t_nlt h1) (by decide : (0:Int) ≤ (0:Int32).toInt)
    refine ev_loc f_X11_isPort (nx := 5) rfl rfl rfl rfl ?_
    refine ev_loc f_X11_isPort (nx := 6) rfl rfl rfl rfl ?_
    obtain ⟨a5, e5, p5⟩ := hI.2.2.2.1.1
    refine ev_getR f_X11_isPort (nx := 9) rfl (hI.wf.s rfl) rfl rfl e5 rfl rfl ?_
    refine ev_getI f_X11_isPort (nx := 12) rfl p5.1 rfl rfl rfl ?_
    obtain ⟨l6, u6⟩ := hI.b p5.1 (t_bdK rfl : t_bd 4 0 = some (0, 6))
    refine ev_if f_X11_isPort (t1 := 19) (t2 := 15) rfl rfl rfl (fun h7 => ?_) (fun h7 => ?_)
    · refine ev_ic f_X11_isPort (nx := 20) (v := 0) rfl (by decide) rfl ?_
      refine ev_retK1 f_X11_isPort rfl rfl rfl ?_
      refine ev_t f_X11_together (t1 := 26) (t2 := 8) rfl rfl rfl (by decide) ?_
      refine ev_loc f_X11_together (nx := 27) rfl rfl rfl rfl ?_
      refine ev_ic f_X11_together (nx := 28) (v := 1) rfl (by decide) rfl ?_
      refine ev_inV2 f_X11_together (nx := 31) (lo2 := [(0, .ref 0), (1, .int 1)]) rfl rfl rfl rfl f_X11_refuse (hI.wf.s rfl) rfl rfl rfl rfl rfl ?_
      refine ev_loc f_X11_refuse (nx := 1) rfl rfl rfl rfl ?_
      refine ev_loc f_X11_refuse (nx := 2) rfl rfl rfl rfl ?_
      refine ev_putIT f_X11_refuse (nx := 5) rfl (hI.wf.s rfl) rfl rfl rfl (hI.put0 (hI.wf.s rfl) rfl rfl) (hX.upI rfl) (fun g8 e8 hI hX => ?_)
      refine ev_ic f_X11_refuse (nx := 6) (v := -1) rfl (by decide) rfl ?_
      refine ev_retK1 f_X11_refuse rfl rfl rfl ?_
      refine ev_aluvL f_X11_together (nx := 32) (w := -1) rfl rfl rfl (by decide) rfl ?_
      exact ev_ret f_X11_together rfl rfl rfl ⟨_, _, _, rfl, hI, hX, ⟨_, rfl⟩⟩
    · have u9 : ar1.toInt ≤ 5 := t_ltu (t_nle h7) u6 rfl
      have l10 : 1 ≤ (gi a5 0).toInt := t_ltl (t_nle h7) l4 rfl
      refine ev_ic f_X11_isPort (nx := 16) (v := 1) rfl (by decide) rfl ?_
      refine ev_jmp f_X11_isPort (nx := 20) rfl rfl rfl ?_
      refine ev_retK1 f_X11_isPort rfl rfl rfl ?_
      refine ev_f f_X11_together (t1 := 26) (t2 := 8) rfl rfl rfl (by decide) ?_
      refine ev_loc f_X11_together (nx := 9) rfl rfl rfl rfl ?_
      refine ev_loc f_X11_together (nx := 10) rfl rfl rfl rfl ?_
      refine ev_inV2 f_X11_together (nx := 13) (lo2 := [(0, .ref 0), (1, .int ar2)]) rfl rfl rfl rfl f_X11_isPort (hI.wf.s rfl) rfl rfl rfl rfl rfl ?_
      refine ev_loc f_X11_isPort (nx := 1) rfl rfl rfl rfl ?_
      refine ev_if f_X11_isPort (t1 := 19) (t2 := 4) rfl rfl rfl (fun h11 => ?_) (fun h11 => ?_)
      · have u12 : ar2.toInt ≤ (-1) := t_ltu h11 (by decide : (0:Int32).toInt ≤ (0:Int)) rfl
        refine ev_ic f_X11_isPort (nx := 20) (v := 0) rfl (by decide) rfl ?_
        refine ev_retK1 f_X11_isPort rfl rfl rfl ?_
        refine ev_t f_X11_together (t1 := 26) (t2 := 16) rfl rfl rfl (by decide) ?_
        refine ev_loc f_X11_together (nx := 27) rfl rfl rfl rfl ?_
        refine ev_ic f_X11_together (nx := 28) (v := 1) rfl (by decide) rfl ?_
        refine ev_inV2 f_X11_together (nx := 31) (lo2 := [(0, .ref 0), (1, .int 1)]) rfl rfl rfl rfl f_X11_refuse (hI.wf.s rfl) rfl rfl rfl rfl rfl ?_
        refine ev_loc f_X11_refuse (nx := 1) rfl rfl rfl rfl ?_
        refine ev_loc f_X11_refuse (nx := 2) rfl rfl rfl rfl ?_
        refine ev_putIT f_X11_refuse (nx := 5) rfl (hI.wf.s rfl) rfl rfl rfl (hI.put0 (hI.wf.s rfl) rfl rfl) (hX.upI rfl) (fun g13 e13 hI hX => ?_)
        refine ev_ic f_X11_refuse (nx := 6) (v := -1) rfl (by decide) rfl ?_
        refine ev_retK1 f_X11_refuse rfl rfl rfl ?_
        refine ev_aluvL f_X11_together (nx := 32) (w := -1) rfl rfl rfl (by decide) rfl ?_
        exact ev_ret f_X11_together rfl rfl rfl ⟨_, _, _, rfl, hI, hX, ⟨_, rfl⟩⟩
      · have l14 : 0 ≤ ar2.toInt := t_lel (t_nlt h11) (by decide : (0:Int) ≤ (0:Int32).toInt)
        refine ev_loc f_X11_isPort (nx := 5) rfl rfl rfl rfl ?_
        refine ev_loc f_X11_isPort (nx := 6) rfl rfl rfl rfl ?_
        refine ev_getR f_X11_isPort (nx := 9) (v := .ref a5) rfl (hI.wf.s rfl) rfl rfl e5 rfl rfl ?_
        refine ev_gvI f_X11_isPort (nx := 12) (w := (gi a5 0)) rfl p5.1 rfl rfl rfl rfl ?_
        refine ev_if f_X11_isPort (t1 := 19) (t2 := 15) rfl rfl rfl (fun h15 => ?_) (fun h15 => ?_)
        · have l16 : 1 ≤ ar2.toInt := t_lel h15 l10
          refine ev_ic f_X11_isPort (nx := 20) (v := 0) rfl (by decide) rfl ?_
          refine ev_retK1 f_X11_isPort rfl rfl rfl ?_
          refine ev_t f_X11_together (t1 := 26) (t2 := 16) rfl rfl rfl (by decide) ?_
          refine ev_loc f_X11_together (nx := 27) rfl rfl rfl rfl ?_
          refine ev_ic f_X11_together (nx := 28) (v := 1) rfl (by decide) rfl ?_
          refine ev_inV2 f_X11_together (nx := 31) (lo2 := [(0, .ref 0), (1, .int 1)]) rfl rfl rfl rfl f_X11_refuse (hI.wf.s rfl) rfl rfl rfl rfl rfl ?_
          refine ev_loc f_X11_refuse (nx := 1) rfl rfl rfl rfl ?_
          refine ev_loc f_X11_refuse (nx := 2) rfl rfl rfl rfl ?_
          refine ev_putIT f_X11_refuse (nx := 5) rfl (hI.wf.s rfl) rfl rfl rfl (hI.put0 (hI.wf.s rfl) rfl rfl) (hX.upI rfl) (fun g17 e17 hI hX => ?_)
          refine ev_ic f_X11_refuse (nx := 6) (v := -1) rfl (by decide) rfl ?_
          refine ev_retK1 f_X11_refuse rfl rfl rfl ?_
          refine ev_aluvL f_X11_together (nx := 32) (w := -1) rfl rfl rfl (by decide) rfl ?_
          exact ev_ret f_X11_together rfl rfl rfl ⟨_, _, _, rfl, hI, hX, ⟨_, rfl⟩⟩
        · have u18 : ar2.toInt ≤ 5 := t_ltu (t_nle h15) u6 rfl
          refine ev_ic f_X11_isPort (nx := 16) (v := 1) rfl (by decide) rfl ?_
          refine ev_jmp f_X11_isPort (nx := 20) rfl rfl rfl ?_
          refine ev_retK1 f_X11_isPort rfl rfl rfl ?_
          refine ev_f f_X11_together (t1 := 26) (t2 := 16) rfl rfl rfl (by decide) ?_
          refine ev_loc f_X11_together (nx := 17) rfl rfl rfl rfl ?_
          refine ev_if f_X11_together (t1 := 26) (t2 := 20) rfl rfl rfl (fun h19 => ?_) (fun h19 => ?_)
          · have u20 : ar3.toInt ≤ (-1) := t_ltu h19 (by decide : (0:Int32).toInt ≤ (0:Int)) rfl
            refine ev_loc f_X11_together (nx := 27) rfl rfl rfl rfl ?_
            refine ev_ic f_X11_together (nx := 28) (v := 1) rfl (by decide) rfl ?_
            refine ev_inV2 f_X11_together (nx := 31) (lo2 := [(0, .ref 0), (1, .int 1)]) rfl rfl rfl rfl f_X11_refuse (hI.wf.s rfl) rfl rfl rfl rfl rfl ?_
            refine ev_loc f_X11_refuse (nx := 1) rfl rfl rfl rfl ?_
            refine ev_loc f_X11_refuse (nx := 2) rfl rfl rfl rfl ?_
            refine ev_putIT f_X11_refuse (nx := 5) rfl (hI.wf.s rfl) rfl rfl rfl (hI.put0 (hI.wf.s rfl) rfl rfl) (hX.upI rfl) (fun g21 e21 hI hX => ?_)
            refine ev_ic f_X11_refuse (nx := 6) (v := -1) rfl (by decide) rfl ?_
            refine ev_retK1 f_X11_refuse rfl rfl rfl ?_
            refine ev_aluvL f_X11_together (nx := 32) (w := -1) rfl rfl rfl (by decide) rfl ?_
            exact ev_ret f_X11_together rfl rfl rfl ⟨_, _, _, rfl, hI, hX, ⟨_, rfl⟩⟩
          · have l22 : 0 ≤ ar3.toInt := t_lel (t_nlt h19) (by decide : (0:Int) ≤ (0:Int32).toInt)
            refine ev_loc f_X11_together (nx := 21) rfl rfl rfl rfl ?_
            refine ev_bp f_X11_together (nx := 23) (v := 12) rfl (by decide) rfl ?_
            refine ev_if f_X11_together (t1 := 33) (t2 := 26) rfl rfl rfl (fun h23 => ?_) (fun h23 => ?_)
            · have u24 : ar3.toInt ≤ 12 := t_leu h23 (by decide : (12:Int32).toInt ≤ (12:Int))
              refine ev_loc f_X11_together (nx := 34) rfl rfl rfl rfl ?_
              refine ev_loc f_X11_together (nx := 35) rfl rfl rfl rfl ?_
              refine ev_getR f_X11_together (nx := 38) (v := .ref a5) rfl (hI.wf.s rfl) rfl rfl e5 rfl rfl ?_
              refine ev_loc f_X11_together (nx := 39) rfl rfl rfl rfl ?_
              refine ev_loc f_X11_together (nx := 40) rfl rfl rfl rfl ?_
              refine ev_loc f_X11_together (nx := 41) rfl rfl rfl rfl ?_
              refine ev_inV4 f_X11_together (nx := 44) (lo2 := [(0, .ref a5), (1, .int ar1), (2, .int ar2), (3, .int ar3)]) rfl rfl rfl rfl f_X5_bothHeard p5.1 rfl rfl rfl rfl rfl ?_
              refine ev_loc f_X5_bothHeard (nx := 1) rfl rfl rfl rfl ?_
              refine ev_loc f_X5_bothHeard (nx := 2) rfl rfl rfl rfl ?_
              refine ev_cL f_X5_bothHeard (nx := 5) (r := []) rfl rfl rfl rfl rfl rfl rfl (c_heardOf hI (a5) p5 (ar1)) rfl hX rfl (fun w25 gi25 gl25 gr25 hI hX hC25 => ?_)
              replace p5 := p5.ext hC25.2
              refine ev_loc f_X5_bothHeard (nx := 6) rfl rfl rfl rfl ?_
              refine ev_loc f_X5_bothHeard (nx := 7) rfl rfl rfl rfl ?_
              refine ev_cL f_X5_bothHeard (nx := 10) (r := [.long w25]) rfl rfl rfl rfl rfl rfl rfl (c_heardOf hI (a5) p5 (ar2)) rfl hX rfl (fun w26 gi26 gl26 gr26 hI hX hC26 => ?_)
              replace p5 := p5.ext hC26.2
              refine ev_loc f_X5_bothHeard (nx := 11) rfl rfl rfl rfl ?_
              refine ev_anyL f_X5_bothHeard (nx := 12) rfl rfl rfl rfl (fun z27 => ?_)
              refine ev_anyL f_X5_bothHeard (nx := 13) rfl rfl rfl rfl (fun z28 => ?_)
              refine ev_retK1 f_X5_bothHeard rfl rfl rfl ?_
              refine ev_inV2 f_X11_together (nx := 47) (lo2 := [(0, .ref 0), (1, .long z28)]) rfl rfl rfl rfl f_X11_answerLong (hI.wf.s rfl) rfl rfl rfl rfl rfl ?_
              refine ev_loc f_X11_answerLong (nx := 1) rfl rfl rfl rfl ?_
              refine ev_ic f_X11_answerLong (nx := 2) (v := 0) rfl (by decide) rfl ?_
              refine ev_putIT f_X11_answerLong (nx := 5) rfl (hI.wf.s rfl) rfl rfl rfl (hI.put0 (hI.wf.s rfl) rfl rfl) (hX.upI rfl) (fun g29 e29 hI hX => ?_)
              refine ev_loc f_X11_answerLong (nx := 6) rfl rfl rfl rfl ?_
              refine ev_retK1 f_X11_answerLong rfl rfl rfl ?_
              exact ev_ret f_X11_together rfl rfl rfl ⟨_, _, _, rfl, hI, hX, ⟨_, rfl⟩⟩
            · have l30 : 13 ≤ ar3.toInt := t_ltl (t_nle h23) (by decide : (12:Int) ≤ (12:Int32).toInt) rfl
              refine ev_loc f_X11_together (nx := 27) rfl rfl rfl rfl ?_
              refine ev_ic f_X11_together (nx := 28) (v := 1) rfl (by decide) rfl ?_
              refine ev_inV2 f_X11_together (nx := 31) (lo2 := [(0, .ref 0), (1, .int 1)]) rfl rfl rfl rfl f_X11_refuse (hI.wf.s rfl) rfl rfl rfl rfl rfl ?_
              refine ev_loc f_X11_refuse (nx := 1) rfl rfl rfl rfl ?_
              refine ev_loc f_X11_refuse (nx := 2) rfl rfl rfl rfl ?_
              refine ev_putIT f_X11_refuse (nx := 5) rfl (hI.wf.s rfl) rfl rfl rfl (hI.put0 (hI.wf.s rfl) rfl rfl) (hX.upI rfl) (fun g31 e31 hI hX => ?_)
              refine ev_ic f_X11_refuse (nx := 6) (v := -1) rfl (by decide) rfl ?_
              refine ev_retK1 f_X11_refuse rfl rfl rfl ?_
              refine ev_aluvL f_X11_together (nx := 32) (w := -1) rfl rfl rfl (by decide) rfl ?_
              exact ev_ret f_X11_together rfl rfl rfl ⟨_, _, _, rfl, hI, hX, ⟨_, rfl⟩⟩
