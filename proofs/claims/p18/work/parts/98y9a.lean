/-! ===== printed by riv.py: the RIVER of the other side ===== -/
noncomputable def wl_n_byteAt : List (Nat × Nat) := []
noncomputable def Q_n_byteAt (gi : Nat → Nat → Int32) (gl : Nat → Nat → Int64) (gr : Nat → Nat → Value) (ar1 : Int32) : Int32 → (Nat → Nat → Int32) → (Nat → Nat → Int64) → (Nat → Nat → Value) → Prop := fun (v : Int32) (gi2 : Nat → Nat → Int32) (gl2 : Nat → Nat → Int64) (gr2 : Nat → Nat → Value) => (∀ (b : Nat → Int32) (n : Nat), t_Tx b n gi → v.toInt = s_at b n ar1.toNatClampNeg) ∧ (v.toInt ≠ -1 → ar1.toInt < (gi 69 11).toInt) ∧ (v.toInt = -1 → (gi 69 11).toInt ≤ ar1.toInt)
theorem c_n_byteAt {X : x_Ext} {d : Nat} {sh : List (Nat ⊕ (Nat × Nat))} {gi : Nat → Nat → Int32} {gl : Nat → Nat → Int64} {gr : Nat → Nat → Value} (hI : t_I sh gi gr) (ar1 : Int32) (l_a1 : 0 ≤ ar1.toInt) : x_Me X (d + 1) n_X12_byteAt [.ref 69, .int ar1] (sh, gi, gl, gr) (t_PI wl_n_byteAt sh gi gl gr (-1) 255 (Q_n_byteAt gi gl gr ar1)) := by
  have hX : t_X wl_n_byteAt sh gi gl gr gi gl gr := t_X.rf
  refine me_i f_X12_byteAt (hI.wf.s rfl) rfl rfl rfl ?_
  obtain ⟨l1, u1⟩ := hI.b (hI.wf.s (k := 69) rfl) (t_bdK rfl : t_bd 11 11 = some (0, 900))
  refine ev_loc f_X12_byteAt (nx := 1) rfl rfl rfl rfl ?_
  refine ev_loc f_X12_byteAt (nx := 2) rfl rfl rfl rfl ?_
  refine ev_gvI f_X12_byteAt (nx := 5) (w := (gi 69 11)) rfl (hI.wf.s rfl) rfl rfl rfl rfl ?_
  refine ev_if f_X12_byteAt (t1 := 21) (t2 := 8) rfl rfl rfl (fun h2 => ?_) (fun h2 => ?_)
  · have r3 : (gi 69 11).toInt ≤ ar1.toInt := Int32.le_iff_toInt_le.mp h2
    refine ev_ic f_X12_byteAt (nx := 22) (v := -1) rfl (by decide) rfl ?_
    exact ev_ret f_X12_byteAt rfl rfl rfl ⟨_, _, _, rfl, hI, hX, ⟨_, rfl, (by decide : ((-1):Int) ≤ ((-1):Int32).toInt), (Int.le_trans (by decide : ((-1):Int32).toInt ≤ ((-1):Int)) (by decide : ((-1):Int) ≤ 255)), (show (∀ (b : Nat → Int32) (n : Nat), t_Tx b n gi → ((-1) : Int) = s_at b n ar1.toNatClampNeg) ∧ (((-1) : Int) ≠ -1 → ar1.toInt < (gi 69 11).toInt) ∧ (((-1) : Int) = -1 → (gi 69 11).toInt ≤ ar1.toInt) from ⟨fun b n h => h.no l_a1 (by omega), fun hh => absurd rfl hh, fun _ => by omega⟩)⟩⟩
  · have r4 : ar1.toInt < (gi 69 11).toInt := Int32.lt_iff_toInt_lt.mp (t_nle h2)
    have u5 : ar1.toInt ≤ 899 := t_ltu (t_nle h2) u1 rfl
    have l6 : 1 ≤ (gi 69 11).toInt := t_ltl (t_nle h2) l_a1 rfl
    refine ev_loc f_X12_byteAt (nx := 9) rfl rfl rfl rfl ?_
    refine ev_getR f_X12_byteAt (nx := 12) rfl (hI.wf.s rfl) rfl rfl (hI.wf.r rfl) rfl rfl ?_
    refine ev_loc f_X12_byteAt (nx := 13) rfl rfl rfl rfl ?_
    refine ev_baldT f_X12_byteAt (nx := 14) rfl (hI.wf.s rfl) rfl l_a1 (by decide) u5 (by decide) rfl (fun w7 e7 => ?_)
    refine ev_sp f_X12_byteAt (nx := 17) (v := 255) rfl (by decide) rfl ?_
    refine ev_andE f_X12_byteAt (nx := 18) (c := 255) rfl (by decide) (by decide) rfl (fun z8 e8 l8 u8 => ?_)
    refine ev_jmp f_X12_byteAt (nx := 22) rfl rfl rfl ?_
    exact ev_ret f_X12_byteAt rfl rfl rfl ⟨_, _, _, rfl, hI, hX, ⟨_, rfl, (Int.le_trans (by decide : ((-1):Int) ≤ 0) l8), u8, (show (∀ (b : Nat → Int32) (n : Nat), t_Tx b n gi → z8.toInt = s_at b n ar1.toNatClampNeg) ∧ (z8.toInt ≠ -1 → ar1.toInt < (gi 69 11).toInt) ∧ (z8.toInt = -1 → (gi 69 11).toInt ≤ ar1.toInt) from ⟨fun b n h => h.at l_a1 (by omega) e7 e8, fun _ => by omega, fun hh => absurd hh (by omega)⟩)⟩⟩
noncomputable def wl_n_ahead : List (Nat × Nat) := [(69, 12), (69, 13), (69, 14), (69, 15)]
noncomputable def Q_n_ahead (gi : Nat → Nat → Int32) (gl : Nat → Nat → Int64) (gr : Nat → Nat → Value) : (Nat → Nat → Int32) → (Nat → Nat → Int64) → (Nat → Nat → Value) → Prop := fun (gi2 : Nat → Nat → Int32) (gl2 : Nat → Nat → Int64) (gr2 : Nat → Nat → Value) => ∀ (b : Nat → Int32) (n q : Nat), t_Sm b n q gi → t_TM b n q gi2
theorem c_n_ahead {X : x_Ext} {d : Nat} {sh : List (Nat ⊕ (Nat × Nat))} {gi : Nat → Nat → Int32} {gl : Nat → Nat → Int64} {gr : Nat → Nat → Value} (hI : t_I sh gi gr) : x_Me X (d + 2) n_X12_ahead [.ref 69] (sh, gi, gl, gr) (t_PN wl_n_ahead sh gi gl gr (Q_n_ahead gi gl gr)) := by
  have hX : t_X wl_n_ahead sh gi gl gr gi gl gr := t_X.rf
  refine me_i f_X12_ahead (hI.wf.s rfl) rfl rfl rfl ?_
  obtain ⟨l1, u1⟩ := hI.b (hI.wf.s (k := 69) rfl) (t_bdK rfl : t_bd 11 11 = some (0, 900))
  obtain ⟨l2, u2⟩ := hI.b (hI.wf.s (k := 69) rfl) (t_bdK rfl : t_bd 11 14 = some (0, 900))
  have L3 : ∀ (gi3 : Nat → Nat → Int32) (gl3 : Nat → Nat → Int64) (gr3 : Nat → Nat → Value), t_I sh gi3 gr3 → t_X wl_n_ahead sh gi gl gr gi3 gl3 gr3 → (∀ (b : Nat → Int32) (n q : Nat), t_Sm b n q gi → ∃ i : Nat, t_Sm b n i gi3 ∧ s_F b n q = i ∧ q ≤ n) → x_Ev X (d + 2) n_X12_ahead 39 [(0, .ref 69)] [] (sh, gi3, gl3, gr3) (t_PN wl_n_ahead sh gi gl gr (Q_n_ahead gi gl gr)) := by
    intro gi3 gl3 gr3 hI hX j3_0
    obtain ⟨l4, u4⟩ := hI.b (hI.wf.s (k := 69) rfl) (t_bdK rfl : t_bd 11 11 = some (0, 900))
    obtain ⟨l5, u5⟩ := hI.b (hI.wf.s (k := 69) rfl) (t_bdK rfl : t_bd 11 14 = some (0, 900))
    refine ev_loc f_X12_ahead (nx := 40) rfl rfl rfl rfl ?_
    refine ev_loc f_X12_ahead (nx := 41) rfl rfl rfl rfl ?_
    refine ev_gvI f_X12_ahead (nx := 44) (w := (gi3 69 14)) rfl (hI.wf.s rfl) rfl rfl rfl rfl ?_
    refine ev_putIT f_X12_ahead (nx := 47) rfl (hI.wf.s rfl) rfl rfl rfl (hI.putB (hI.wf.s rfl) rfl rfl l5 (by decide) u5 (by decide)) (hX.upI rfl) (fun g6 e6 hI hX => ?_)
    refine ev_loc f_X12_ahead (nx := 48) rfl rfl rfl rfl ?_
    refine ev_loc f_X12_ahead (nx := 49) rfl rfl rfl rfl ?_
    refine ev_gvI f_X12_ahead (nx := 52) (w := (gi3 69 14)) rfl (hI.wf.s rfl) rfl rfl ((by rw [e6]; exact x_up2_off (Or.inr (by decide)) : g6 69 14 = gi3 69 14).trans rfl) rfl ?_
    refine ev_qI0 f_X12_ahead (nx := 55) (r := []) rfl rfl rfl rfl rfl rfl rfl (c_n_byteAt hI ((gi3 69 14)) l5) rfl (fun w7 l7 u7 q7 => ?_)
    have ff8 : (g6 69 11).toInt = (gi3 69 11).toInt := congrArg Int32.toInt ((by rw [e6]; exact x_up2_off (Or.inr (by decide)) : g6 69 11 = gi3 69 11).trans rfl)
    have q7 : (∀ (b : Nat → Int32) (n : Nat), t_Tx b n g6 → w7.toInt = s_at b n (gi3 69 14).toNatClampNeg) ∧ (w7.toInt ≠ -1 → (gi3 69 14).toInt < (g6 69 11).toInt) ∧ (w7.toInt = -1 → (g6 69 11).toInt ≤ (gi3 69 14).toInt) := q7
    refine ev_loc f_X12_ahead (nx := 56) (lo' := [(1, .int w7), (0, .ref 69)]) rfl rfl rfl rfl ?_
    refine ev_loc f_X12_ahead (nx := 57) rfl rfl rfl rfl ?_
    refine ev_loc f_X12_ahead (nx := 58) rfl rfl rfl rfl ?_
    refine ev_putIT f_X12_ahead (nx := 61) rfl (hI.wf.s rfl) rfl rfl rfl (hI.put0 (hI.wf.s rfl) rfl rfl) (hX.upI rfl) (fun g9 e9 hI hX => ?_)
    refine ev_loc f_X12_ahead (nx := 62) rfl rfl rfl rfl ?_
    refine ev_ic f_X12_ahead (nx := 63) (v := -1) rfl (by decide) rfl ?_
    refine ev_if f_X12_ahead (t1 := 66) (t2 := 74) rfl rfl rfl (fun h10 => ?_) (fun h10 => ?_)
    · have u11 : w7.toInt ≤ (-1) := t_equ h10 (by decide : ((-1):Int32).toInt ≤ ((-1):Int))
      refine ev_loc f_X12_ahead (nx := 67) rfl rfl rfl rfl ?_
      refine ev_ic f_X12_ahead (nx := 68) (v := 0) rfl (by decide) rfl ?_
      refine ev_putIT f_X12_ahead (nx := 71) rfl (hI.wf.s rfl) rfl rfl rfl (hI.putB (hI.wf.s rfl) rfl rfl (by decide : (0:Int) ≤ (0:Int32).toInt) (by decide) (by decide : (0:Int32).toInt ≤ (0:Int)) (by decide)) (hX.upI rfl) (fun g12 e12 hI hX => ?_)
      refine ev_jmp f_X12_ahead (nx := 263) rfl rfl rfl ?_
      exact ev_ret f_X12_ahead rfl rfl rfl ⟨_, _, _, rfl, hI, hX, ⟨rfl, (show ∀ (b : Nat → Int32) (n q : Nat), t_Sm b n q gi → t_TM b n q g12 from (fun b n q h => (by
                                                            obtain ⟨i, hi, hF, hp⟩ := j3_0 b n q h
                                                            have s44 := hi.up (by decide) e6
                                                            have s58 := s44.up (by decide) e9
                                                            have hw : w7.toInt = s_at b n (g9 69 14).toNatClampNeg := by rw [e9, x_up2_off (Or.inr (by decide)), e6, x_up2_off (Or.inr (by decide))]; exact q7.1 b n s44.1
                                                            have h13 : (g9 69 13).toInt = (i : Int) := by rw [e9, x_up2_off (Or.inr (by decide)), e6, x_up2_at]; exact hi.2.1
                                                            have hn : n ≤ i := by
                                                              rw [s58.cl] at hw
                                                              exact s_at_e s58.1.1.2 (by omega)
                                                            exact t_TM_0 (s58.up (by decide) e12) hF hp hn (by rw [e12, x_up2_off (Or.inr (by decide))]; exact h13) (by rw [e12, x_up2_at]; rfl))))⟩⟩
    · have r13 : w7.toInt ≠ (-1) := fun e => h10 (Int32.toInt_inj.mp (e.trans (by decide : ((-1):Int) = ((-1) : Int32).toInt)))
      have l14 : 0 ≤ w7.toInt := t_nel h10 l7 rfl rfl
      refine ev_loc f_X12_ahead (nx := 75) rfl rfl rfl rfl ?_
      refine ev_inS1 f_X12_ahead (nx := 78) (lo2 := [(0, .int w7)]) rfl rfl rfl rfl f_X12_isSmall rfl rfl rfl rfl ?_
      refine ev_loc f_X12_isSmall (nx := 1) rfl rfl rfl rfl ?_
      refine ev_bp f_X12_isSmall (nx := 3) (v := 97) rfl (by decide) rfl ?_
      refine ev_if f_X12_isSmall (t1 := 16) (t2 := 6) rfl rfl rfl (fun h15 => ?_) (fun h15 => ?_)
      · have u16 : w7.toInt ≤ 96 := t_ltu h15 (by decide : (97:Int32).toInt ≤ (97:Int)) rfl
        refine ev_ic f_X12_isSmall (nx := 17) (v := 0) rfl (by decide) rfl ?_
        refine ev_retK1 f_X12_isSmall rfl rfl rfl ?_
        refine ev_t f_X12_ahead (t1 := 116) (t2 := 81) rfl rfl rfl (by decide) ?_
        refine ev_loc f_X12_ahead (nx := 117) rfl rfl rfl rfl ?_
        refine ev_inS1 f_X12_ahead (nx := 120) (lo2 := [(0, .int w7)]) rfl rfl rfl rfl f_X12_isDigit rfl rfl rfl rfl ?_
        refine ev_loc f_X12_isDigit (nx := 1) rfl rfl rfl rfl ?_
        refine ev_bp f_X12_isDigit (nx := 3) (v := 48) rfl (by decide) rfl ?_
        refine ev_if f_X12_isDigit (t1 := 16) (t2 := 6) rfl rfl rfl (fun h17 => ?_) (fun h17 => ?_)
        · have u18 : w7.toInt ≤ 47 := t_ltu h17 (by decide : (48:Int32).toInt ≤ (48:Int)) rfl
          refine ev_ic f_X12_isDigit (nx := 17) (v := 0) rfl (by decide) rfl ?_
          refine ev_retK1 f_X12_isDigit rfl rfl rfl ?_
          refine ev_t f_X12_ahead (t1 := 208) (t2 := 123) rfl rfl rfl (by decide) ?_
          refine ev_loc f_X12_ahead (nx := 209) rfl rfl rfl rfl ?_
          refine ev_alu f_X12_ahead (nx := 210) rfl rfl rfl rfl ?_
          refine ev_gvI f_X12_ahead (nx := 213) (w := (gi3 69 14)) rfl (hI.wf.s rfl) rfl rfl ((by rw [e9]; exact x_up2_off (Or.inr (by decide)) : g9 69 14 = g6 69 14).trans ((by rw [e6]; exact x_up2_off (Or.inr (by decide)) : g6 69 14 = gi3 69 14).trans rfl)) rfl ?_
          refine ev_ic f_X12_ahead (nx := 214) (v := 1) rfl (by decide) rfl ?_
          refine ev_addC f_X12_ahead (nx := 215) (c := 1) (l := 1) (u := 901) rfl (by decide) l5 u5 rfl rfl (by decide) (by decide) rfl (fun z19 e19 l19 u19 => ?_)
          have u21 : z19.toInt ≤ (900:Int) := (by have h1 := q7.2.1 (by omega); omega)
          refine ev_putIT f_X12_ahead (nx := 218) rfl (hI.wf.s rfl) rfl rfl rfl (hI.putB (hI.wf.s rfl) rfl rfl l19 (by decide) u21 (by decide)) (hX.upI rfl) (fun g20 e20 hI hX => ?_)
          refine ev_loc f_X12_ahead (nx := 219) rfl rfl rfl rfl ?_
          refine ev_loc f_X12_ahead (nx := 220) rfl rfl rfl rfl ?_
          refine ev_bp f_X12_ahead (nx := 222) (v := 59) rfl (by decide) rfl ?_
          refine ev_f f_X12_ahead (t1 := 255) (t2 := 225) rfl rfl rfl (t_neT u18 (by decide : (59:Int) ≤ (59:Int32).toInt) (by decide)) ?_
          refine ev_loc f_X12_ahead (nx := 226) rfl rfl rfl rfl ?_
          refine ev_bp f_X12_ahead (nx := 228) (v := 60) rfl (by decide) rfl ?_
          refine ev_f f_X12_ahead (t1 := 255) (t2 := 231) rfl rfl rfl (t_neT u18 (by decide : (60:Int) ≤ (60:Int32).toInt) (by decide)) ?_
          refine ev_loc f_X12_ahead (nx := 232) rfl rfl rfl rfl ?_
          refine ev_bp f_X12_ahead (nx := 234) (v := 62) rfl (by decide) rfl ?_
          refine ev_f f_X12_ahead (t1 := 255) (t2 := 237) rfl rfl rfl (t_neT u18 (by decide : (62:Int) ≤ (62:Int32).toInt) (by decide)) ?_
          refine ev_loc f_X12_ahead (nx := 238) rfl rfl rfl rfl ?_
          refine ev_bp f_X12_ahead (nx := 240) (v := 61) rfl (by decide) rfl ?_
          refine ev_f f_X12_ahead (t1 := 255) (t2 := 243) rfl rfl rfl (t_neT u18 (by decide : (61:Int) ≤ (61:Int32).toInt) (by decide)) ?_
          refine ev_loc f_X12_ahead (nx := 244) rfl rfl rfl rfl ?_
          refine ev_bp f_X12_ahead (nx := 246) (v := 40) rfl (by decide) rfl ?_
          refine ev_if f_X12_ahead (t1 := 255) (t2 := 249) rfl rfl rfl (fun h22 => ?_) (fun h22 => ?_)
          · have u23 : w7.toInt ≤ 40 := t_equ h22 (by decide : (40:Int32).toInt ≤ (40:Int))
            have l24 : 40 ≤ w7.toInt := t_eql h22 (by decide : (40:Int) ≤ (40:Int32).toInt)
            refine ev_ic f_X12_ahead (nx := 256) (v := 4) rfl (by decide) rfl ?_
            refine ev_jmp f_X12_ahead (nx := 260) rfl rfl rfl ?_
            refine ev_putIT f_X12_ahead (nx := 263) rfl (hI.wf.s rfl) rfl rfl rfl (hI.putB (hI.wf.s rfl) rfl rfl (by decide : (4:Int) ≤ (4:Int32).toInt) (by decide) (by decide : (4:Int32).toInt ≤ (4:Int)) (by decide)) (hX.upI rfl) (fun g25 e25 hI hX => ?_)
            exact ev_ret f_X12_ahead rfl rfl rfl ⟨_, _, _, rfl, hI, hX, ⟨rfl, (show ∀ (b : Nat → Int32) (n q : Nat), t_Sm b n q gi → t_TM b n q g25 from (fun b n q h => (by
                                                            obtain ⟨i, hi, hF, hp⟩ := j3_0 b n q h
                                                            have s44 := hi.up (by decide) e6
                                                            have s58 := s44.up (by decide) e9
                                                            have hw : w7.toInt = s_at b n (g9 69 14).toNatClampNeg := by rw [e9, x_up2_off (Or.inr (by decide)), e6, x_up2_off (Or.inr (by decide))]; exact q7.1 b n s44.1
                                                            have h13 : (g9 69 13).toInt = (i : Int) := by rw [e9, x_up2_off (Or.inr (by decide)), e6, x_up2_at]; exact hi.2.1
                                                            have hn : i < n := by
                                                              rw [s58.cl] at hw
                                                              exact Nat.lt_of_not_le (fun hh => absurd (s_at_n (b := b) hh) (by omega))
                                                            have hw1 := s58.out hw (c := 97) (d := 122) (by decide) (by decide) (by omega) hn
                                                            have hw2 := s58.out hw (c := 48) (d := 57) (by decide) (by decide) (by omega) hn
                                                            have hc : (b i).toInt = w7.toInt := by
                                                              rw [s58.cl] at hw
                                                              exact ((s_at_c s58.1.1.2 (by omega) (by omega)).mp hw.symm).2
                                                            have hs : s_sg (b i).toInt = true := s_sgT (by omega)
                                                            exact t_TM_4 ((s58.nx (by have h3 := s58.2.1; rw [e9, x_up2_off (Or.inr (by decide)), e6, x_up2_off (Or.inr (by decide))] at h3; omega) hn e20).up2 e25) hF hp hn hw1 hw2 (by rw [e25, x_up2_off (Or.inr (by decide)), e20, x_up2_off (Or.inr (by decide))]; exact h13) (by rw [e25, x_up2_at, if_pos hs]; rfl) (fun _ => by rw [e25, x_up2_off (Or.inr (by decide)), e20, x_up2_off (Or.inr (by decide)), e9, x_up2_at]; exact Int32.toInt_inj.mp hc.symm))))⟩⟩
          · have r26 : w7.toInt ≠ 40 := fun e => h22 (Int32.toInt_inj.mp (e.trans (by decide : (40:Int) = (40 : Int32).toInt)))
            refine ev_loc f_X12_ahead (nx := 250) rfl rfl rfl rfl ?_
            refine ev_bp f_X12_ahead (nx := 252) (v := 41) rfl (by decide) rfl ?_
            refine ev_if f_X12_ahead (t1 := 255) (t2 := 259) rfl rfl rfl (fun h27 => ?_) (fun h27 => ?_)
            · have u28 : w7.toInt ≤ 41 := t_equ h27 (by decide : (41:Int32).toInt ≤ (41:Int))
              have l29 : 41 ≤ w7.toInt := t_eql h27 (by decide : (41:Int) ≤ (41:Int32).toInt)
              refine ev_ic f_X12_ahead (nx := 256) (v := 4) rfl (by decide) rfl ?_
              refine ev_jmp f_X12_ahead (nx := 260) rfl rfl rfl ?_
              refine ev_putIT f_X12_ahead (nx := 263) rfl (hI.wf.s rfl) rfl rfl rfl (hI.putB (hI.wf.s rfl) rfl rfl (by decide : (4:Int) ≤ (4:Int32).toInt) (by decide) (by decide : (4:Int32).toInt ≤ (4:Int)) (by decide)) (hX.upI rfl) (fun g30 e30 hI hX => ?_)
              exact ev_ret f_X12_ahead rfl rfl rfl ⟨_, _, _, rfl, hI, hX, ⟨rfl, (show ∀ (b : Nat → Int32) (n q : Nat), t_Sm b n q gi → t_TM b n q g30 from (fun b n q h => (by
                                                            obtain ⟨i, hi, hF, hp⟩ := j3_0 b n q h
                                                            have s44 := hi.up (by decide) e6
                                                            have s58 := s44.up (by decide) e9
                                                            have hw : w7.toInt = s_at b n (g9 69 14).toNatClampNeg := by rw [e9, x_up2_off (Or.inr (by decide)), e6, x_up2_off (Or.inr (by decide))]; exact q7.1 b n s44.1
                                                            have h13 : (g9 69 13).toInt = (i : Int) := by rw [e9, x_up2_off (Or.inr (by decide)), e6, x_up2_at]; exact hi.2.1
                                                            have hn : i < n := by
                                                              rw [s58.cl] at hw
                                                              exact Nat.lt_of_not_le (fun hh => absurd (s_at_n (b := b) hh) (by omega))
                                                            have hw1 := s58.out hw (c := 97) (d := 122) (by decide) (by decide) (by omega) hn
                                                            have hw2 := s58.out hw (c := 48) (d := 57) (by decide) (by decide) (by omega) hn
                                                            have hc : (b i).toInt = w7.toInt := by
                                                              rw [s58.cl] at hw
                                                              exact ((s_at_c s58.1.1.2 (by omega) (by omega)).mp hw.symm).2
                                                            have hs : s_sg (b i).toInt = true := s_sgT (by omega)
                                                            exact t_TM_4 ((s58.nx (by have h3 := s58.2.1; rw [e9, x_up2_off (Or.inr (by decide)), e6, x_up2_off (Or.inr (by decide))] at h3; omega) hn e20).up2 e30) hF hp hn hw1 hw2 (by rw [e30, x_up2_off (Or.inr (by decide)), e20, x_up2_off (Or.inr (by decide))]; exact h13) (by rw [e30, x_up2_at, if_pos hs]; rfl) (fun _ => by rw [e30, x_up2_off (Or.inr (by decide)), e20, x_up2_off (Or.inr (by decide)), e9, x_up2_at]; exact Int32.toInt_inj.mp hc.symm))))⟩⟩
            · have r31 : w7.toInt ≠ 41 := fun e => h27 (Int32.toInt_inj.mp (e.trans (by decide : (41:Int) = (41 : Int32).toInt)))
              refine ev_ic f_X12_ahead (nx := 260) (v := 1) rfl (by decide) rfl ?_
              refine ev_putIT f_X12_ahead (nx := 263) rfl (hI.wf.s rfl) rfl rfl rfl (hI.putB (hI.wf.s rfl) rfl rfl (by decide : (1:Int) ≤ (1:Int32).toInt) (by decide) (by decide : (1:Int32).toInt ≤ (1:Int)) (by decide)) (hX.upI rfl) (fun g32 e32 hI hX => ?_)
              exact ev_ret f_X12_ahead rfl rfl rfl ⟨_, _, _, rfl, hI, hX, ⟨rfl, (show ∀ (b : Nat → Int32) (n q : Nat), t_Sm b n q gi → t_TM b n q g32 from (fun b n q h => (by
                                                            obtain ⟨i, hi, hF, hp⟩ := j3_0 b n q h
                                                            have s44 := hi.up (by decide) e6
                                                            have s58 := s44.up (by decide) e9
                                                            have hw : w7.toInt = s_at b n (g9 69 14).toNatClampNeg := by rw [e9, x_up2_off (Or.inr (by decide)), e6, x_up2_off (Or.inr (by decide))]; exact q7.1 b n s44.1
                                                            have h13 : (g9 69 13).toInt = (i : Int) := by rw [e9, x_up2_off (Or.inr (by decide)), e6, x_up2_at]; exact hi.2.1
                                                            have hn : i < n := by
                                                              rw [s58.cl] at hw
                                                              exact Nat.lt_of_not_le (fun hh => absurd (s_at_n (b := b) hh) (by omega))
                                                            have hw1 := s58.out hw (c := 97) (d := 122) (by decide) (by decide) (by omega) hn
                                                            have hw2 := s58.out hw (c := 48) (d := 57) (by decide) (by decide) (by omega) hn
                                                            have hs : ¬ s_sg (b i).toInt = true := fun hh => by
                                                              have hr := s_sg_r hh
                                                              have hc := (s_at_c (i := i) s58.1.1.2 (c := (b i).toInt) (by omega) (by omega)).mpr ⟨hn, rfl⟩
                                                              rw [s58.cl, hc] at hw
                                                              exact absurd hh (s_sgF (by omega))
                                                            exact t_TM_4 ((s58.nx (by have h3 := s58.2.1; rw [e9, x_up2_off (Or.inr (by decide)), e6, x_up2_off (Or.inr (by decide))] at h3; omega) hn e20).up2 e32) hF hp hn hw1 hw2 (by rw [e32, x_up2_off (Or.inr (by decide)), e20, x_up2_off (Or.inr (by decide))]; exact h13) (by rw [e32, x_up2_at, if_neg hs]; rfl) (fun hh => absurd hh hs))))⟩⟩
        · have l33 : 48 ≤ w7.toInt := t_lel (t_nlt h17) (by decide : (48:Int) ≤ (48:Int32).toInt)
          refine ev_loc f_X12_isDigit (nx := 7) rfl rfl rfl rfl ?_
          refine ev_bp f_X12_isDigit (nx := 9) (v := 57) rfl (by decide) rfl ?_
          refine ev_if f_X12_isDigit (t1 := 16) (t2 := 12) rfl rfl rfl (fun h34 => ?_) (fun h34 => ?_)
          · have l35 : 58 ≤ w7.toInt := t_ltl h34 (by decide : (57:Int) ≤ (57:Int32).toInt) rfl
            refine ev_ic f_X12_isDigit (nx := 17) (v := 0) rfl (by decide) rfl ?_
            refine ev_retK1 f_X12_isDigit rfl rfl rfl ?_
            refine ev_t f_X12_ahead (t1 := 208) (t2 := 123) rfl rfl rfl (by decide) ?_
            refine ev_loc f_X12_ahead (nx := 209) rfl rfl rfl rfl ?_
            refine ev_alu f_X12_ahead (nx := 210) rfl rfl rfl rfl ?_
            refine ev_gvI f_X12_ahead (nx := 213) (w := (gi3 69 14)) rfl (hI.wf.s rfl) rfl rfl ((by rw [e9]; exact x_up2_off (Or.inr (by decide)) : g9 69 14 = g6 69 14).trans ((by rw [e6]; exact x_up2_off (Or.inr (by decide)) : g6 69 14 = gi3 69 14).trans rfl)) rfl ?_
            refine ev_ic f_X12_ahead (nx := 214) (v := 1) rfl (by decide) rfl ?_
            refine ev_addC f_X12_ahead (nx := 215) (c := 1) (l := 1) (u := 901) rfl (by decide) l5 u5 rfl rfl (by decide) (by decide) rfl (fun z36 e36 l36 u36 => ?_)
            have u38 : z36.toInt ≤ (900:Int) := (by have h1 := q7.2.1 (by omega); omega)
            refine ev_putIT f_X12_ahead (nx := 218) rfl (hI.wf.s rfl) rfl rfl rfl (hI.putB (hI.wf.s rfl) rfl rfl l36 (by decide) u38 (by decide)) (hX.upI rfl) (fun g37 e37 hI hX => ?_)
            refine ev_loc f_X12_ahead (nx := 219) rfl rfl rfl rfl ?_
            refine ev_loc f_X12_ahead (nx := 220) rfl rfl rfl rfl ?_
            refine ev_bp f_X12_ahead (nx := 222) (v := 59) rfl (by decide) rfl ?_
            refine ev_if f_X12_ahead (t1 := 255) (t2 := 225) rfl rfl rfl (fun h39 => ?_) (fun h39 => ?_)
            · have u40 : w7.toInt ≤ 59 := t_equ h39 (by decide : (59:Int32).toInt ≤ (59:Int))
              have l41 : 59 ≤ w7.toInt := t_eql h39 (by decide : (59:Int) ≤ (59:Int32).toInt)
              refine ev_ic f_X12_ahead (nx := 256) (v := 4) rfl (by decide) rfl ?_
              refine ev_jmp f_X12_ahead (nx := 260) rfl rfl rfl ?_
              refine ev_putIT f_X12_ahead (nx := 263) rfl (hI.wf.s rfl) rfl rfl rfl (hI.putB (hI.wf.s rfl) rfl rfl (by decide : (4:Int) ≤ (4:Int32).toInt) (by decide) (by decide : (4:Int32).toInt ≤ (4:Int)) (by decide)) (hX.upI rfl) (fun g42 e42 hI hX => ?_)
              exact ev_ret f_X12_ahead rfl rfl rfl ⟨_, _, _, rfl, hI, hX, ⟨rfl, (show ∀ (b : Nat → Int32) (n q : Nat), t_Sm b n q gi → t_TM b n q g42 from (fun b n q h => (by
                                                            obtain ⟨i, hi, hF, hp⟩ := j3_0 b n q h
                                                            have s44 := hi.up (by decide) e6
                                                            have s58 := s44.up (by decide) e9
                                                            have hw : w7.toInt = s_at b n (g9 69 14).toNatClampNeg := by rw [e9, x_up2_off (Or.inr (by decide)), e6, x_up2_off (Or.inr (by decide))]; exact q7.1 b n s44.1
                                                            have h13 : (g9 69 13).toInt = (i : Int) := by rw [e9, x_up2_off (Or.inr (by decide)), e6, x_up2_at]; exact hi.2.1
                                                            have hn : i < n := by
                                                              rw [s58.cl] at hw
                                                              exact Nat.lt_of_not_le (fun hh => absurd (s_at_n (b := b) hh) (by omega))
                                                            have hw1 := s58.out hw (c := 97) (d := 122) (by decide) (by decide) (by omega) hn
                                                            have hw2 := s58.out hw (c := 48) (d := 57) (by decide) (by decide) (by omega) hn
                                                            have hc : (b i).toInt = w7.toInt := by
                                                              rw [s58.cl] at hw
                                                              exact ((s_at_c s58.1.1.2 (by omega) (by omega)).mp hw.symm).2
                                                            have hs : s_sg (b i).toInt = true := s_sgT (by omega)
                                                            exact t_TM_4 ((s58.nx (by have h3 := s58.2.1; rw [e9, x_up2_off (Or.inr (by decide)), e6, x_up2_off (Or.inr (by decide))] at h3; omega) hn e37).up2 e42) hF hp hn hw1 hw2 (by rw [e42, x_up2_off (Or.inr (by decide)), e37, x_up2_off (Or.inr (by decide))]; exact h13) (by rw [e42, x_up2_at, if_pos hs]; rfl) (fun _ => by rw [e42, x_up2_off (Or.inr (by decide)), e37, x_up2_off (Or.inr (by decide)), e9, x_up2_at]; exact Int32.toInt_inj.mp hc.symm))))⟩⟩
            · have r43 : w7.toInt ≠ 59 := fun e => h39 (Int32.toInt_inj.mp (e.trans (by decide : (59:Int) = (59 : Int32).toInt)))
              refine ev_loc f_X12_ahead (nx := 226) rfl rfl rfl rfl ?_
              refine ev_bp f_X12_ahead (nx := 228) (v := 60) rfl (by decide) rfl ?_
              refine ev_if f_X12_ahead (t1 := 255) (t2 := 231) rfl rfl rfl (fun h44 => ?_) (fun h44 => ?_)
              · have u45 : w7.toInt ≤ 60 := t_equ h44 (by decide : (60:Int32).toInt ≤ (60:Int))
                have l46 : 60 ≤ w7.toInt := t_eql h44 (by decide : (60:Int) ≤ (60:Int32).toInt)
                refine ev_ic f_X12_ahead (nx := 256) (v := 4) rfl (by decide) rfl ?_
                refine ev_jmp f_X12_ahead (nx := 260) rfl rfl rfl ?_
                refine ev_putIT f_X12_ahead (nx := 263) rfl (hI.wf.s rfl) rfl rfl rfl (hI.putB (hI.wf.s rfl) rfl rfl (by decide : (4:Int) ≤ (4:Int32).toInt) (by decide) (by decide : (4:Int32).toInt ≤ (4:Int)) (by decide)) (hX.upI rfl) (fun g47 e47 hI hX => ?_)
                exact ev_ret f_X12_ahead rfl rfl rfl ⟨_, _, _, rfl, hI, hX, ⟨rfl, (show ∀ (b : Nat → Int32) (n q : Nat), t_Sm b n q gi → t_TM b n q g47 from (fun b n q h => (by
                                                            obtain ⟨i, hi, hF, hp⟩ := j3_0 b n q h
                                                            have s44 := hi.up (by decide) e6
                                                            have s58 := s44.up (by decide) e9
                                                            have hw : w7.toInt = s_at b n (g9 69 14).toNatClampNeg := by rw [e9, x_up2_off (Or.inr (by decide)), e6, x_up2_off (Or.inr (by decide))]; exact q7.1 b n s44.1
                                                            have h13 : (g9 69 13).toInt = (i : Int) := by rw [e9, x_up2_off (Or.inr (by decide)), e6, x_up2_at]; exact hi.2.1
                                                            have hn : i < n := by
                                                              rw [s58.cl] at hw
                                                              exact Nat.lt_of_not_le (fun hh => absurd (s_at_n (b := b) hh) (by omega))
                                                            have hw1 := s58.out hw (c := 97) (d := 122) (by decide) (by decide) (by omega) hn
                                                            have hw2 := s58.out hw (c := 48) (d := 57) (by decide) (by decide) (by omega) hn
                                                            have hc : (b i).toInt = w7.toInt := by
                                                              rw [s58.cl] at hw
                                                              exact ((s_at_c s58.1.1.2 (by omega) (by omega)).mp hw.symm).2
                                                            have hs : s_sg (b i).toInt = true := s_sgT (by omega)
                                                            exact t_TM_4 ((s58.nx (by have h3 := s58.2.1; rw [e9, x_up2_off (Or.inr (by decide)), e6, x_up2_off (Or.inr (by decide))] at h3; omega) hn e37).up2 e47) hF hp hn hw1 hw2 (by rw [e47, x_up2_off (Or.inr (by decide)), e37, x_up2_off (Or.inr (by decide))]; exact h13) (by rw [e47, x_up2_at, if_pos hs]; rfl) (fun _ => by rw [e47, x_up2_off (Or.inr (by decide)), e37, x_up2_off (Or.inr (by decide)), e9, x_up2_at]; exact Int32.toInt_inj.mp hc.symm))))⟩⟩
              · have r48 : w7.toInt ≠ 60 := fun e => h44 (Int32.toInt_inj.mp (e.trans (by decide : (60:Int) = (60 : Int32).toInt)))
                refine ev_loc f_X12_ahead (nx := 232) rfl rfl rfl rfl ?_
                refine ev_bp f_X12_ahead (nx := 234) (v := 62) rfl (by decide) rfl ?_
                refine ev_if f_X12_ahead (t1 := 255) (t2 := 237) rfl rfl rfl (fun h49 => ?_) (fun h49 => ?_)
                · have u50 : w7.toInt ≤ 62 := t_equ h49 (by decide : (62:Int32).toInt ≤ (62:Int))
                  have l51 : 62 ≤ w7.toInt := t_eql h49 (by decide : (62:Int) ≤ (62:Int32).toInt)
                  refine ev_ic f_X12_ahead (nx := 256) (v := 4) rfl (by decide) rfl ?_
                  refine ev_jmp f_X12_ahead (nx := 260) rfl rfl rfl ?_
                  refine ev_putIT f_X12_ahead (nx := 263) rfl (hI.wf.s rfl) rfl rfl rfl (hI.putB (hI.wf.s rfl) rfl rfl (by decide : (4:Int) ≤ (4:Int32).toInt) (by decide) (by decide : (4:Int32).toInt ≤ (4:Int)) (by decide)) (hX.upI rfl) (fun g52 e52 hI hX => ?_)
                  exact ev_ret f_X12_ahead rfl rfl rfl ⟨_, _, _, rfl, hI, hX, ⟨rfl, (show ∀ (b : Nat → Int32) (n q : Nat), t_Sm b n q gi → t_TM b n q g52 from (fun b n q h => (by
                                                            obtain ⟨i, hi, hF, hp⟩ := j3_0 b n q h
                                                            have s44 := hi.up (by decide) e6
                                                            have s58 := s44.up (by decide) e9
                                                            have hw : w7.toInt = s_at b n (g9 69 14).toNatClampNeg := by rw [e9, x_up2_off (Or.inr (by decide)), e6, x_up2_off (Or.inr (by decide))]; exact q7.1 b n s44.1
                                                            have h13 : (g9 69 13).toInt = (i : Int) := by rw [e9, x_up2_off (Or.inr (by decide)), e6, x_up2_at]; exact hi.2.1
                                                            have hn : i < n := by
                                                              rw [s58.cl] at hw
                                                              exact Nat.lt_of_not_le (fun hh => absurd (s_at_n (b := b) hh) (by omega))
                                                            have hw1 := s58.out hw (c := 97) (d := 122) (by decide) (by decide) (by omega) hn
                                                            have hw2 := s58.out hw (c := 48) (d := 57) (by decide) (by decide) (by omega) hn
                                                            have hc : (b i).toInt = w7.toInt := by
                                                              rw [s58.cl] at hw
                                                              exact ((s_at_c s58.1.1.2 (by omega) (by omega)).mp hw.symm).2
                                                            have hs : s_sg (b i).toInt = true := s_sgT (by omega)
                                                            exact t_TM_4 ((s58.nx (by have h3 := s58.2.1; rw [e9, x_up2_off (Or.inr (by decide)), e6, x_up2_off (Or.inr (by decide))] at h3; omega) hn e37).up2 e52) hF hp hn hw1 hw2 (by rw [e52, x_up2_off (Or.inr (by decide)), e37, x_up2_off (Or.inr (by decide))]; exact h13) (by rw [e52, x_up2_at, if_pos hs]; rfl) (fun _ => by rw [e52, x_up2_off (Or.inr (by decide)), e37, x_up2_off (Or.inr (by decide)), e9, x_up2_at]; exact Int32.toInt_inj.mp hc.symm))))⟩⟩
                · have r53 : w7.toInt ≠ 62 := fun e => h49 (Int32.toInt_inj.mp (e.trans (by decide : (62:Int) = (62 : Int32).toInt)))
                  refine ev_loc f_X12_ahead (nx := 238) rfl rfl rfl rfl ?_
                  refine ev_bp f_X12_ahead (nx := 240) (v := 61) rfl (by decide) rfl ?_
                  refine ev_if f_X12_ahead (t1 := 255) (t2 := 243) rfl rfl rfl (fun h54 => ?_) (fun h54 => ?_)
                  · have u55 : w7.toInt ≤ 61 := t_equ h54 (by decide : (61:Int32).toInt ≤ (61:Int))
                    have l56 : 61 ≤ w7.toInt := t_eql h54 (by decide : (61:Int) ≤ (61:Int32).toInt)
                    refine ev_ic f_X12_ahead (nx := 256) (v := 4) rfl (by decide) rfl ?_
                    refine ev_jmp f_X12_ahead (nx := 260) rfl rfl rfl ?_
                    refine ev_putIT f_X12_ahead (nx := 263) rfl (hI.wf.s rfl) rfl rfl rfl (hI.putB (hI.wf.s rfl) rfl rfl (by decide : (4:Int) ≤ (4:Int32).toInt) (by decide) (by decide : (4:Int32).toInt ≤ (4:Int)) (by decide)) (hX.upI rfl) (fun g57 e57 hI hX => ?_)
                    exact ev_ret f_X12_ahead rfl rfl rfl ⟨_, _, _, rfl, hI, hX, ⟨rfl, (show ∀ (b : Nat → Int32) (n q : Nat), t_Sm b n q gi → t_TM b n q g57 from (fun b n q h => (by
                                                            obtain ⟨i, hi, hF, hp⟩ := j3_0 b n q h
                                                            have s44 := hi.up (by decide) e6
                                                            have s58 := s44.up (by decide) e9
                                                            have hw : w7.toInt = s_at b n (g9 69 14).toNatClampNeg := by rw [e9, x_up2_off (Or.inr (by decide)), e6, x_up2_off (Or.inr (by decide))]; exact q7.1 b n s44.1
                                                            have h13 : (g9 69 13).toInt = (i : Int) := by rw [e9, x_up2_off (Or.inr (by decide)), e6, x_up2_at]; exact hi.2.1
                                                            have hn : i < n := by
                                                              rw [s58.cl] at hw
                                                              exact Nat.lt_of_not_le (fun hh => absurd (s_at_n (b := b) hh) (by omega))
                                                            have hw1 := s58.out hw (c := 97) (d := 122) (by decide) (by decide) (by omega) hn
                                                            have hw2 := s58.out hw (c := 48) (d := 57) (by decide) (by decide) (by omega) hn
                                                            have hc : (b i).toInt = w7.toInt := by
                                                              rw [s58.cl] at hw
                                                              exact ((s_at_c s58.1.1.2 (by omega) (by omega)).mp hw.symm).2
                                                            have hs : s_sg (b i).toInt = true := s_sgT (by omega)
                                                            exact t_TM_4 ((s58.nx (by have h3 := s58.2.1; rw [e9, x_up2_off (Or.inr (by decide)), e6, x_up2_off (Or.inr (by decide))] at h3; omega) hn e37).up2 e57) hF hp hn hw1 hw2 (by rw [e57, x_up2_off (Or.inr (by decide)), e37, x_up2_off (Or.inr (by decide))]; exact h13) (by rw [e57, x_up2_at, if_pos hs]; rfl) (fun _ => by rw [e57, x_up2_off (Or.inr (by decide)), e37, x_up2_off (Or.inr (by decide)), e9, x_up2_at]; exact Int32.toInt_inj.mp hc.symm))))⟩⟩
                  · have r58 : w7.toInt ≠ 61 := fun e => h54 (Int32.toInt_inj.mp (e.trans (by decide : (61:Int) = (61 : Int32).toInt)))
                    refine ev_loc f_X12_ahead (nx := 244) rfl rfl rfl rfl ?_
                    refine ev_bp f_X12_ahead (nx := 246) (v := 40) rfl (by decide) rfl ?_
                    refine ev_f f_X12_ahead (t1 := 255) (t2 := 249) rfl rfl rfl (t_neT' (by decide : (40:Int32).toInt ≤ (40:Int)) l35 (by decide)) ?_
                    refine ev_loc f_X12_ahead (nx := 250) rfl rfl rfl rfl ?_
                    refine ev_bp f_X12_ahead (nx := 252) (v := 41) rfl (by decide) rfl ?_
                    refine ev_f f_X12_ahead (t1 := 255) (t2 := 259) rfl rfl rfl (t_neT' (by decide : (41:Int32).toInt ≤ (41:Int)) l35 (by decide)) ?_
                    refine ev_ic f_X12_ahead (nx := 260) (v := 1) rfl (by decide) rfl ?_
                    refine ev_putIT f_X12_ahead (nx := 263) rfl (hI.wf.s rfl) rfl rfl rfl (hI.putB (hI.wf.s rfl) rfl rfl (by decide : (1:Int) ≤ (1:Int32).toInt) (by decide) (by decide : (1:Int32).toInt ≤ (1:Int)) (by decide)) (hX.upI rfl) (fun g59 e59 hI hX => ?_)
                    exact ev_ret f_X12_ahead rfl rfl rfl ⟨_, _, _, rfl, hI, hX, ⟨rfl, (show ∀ (b : Nat → Int32) (n q : Nat), t_Sm b n q gi → t_TM b n q g59 from (fun b n q h => (by
                                                            obtain ⟨i, hi, hF, hp⟩ := j3_0 b n q h
                                                            have s44 := hi.up (by decide) e6
                                                            have s58 := s44.up (by decide) e9
                                                            have hw : w7.toInt = s_at b n (g9 69 14).toNatClampNeg := by rw [e9, x_up2_off (Or.inr (by decide)), e6, x_up2_off (Or.inr (by decide))]; exact q7.1 b n s44.1
                                                            have h13 : (g9 69 13).toInt = (i : Int) := by rw [e9, x_up2_off (Or.inr (by decide)), e6, x_up2_at]; exact hi.2.1
                                                            have hn : i < n := by
                                                              rw [s58.cl] at hw
                                                              exact Nat.lt_of_not_le (fun hh => absurd (s_at_n (b := b) hh) (by omega))
                                                            have hw1 := s58.out hw (c := 97) (d := 122) (by decide) (by decide) (by omega) hn
                                                            have hw2 := s58.out hw (c := 48) (d := 57) (by decide) (by decide) (by omega) hn
                                                            have hs : ¬ s_sg (b i).toInt = true := fun hh => by
                                                              have hr := s_sg_r hh
                                                              have hc := (s_at_c (i := i) s58.1.1.2 (c := (b i).toInt) (by omega) (by omega)).mpr ⟨hn, rfl⟩
                                                              rw [s58.cl, hc] at hw
                                                              exact absurd hh (s_sgF (by omega))
                                                            exact t_TM_4 ((s58.nx (by have h3 := s58.2.1; rw [e9, x_up2_off (Or.inr (by decide)), e6, x_up2_off (Or.inr (by decide))] at h3; omega) hn e37).up2 e59) hF hp hn hw1 hw2 (by rw [e59, x_up2_off (Or.inr (by decide)), e37, x_up2_off (Or.inr (by decide))]; exact h13) (by rw [e59, x_up2_at, if_neg hs]; rfl) (fun hh => absurd hh hs))))⟩⟩
          · have u60 : w7.toInt ≤ 57 := t_leu (t_nlt h34) (by decide : (57:Int32).toInt ≤ (57:Int))
            refine ev_ic f_X12_isDigit (nx := 13) (v := 1) rfl (by decide) rfl ?_
            refine ev_jmp f_X12_isDigit (nx := 17) rfl rfl rfl ?_
            refine ev_retK1 f_X12_isDigit rfl rfl rfl ?_
            refine ev_f f_X12_ahead (t1 := 208) (t2 := 123) rfl rfl rfl (by decide) ?_
            refine ev_loc f_X12_ahead (nx := 124) rfl rfl rfl rfl ?_
            refine ev_ic f_X12_ahead (nx := 125) (v := 0) rfl (by decide) rfl ?_
            refine ev_putIT f_X12_ahead (nx := 128) rfl (hI.wf.s rfl) rfl rfl rfl (hI.put0 (hI.wf.s rfl) rfl rfl) (hX.upI rfl) (fun g61 e61 hI hX => ?_)
            have L62 : ∀ (m62 : Nat) (gi62 : Nat → Nat → Int32) (gl62 : Nat → Nat → Int64) (gr62 : Nat → Nat → Value), t_I sh gi62 gr62 → t_X wl_n_ahead sh gi gl gr gi62 gl62 gr62 → gi62 69 11 = (gi3 69 11) → gi62 69 13 = (gi3 69 14) → (∀ (b : Nat → Int32) (n q : Nat), t_Sm b n q gi → ∃ i j : Nat, t_MW s_dg b n q i j gi62 ∧ (j - i ≤ 4 → gi62 69 15 = s_nn b i (j - i))) → (900 - (gi62 69 14).toInt).toNat = m62 → x_Ev X (d + 2) n_X12_ahead 128 [(1, .int w7), (0, .ref 69)] [] (sh, gi62, gl62, gr62) (t_PN wl_n_ahead sh gi gl gr (Q_n_ahead gi gl gr)) := by
              intro m62
              induction m62 using Nat.strongRecOn with
              | _ m62 ih62 =>
              intro gi62 gl62 gr62 hI hX c62_0 c62_1 j62_0 hm62
              obtain ⟨l63, u63⟩ := hI.b (hI.wf.s (k := 69) rfl) (t_bdK rfl : t_bd 11 14 = some (0, 900))
              refine ev_loc f_X12_ahead (nx := 129) rfl rfl rfl rfl ?_
              refine ev_loc f_X12_ahead (nx := 130) rfl rfl rfl rfl ?_
              refine ev_gvI f_X12_ahead (nx := 133) (w := (gi62 69 14)) rfl (hI.wf.s rfl) rfl rfl rfl rfl ?_
              refine ev_qI0 f_X12_ahead (nx := 136) (r := []) rfl rfl rfl rfl rfl rfl rfl (c_n_byteAt hI ((gi62 69 14)) l63) rfl (fun w64 l64 u64 q64 => ?_)
              have ff65 : (gi62 69 11).toInt = (gi3 69 11).toInt := congrArg Int32.toInt c62_0
              have q64 : (∀ (b : Nat → Int32) (n : Nat), t_Tx b n gi62 → w64.toInt = s_at b n (gi62 69 14).toNatClampNeg) ∧ (w64.toInt ≠ -1 → (gi62 69 14).toInt < (gi62 69 11).toInt) ∧ (w64.toInt = -1 → (gi62 69 11).toInt ≤ (gi62 69 14).toInt) := q64
              refine ev_inS1 f_X12_ahead (nx := 139) (lo2 := [(0, .int w64)]) rfl rfl rfl rfl f_X12_isDigit rfl rfl rfl rfl ?_
              refine ev_loc f_X12_isDigit (nx := 1) rfl rfl rfl rfl ?_
              refine ev_bp f_X12_isDigit (nx := 3) (v := 48) rfl (by decide) rfl ?_
              refine ev_if f_X12_isDigit (t1 := 16) (t2 := 6) rfl rfl rfl (fun h66 => ?_) (fun h66 => ?_)
              · have u67 : w64.toInt ≤ 47 := t_ltu h66 (by decide : (48:Int32).toInt ≤ (48:Int)) rfl
                refine ev_ic f_X12_isDigit (nx := 17) (v := 0) rfl (by decide) rfl ?_
                refine ev_retK1 f_X12_isDigit rfl rfl rfl ?_
                refine ev_t f_X12_ahead (t1 := 183) (t2 := 142) rfl rfl rfl (by decide) ?_
                refine ev_loc f_X12_ahead (nx := 184) rfl rfl rfl rfl ?_
                refine ev_loc f_X12_ahead (nx := 185) rfl rfl rfl rfl ?_
                refine ev_gvI f_X12_ahead (nx := 188) (w := (gi62 69 14)) rfl (hI.wf.s rfl) rfl rfl rfl rfl ?_
                refine ev_loc f_X12_ahead (nx := 189) rfl rfl rfl rfl ?_
                refine ev_gvI f_X12_ahead (nx := 192) (w := (gi3 69 14)) rfl (hI.wf.s rfl) rfl rfl c62_1 rfl ?_
                refine ev_subR f_X12_ahead (nx := 193) (l := (-900)) (u := 900) rfl l63 u63 l5 u5 rfl rfl (by decide) (by decide) rfl (fun z68 e68 l68 u68 => ?_)
                refine ev_ic f_X12_ahead (nx := 194) (v := 4) rfl (by decide) rfl ?_
                refine ev_if f_X12_ahead (t1 := 201) (t2 := 197) rfl rfl rfl (fun h69 => ?_) (fun h69 => ?_)
                · have u70 : z68.toInt ≤ 4 := t_leu h69 (by decide : (4:Int32).toInt ≤ (4:Int))
                  refine ev_ic f_X12_ahead (nx := 202) (v := 3) rfl (by decide) rfl ?_
                  refine ev_putIT f_X12_ahead (nx := 205) rfl (hI.wf.s rfl) rfl rfl rfl (hI.putB (hI.wf.s rfl) rfl rfl (by decide : (3:Int) ≤ (3:Int32).toInt) (by decide) (by decide : (3:Int32).toInt ≤ (3:Int)) (by decide)) (hX.upI rfl) (fun g71 e71 hI hX => ?_)
                  refine ev_jmp f_X12_ahead (nx := 263) rfl rfl rfl ?_
                  exact ev_ret f_X12_ahead rfl rfl rfl ⟨_, _, _, rfl, hI, hX, ⟨rfl, (show ∀ (b : Nat → Int32) (n q : Nat), t_Sm b n q gi → t_TM b n q g71 from (fun b n q h => (by
                                                            obtain ⟨i, j, hm, hv⟩ := j62_0 b n q h
                                                            have he := hm.e (fun hj => s_dgF' (hm.1.1.out (q64.1 b n hm.1.1.1) (c := 48) (d := 57) (by decide) (by decide) (by omega) hj))
                                                            have h13 := hm.1.2.1
                                                            have h14 := hm.1.1.2.1
                                                            have h15 := congrArg Int32.toInt c62_1
                                                            exact t_TM_3 (hm.up (by decide) e71) he (fun h4 => by rw [e71, x_up2_off (Or.inr (by decide))]; exact hv h4) (by rw [e71, x_up2_at, if_neg (by omega)]; rfl))))⟩⟩
                · have l72 : 5 ≤ z68.toInt := t_ltl (t_nle h69) (by decide : (4:Int) ≤ (4:Int32).toInt) rfl
                  have u73 : (gi3 69 14).toInt ≤ 895 := by have := u63; omega
                  refine ev_ic f_X12_ahead (nx := 198) (v := 1) rfl (by decide) rfl ?_
                  refine ev_jmp f_X12_ahead (nx := 202) rfl rfl rfl ?_
                  refine ev_putIT f_X12_ahead (nx := 205) rfl (hI.wf.s rfl) rfl rfl rfl (hI.putB (hI.wf.s rfl) rfl rfl (by decide : (1:Int) ≤ (1:Int32).toInt) (by decide) (by decide : (1:Int32).toInt ≤ (1:Int)) (by decide)) (hX.upI rfl) (fun g74 e74 hI hX => ?_)
                  refine ev_jmp f_X12_ahead (nx := 263) rfl rfl rfl ?_
                  exact ev_ret f_X12_ahead rfl rfl rfl ⟨_, _, _, rfl, hI, hX, ⟨rfl, (show ∀ (b : Nat → Int32) (n q : Nat), t_Sm b n q gi → t_TM b n q g74 from (fun b n q h => (by
                                                            obtain ⟨i, j, hm, hv⟩ := j62_0 b n q h
                                                            have he := hm.e (fun hj => s_dgF' (hm.1.1.out (q64.1 b n hm.1.1.1) (c := 48) (d := 57) (by decide) (by decide) (by omega) hj))
                                                            have h13 := hm.1.2.1
                                                            have h14 := hm.1.1.2.1
                                                            have h15 := congrArg Int32.toInt c62_1
                                                            exact t_TM_3 (hm.up (by decide) e74) he (fun h4 => by rw [e74, x_up2_off (Or.inr (by decide))]; exact hv h4) (by rw [e74, x_up2_at, if_pos (by omega)]; rfl))))⟩⟩
              · have l75 : 48 ≤ w64.toInt := t_lel (t_nlt h66) (by decide : (48:Int) ≤ (48:Int32).toInt)
                refine ev_loc f_X12_isDigit (nx := 7) rfl rfl rfl rfl ?_
                refine ev_bp f_X12_isDigit (nx := 9) (v := 57) rfl (by decide) rfl ?_
                refine ev_if f_X12_isDigit (t1 := 16) (t2 := 12) rfl rfl rfl (fun h76 => ?_) (fun h76 => ?_)
                · have l77 : 58 ≤ w64.toInt := t_ltl h76 (by decide : (57:Int) ≤ (57:Int32).toInt) rfl
                  refine ev_ic f_X12_isDigit (nx := 17) (v := 0) rfl (by decide) rfl ?_
                  refine ev_retK1 f_X12_isDigit rfl rfl rfl ?_
                  refine ev_t f_X12_ahead (t1 := 183) (t2 := 142) rfl rfl rfl (by decide) ?_
                  refine ev_loc f_X12_ahead (nx := 184) rfl rfl rfl rfl ?_
                  refine ev_loc f_X12_ahead (nx := 185) rfl rfl rfl rfl ?_
                  refine ev_gvI f_X12_ahead (nx := 188) (w := (gi62 69 14)) rfl (hI.wf.s rfl) rfl rfl rfl rfl ?_
                  refine ev_loc f_X12_ahead (nx := 189) rfl rfl rfl rfl ?_
                  refine ev_gvI f_X12_ahead (nx := 192) (w := (gi3 69 14)) rfl (hI.wf.s rfl) rfl rfl c62_1 rfl ?_
                  refine ev_subR f_X12_ahead (nx := 193) (l := (-900)) (u := 900) rfl l63 u63 l5 u5 rfl rfl (by decide) (by decide) rfl (fun z78 e78 l78 u78 => ?_)
                  refine ev_ic f_X12_ahead (nx := 194) (v := 4) rfl (by decide) rfl ?_
                  refine ev_if f_X12_ahead (t1 := 201) (t2 := 197) rfl rfl rfl (fun h79 => ?_) (fun h79 => ?_)
                  · have u80 : z78.toInt ≤ 4 := t_leu h79 (by decide : (4:Int32).toInt ≤ (4:Int))
                    refine ev_ic f_X12_ahead (nx := 202) (v := 3) rfl (by decide) rfl ?_
                    refine ev_putIT f_X12_ahead (nx := 205) rfl (hI.wf.s rfl) rfl rfl rfl (hI.putB (hI.wf.s rfl) rfl rfl (by decide : (3:Int) ≤ (3:Int32).toInt) (by decide) (by decide : (3:Int32).toInt ≤ (3:Int)) (by decide)) (hX.upI rfl) (fun g81 e81 hI hX => ?_)
                    refine ev_jmp f_X12_ahead (nx := 263) rfl rfl rfl ?_
                    exact ev_ret f_X12_ahead rfl rfl rfl ⟨_, _, _, rfl, hI, hX, ⟨rfl, (show ∀ (b : Nat → Int32) (n q : Nat), t_Sm b n q gi → t_TM b n q g81 from (fun b n q h => (by
                                                            obtain ⟨i, j, hm, hv⟩ := j62_0 b n q h
                                                            have he := hm.e (fun hj => s_dgF' (hm.1.1.out (q64.1 b n hm.1.1.1) (c := 48) (d := 57) (by decide) (by decide) (by omega) hj))
                                                            have h13 := hm.1.2.1
                                                            have h14 := hm.1.1.2.1
                                                            have h15 := congrArg Int32.toInt c62_1
                                                            exact t_TM_3 (hm.up (by decide) e81) he (fun h4 => by rw [e81, x_up2_off (Or.inr (by decide))]; exact hv h4) (by rw [e81, x_up2_at, if_neg (by omega)]; rfl))))⟩⟩
                  · have l82 : 5 ≤ z78.toInt := t_ltl (t_nle h79) (by decide : (4:Int) ≤ (4:Int32).toInt) rfl
                    have u83 : (gi3 69 14).toInt ≤ 895 := by have := u63; omega
                    refine ev_ic f_X12_ahead (nx := 198) (v := 1) rfl (by decide) rfl ?_
                    refine ev_jmp f_X12_ahead (nx := 202) rfl rfl rfl ?_
                    refine ev_putIT f_X12_ahead (nx := 205) rfl (hI.wf.s rfl) rfl rfl rfl (hI.putB (hI.wf.s rfl) rfl rfl (by decide : (1:Int) ≤ (1:Int32).toInt) (by decide) (by decide : (1:Int32).toInt ≤ (1:Int)) (by decide)) (hX.upI rfl) (fun g84 e84 hI hX => ?_)
                    refine ev_jmp f_X12_ahead (nx := 263) rfl rfl rfl ?_
                    exact ev_ret f_X12_ahead rfl rfl rfl ⟨_, _, _, rfl, hI, hX, ⟨rfl, (show ∀ (b : Nat → Int32) (n q : Nat), t_Sm b n q gi → t_TM b n q g84 from (fun b n q h => (by
                                                            obtain ⟨i, j, hm, hv⟩ := j62_0 b n q h
                                                            have he := hm.e (fun hj => s_dgF' (hm.1.1.out (q64.1 b n hm.1.1.1) (c := 48) (d := 57) (by decide) (by decide) (by omega) hj))
                                                            have h13 := hm.1.2.1
                                                            have h14 := hm.1.1.2.1
                                                            have h15 := congrArg Int32.toInt c62_1
                                                            exact t_TM_3 (hm.up (by decide) e84) he (fun h4 => by rw [e84, x_up2_off (Or.inr (by decide))]; exact hv h4) (by rw [e84, x_up2_at, if_pos (by omega)]; rfl))))⟩⟩
                · have u85 : w64.toInt ≤ 57 := t_leu (t_nlt h76) (by decide : (57:Int32).toInt ≤ (57:Int))
                  refine ev_ic f_X12_isDigit (nx := 13) (v := 1) rfl (by decide) rfl ?_
                  refine ev_jmp f_X12_isDigit (nx := 17) rfl rfl rfl ?_
                  refine ev_retK1 f_X12_isDigit rfl rfl rfl ?_
                  refine ev_f f_X12_ahead (t1 := 183) (t2 := 142) rfl rfl rfl (by decide) ?_
                  refine ev_loc f_X12_ahead (nx := 143) rfl rfl rfl rfl ?_
                  refine ev_ldI f_X12_ahead (nx := 145) (v := 100000) rfl (by decide) rfl ?_
                  refine ev_bp f_X12_ahead (nx := 147) (v := 10) rfl (by decide) rfl ?_
                  refine ev_loc f_X12_ahead (nx := 148) rfl rfl rfl rfl ?_
                  refine ev_getI f_X12_ahead (nx := 151) rfl (hI.wf.s rfl) rfl rfl rfl ?_
                  refine ev_anyIE f_X12_ahead (nx := 152) rfl rfl rfl rfl (fun z86 e86 => ?_)
                  refine ev_loc f_X12_ahead (nx := 153) rfl rfl rfl rfl ?_
                  refine ev_loc f_X12_ahead (nx := 154) rfl rfl rfl rfl ?_
                  refine ev_gvI f_X12_ahead (nx := 157) (w := (gi62 69 14)) rfl (hI.wf.s rfl) rfl rfl rfl rfl ?_
                  refine ev_qI0 f_X12_ahead (nx := 160) (r := [.int z86, .int 100000, .ref 69]) rfl rfl rfl rfl rfl rfl rfl (c_n_byteAt hI ((gi62 69 14)) l63) rfl (fun w87 l87 u87 q87 => ?_)
                  have ff88 : (gi62 69 11).toInt = (gi3 69 11).toInt := congrArg Int32.toInt c62_0
                  have q87 : (∀ (b : Nat → Int32) (n : Nat), t_Tx b n gi62 → w87.toInt = s_at b n (gi62 69 14).toNatClampNeg) ∧ (w87.toInt ≠ -1 → (gi62 69 14).toInt < (gi62 69 11).toInt) ∧ (w87.toInt = -1 → (gi62 69 11).toInt ≤ (gi62 69 14).toInt) := q87
                  refine ev_anyIE f_X12_ahead (nx := 161) rfl rfl rfl rfl (fun z89 e89 => ?_)
                  refine ev_bp f_X12_ahead (nx := 163) (v := 48) rfl (by decide) rfl ?_
                  refine ev_anyIE f_X12_ahead (nx := 164) rfl rfl rfl rfl (fun z90 e90 => ?_)
                  refine ev_minE f_X12_ahead (nx := 167) (l := (-2147483648)) (u := 100000) rfl rfl (by omega) rfl (by decide : (100000:Int) ≤ (100000:Int32).toInt) (by decide : (100000:Int32).toInt ≤ (100000:Int)) (t_lo z90) (t_hi z90) (by decide) (by decide) rfl (fun z91 e91 l91 u91 => ?_)
                  refine ev_putIT f_X12_ahead (nx := 170) rfl (hI.wf.s rfl) rfl rfl rfl (hI.put0 (hI.wf.s rfl) rfl rfl) (hX.upI rfl) (fun g92 e92 hI hX => ?_)
                  refine ev_loc f_X12_ahead (nx := 171) rfl rfl rfl rfl ?_
                  refine ev_alu f_X12_ahead (nx := 172) rfl rfl rfl rfl ?_
                  refine ev_gvI f_X12_ahead (nx := 175) (w := (gi62 69 14)) rfl (hI.wf.s rfl) rfl rfl ((by rw [e92]; exact x_up2_off (Or.inr (by decide)) : g92 69 14 = gi62 69 14).trans rfl) rfl ?_
                  refine ev_ic f_X12_ahead (nx := 176) (v := 1) rfl (by decide) rfl ?_
                  refine ev_addC f_X12_ahead (nx := 177) (c := 1) (l := 1) (u := 901) rfl (by decide) l63 u63 rfl rfl (by decide) (by decide) rfl (fun z93 e93 l93 u93 => ?_)
                  have u95 : z93.toInt ≤ (900:Int) := (by have h1 := q64.2.1 (by omega); omega)
                  refine ev_putIT f_X12_ahead (nx := 180) rfl (hI.wf.s rfl) rfl rfl rfl (hI.putB (hI.wf.s rfl) rfl rfl l93 (by decide) u95 (by decide)) (hX.upI rfl) (fun g94 e94 hI hX => ?_)
                  refine ev_jmp f_X12_ahead (nx := 128) rfl rfl rfl ?_
                  refine ev_sub (lo := [(1, .int w7), (0, .ref 69)]) rfl (t_sc rfl (t_sc rfl t_sn)) ?_
                  exact ih62 _ (by have h1 := q64.2.1 (by omega); have ff96 : (g94 69 14).toInt = z93.toInt := congrArg Int32.toInt (by rw [e94]; exact x_up2_at _ _ _ _ : g94 69 14 = z93); omega) g94 gl62 gr62  hI hX  ((by rw [e94]; exact x_up2_off (Or.inr (by decide)) : g94 69 11 = g92 69 11).trans ((by rw [e92]; exact x_up2_off (Or.inr (by decide)) : g92 69 11 = gi62 69 11).trans c62_0)) ((by rw [e94]; exact x_up2_off (Or.inr (by decide)) : g94 69 13 = g92 69 13).trans ((by rw [e92]; exact x_up2_off (Or.inr (by decide)) : g92 69 13 = gi62 69 13).trans c62_1)) (fun b n q h => (by
                                                            obtain ⟨i, j, hm, hv⟩ := j62_0 b n q h
                                                            have hb := hm.1.1.inn (q64.1 b n hm.1.1.1) (c := 48) (d := 57) (by decide) (by decide) (by omega) (by omega)
                                                            have hw2 : w87.toInt = (b j).toInt := by
                                                              have h1 := q87.1 b n hm.1.1.1
                                                              rw [hm.1.1.cl] at h1
                                                              exact h1.trans ((s_at_c hm.1.1.1.1.2 (by omega) (by omega)).mpr ⟨hb.1, rfl⟩)
                                                            have hd := hm.dig hb.1 hb.2 hv (x := z91) (fun a0 a1 => by rw [t_dig1 e86 e89 e90 e91 (by omega) (by omega) a0 a1, hw2])
                                                            exact ⟨i, j + 1, (hm.up (by decide) e92).s hb.1 (s_dgT hb.2.1 hb.2.2) (by have h3 := hm.1.1.2.1; omega) e94, fun h4 => by rw [e94, x_up2_off (Or.inr (by decide)), e92, x_up2_at]; exact hd h4⟩)) rfl
            refine ev_sub (lo := [(1, .int w7), (0, .ref 69)]) rfl (t_sc rfl (t_sc rfl t_sn)) ?_
            exact L62 _ g61 gl3 gr3  hI hX  ((by rw [e61]; exact x_up2_off (Or.inr (by decide)) : g61 69 11 = g9 69 11).trans ((by rw [e9]; exact x_up2_off (Or.inr (by decide)) : g9 69 11 = g6 69 11).trans ((by rw [e6]; exact x_up2_off (Or.inr (by decide)) : g6 69 11 = gi3 69 11).trans rfl))) ((by rw [e61]; exact x_up2_off (Or.inr (by decide)) : g61 69 13 = g9 69 13).trans ((by rw [e9]; exact x_up2_off (Or.inr (by decide)) : g9 69 13 = g6 69 13).trans (by rw [e6]; exact x_up2_at _ _ _ _ : g6 69 13 = (gi3 69 14)))) (fun b n q h => (by
                                                            obtain ⟨i, hi, hF, hp⟩ := j3_0 b n q h
                                                            have s44 := hi.up (by decide) e6
                                                            have s58 := s44.up (by decide) e9
                                                            have hw : w7.toInt = s_at b n (g9 69 14).toNatClampNeg := by rw [e9, x_up2_off (Or.inr (by decide)), e6, x_up2_off (Or.inr (by decide))]; exact q7.1 b n s44.1
                                                            have h13 : (g9 69 13).toInt = (i : Int) := by rw [e9, x_up2_off (Or.inr (by decide)), e6, x_up2_at]; exact hi.2.1
                                                            have hb := s58.inn hw (c := 48) (d := 57) (by decide) (by decide) (by omega) (by omega)
                                                            have hm : t_MW s_dg b n q i i g9 := ⟨⟨s58, h13, hF, hp⟩, ⟨hb.1, s_dgT hb.2.1 hb.2.2⟩, Nat.le_refl _, rfl⟩
                                                            exact ⟨i, i, hm.up (by decide) e61, fun _ => by rw [e61, x_up2_at, Nat.sub_self]; rfl⟩)) rfl
      · have l97 : 97 ≤ w7.toInt := t_lel (t_nlt h15) (by decide : (97:Int) ≤ (97:Int32).toInt)
        refine ev_loc f_X12_isSmall (nx := 7) rfl rfl rfl rfl ?_
        refine ev_bp f_X12_isSmall (nx := 9) (v := 122) rfl (by decide) rfl ?_
        refine ev_if f_X12_isSmall (t1 := 16) (t2 := 12) rfl rfl rfl (fun h98 => ?_) (fun h98 => ?_)
        · have l99 : 123 ≤ w7.toInt := t_ltl h98 (by decide : (122:Int) ≤ (122:Int32).toInt) rfl
          refine ev_ic f_X12_isSmall (nx := 17) (v := 0) rfl (by decide) rfl ?_
          refine ev_retK1 f_X12_isSmall rfl rfl rfl ?_
          refine ev_t f_X12_ahead (t1 := 116) (t2 := 81) rfl rfl rfl (by decide) ?_
          refine ev_loc f_X12_ahead (nx := 117) rfl rfl rfl rfl ?_
          refine ev_inS1 f_X12_ahead (nx := 120) (lo2 := [(0, .int w7)]) rfl rfl rfl rfl f_X12_isDigit rfl rfl rfl rfl ?_
          refine ev_loc f_X12_isDigit (nx := 1) rfl rfl rfl rfl ?_
          refine ev_bp f_X12_isDigit (nx := 3) (v := 48) rfl (by decide) rfl ?_
          refine ev_f f_X12_isDigit (t1 := 16) (t2 := 6) rfl rfl rfl (t_ltF (by decide : (48:Int32).toInt ≤ (48:Int)) l99 (by decide)) ?_
          refine ev_loc f_X12_isDigit (nx := 7) rfl rfl rfl rfl ?_
          refine ev_bp f_X12_isDigit (nx := 9) (v := 57) rfl (by decide) rfl ?_
          refine ev_t f_X12_isDigit (t1 := 16) (t2 := 12) rfl rfl rfl (t_ltT (by decide : (57:Int32).toInt ≤ (57:Int)) l99 (by decide)) ?_
          refine ev_ic f_X12_isDigit (nx := 17) (v := 0) rfl (by decide) rfl ?_
          refine ev_retK1 f_X12_isDigit rfl rfl rfl ?_
          refine ev_t f_X12_ahead (t1 := 208) (t2 := 123) rfl rfl rfl (by decide) ?_
          refine ev_loc f_X12_ahead (nx := 209) rfl rfl rfl rfl ?_
          refine ev_alu f_X12_ahead (nx := 210) rfl rfl rfl rfl ?_
          refine ev_gvI f_X12_ahead (nx := 213) (w := (gi3 69 14)) rfl (hI.wf.s rfl) rfl rfl ((by rw [e9]; exact x_up2_off (Or.inr (by decide)) : g9 69 14 = g6 69 14).trans ((by rw [e6]; exact x_up2_off (Or.inr (by decide)) : g6 69 14 = gi3 69 14).trans rfl)) rfl ?_
          refine ev_ic f_X12_ahead (nx := 214) (v := 1) rfl (by decide) rfl ?_
          refine ev_addC f_X12_ahead (nx := 215) (c := 1) (l := 1) (u := 901) rfl (by decide) l5 u5 rfl rfl (by decide) (by decide) rfl (fun z100 e100 l100 u100 => ?_)
          have u102 : z100.toInt ≤ (900:Int) := (by have h1 := q7.2.1 (by omega); omega)
          refine ev_putIT f_X12_ahead (nx := 218) rfl (hI.wf.s rfl) rfl rfl rfl (hI.putB (hI.wf.s rfl) rfl rfl l100 (by decide) u102 (by decide)) (hX.upI rfl) (fun g101 e101 hI hX => ?_)
          refine ev_loc f_X12_ahead (nx := 219) rfl rfl rfl rfl ?_
          refine ev_loc f_X12_ahead (nx := 220) rfl rfl rfl rfl ?_
          refine ev_bp f_X12_ahead (nx := 222) (v := 59) rfl (by decide) rfl ?_
          refine ev_f f_X12_ahead (t1 := 255) (t2 := 225) rfl rfl rfl (t_neT' (by decide : (59:Int32).toInt ≤ (59:Int)) l99 (by decide)) ?_
          refine ev_loc f_X12_ahead (nx := 226) rfl rfl rfl rfl ?_
          refine ev_bp f_X12_ahead (nx := 228) (v := 60) rfl (by decide) rfl ?_
          refine ev_f f_X12_ahead (t1 := 255) (t2 := 231) rfl rfl rfl (t_neT' (by decide : (60:Int32).toInt ≤ (60:Int)) l99 (by decide)) ?_
          refine ev_loc f_X12_ahead (nx := 232) rfl rfl rfl rfl ?_
          refine ev_bp f_X12_ahead (nx := 234) (v := 62) rfl (by decide) rfl ?_
          refine ev_f f_X12_ahead (t1 := 255) (t2 := 237) rfl rfl rfl (t_neT' (by decide : (62:Int32).toInt ≤ (62:Int)) l99 (by decide)) ?_
          refine ev_loc f_X12_ahead (nx := 238) rfl rfl rfl rfl ?_
          refine ev_bp f_X12_ahead (nx := 240) (v := 61) rfl (by decide) rfl ?_
          refine ev_f f_X12_ahead (t1 := 255) (t2 := 243) rfl rfl rfl (t_neT' (by decide : (61:Int32).toInt ≤ (61:Int)) l99 (by decide)) ?_
          refine ev_loc f_X12_ahead (nx := 244) rfl rfl rfl rfl ?_
          refine ev_bp f_X12_ahead (nx := 246) (v := 40) rfl (by decide) rfl ?_
          refine ev_f f_X12_ahead (t1 := 255) (t2 := 249) rfl rfl rfl (t_neT' (by decide : (40:Int32).toInt ≤ (40:Int)) l99 (by decide)) ?_
          refine ev_loc f_X12_ahead (nx := 250) rfl rfl rfl rfl ?_
          refine ev_bp f_X12_ahead (nx := 252) (v := 41) rfl (by decide) rfl ?_
          refine ev_f f_X12_ahead (t1 := 255) (t2 := 259) rfl rfl rfl (t_neT' (by decide : (41:Int32).toInt ≤ (41:Int)) l99 (by decide)) ?_
          refine ev_ic f_X12_ahead (nx := 260) (v := 1) rfl (by decide) rfl ?_
          refine ev_putIT f_X12_ahead (nx := 263) rfl (hI.wf.s rfl) rfl rfl rfl (hI.putB (hI.wf.s rfl) rfl rfl (by decide : (1:Int) ≤ (1:Int32).toInt) (by decide) (by decide : (1:Int32).toInt ≤ (1:Int)) (by decide)) (hX.upI rfl) (fun g103 e103 hI hX => ?_)
          exact ev_ret f_X12_ahead rfl rfl rfl ⟨_, _, _, rfl, hI, hX, ⟨rfl, (show ∀ (b : Nat → Int32) (n q : Nat), t_Sm b n q gi → t_TM b n q g103 from (fun b n q h => (by
                                                            obtain ⟨i, hi, hF, hp⟩ := j3_0 b n q h
                                                            have s44 := hi.up (by decide) e6
                                                            have s58 := s44.up (by decide) e9
                                                            have hw : w7.toInt = s_at b n (g9 69 14).toNatClampNeg := by rw [e9, x_up2_off (Or.inr (by decide)), e6, x_up2_off (Or.inr (by decide))]; exact q7.1 b n s44.1
                                                            have h13 : (g9 69 13).toInt = (i : Int) := by rw [e9, x_up2_off (Or.inr (by decide)), e6, x_up2_at]; exact hi.2.1
                                                            have hn : i < n := by
                                                              rw [s58.cl] at hw
                                                              exact Nat.lt_of_not_le (fun hh => absurd (s_at_n (b := b) hh) (by omega))
                                                            have hw1 := s58.out hw (c := 97) (d := 122) (by decide) (by decide) (by omega) hn
                                                            have hw2 := s58.out hw (c := 48) (d := 57) (by decide) (by decide) (by omega) hn
                                                            have hs : ¬ s_sg (b i).toInt = true := fun hh => by
                                                              have hr := s_sg_r hh
                                                              have hc := (s_at_c (i := i) s58.1.1.2 (c := (b i).toInt) (by omega) (by omega)).mpr ⟨hn, rfl⟩
                                                              rw [s58.cl, hc] at hw
                                                              exact absurd hh (s_sgF (by omega))
                                                            exact t_TM_4 ((s58.nx (by have h3 := s58.2.1; rw [e9, x_up2_off (Or.inr (by decide)), e6, x_up2_off (Or.inr (by decide))] at h3; omega) hn e101).up2 e103) hF hp hn hw1 hw2 (by rw [e103, x_up2_off (Or.inr (by decide)), e101, x_up2_off (Or.inr (by decide))]; exact h13) (by rw [e103, x_up2_at, if_neg hs]; rfl) (fun hh => absurd hh hs))))⟩⟩
        · have u104 : w7.toInt ≤ 122 := t_leu (t_nlt h98) (by decide : (122:Int32).toInt ≤ (122:Int))
          refine ev_ic f_X12_isSmall (nx := 13) (v := 1) rfl (by decide) rfl ?_
          refine ev_jmp f_X12_isSmall (nx := 17) rfl rfl rfl ?_
          refine ev_retK1 f_X12_isSmall rfl rfl rfl ?_
          refine ev_f f_X12_ahead (t1 := 116) (t2 := 81) rfl rfl rfl (by decide) ?_
          have L105 : ∀ (m105 : Nat) (gi105 : Nat → Nat → Int32) (gl105 : Nat → Nat → Int64) (gr105 : Nat → Nat → Value), t_I sh gi105 gr105 → t_X wl_n_ahead sh gi gl gr gi105 gl105 gr105 → gi105 69 11 = (gi3 69 11) → gi105 69 13 = (gi3 69 14) → (∀ (b : Nat → Int32) (n q : Nat), t_Sm b n q gi → ∃ i j : Nat, t_MW s_sm b n q i j gi105) → (900 - (gi105 69 14).toInt).toNat = m105 → x_Ev X (d + 2) n_X12_ahead 81 [(1, .int w7), (0, .ref 69)] [] (sh, gi105, gl105, gr105) (t_PN wl_n_ahead sh gi gl gr (Q_n_ahead gi gl gr)) := by
            intro m105
            induction m105 using Nat.strongRecOn with
            | _ m105 ih105 =>
            intro gi105 gl105 gr105 hI hX c105_0 c105_1 j105_0 hm105
            obtain ⟨l106, u106⟩ := hI.b (hI.wf.s (k := 69) rfl) (t_bdK rfl : t_bd 11 14 = some (0, 900))
            refine ev_loc f_X12_ahead (nx := 82) rfl rfl rfl rfl ?_
            refine ev_loc f_X12_ahead (nx := 83) rfl rfl rfl rfl ?_
            refine ev_gvI f_X12_ahead (nx := 86) (w := (gi105 69 14)) rfl (hI.wf.s rfl) rfl rfl rfl rfl ?_
            refine ev_qI0 f_X12_ahead (nx := 89) (r := []) rfl rfl rfl rfl rfl rfl rfl (c_n_byteAt hI ((gi105 69 14)) l106) rfl (fun w107 l107 u107 q107 => ?_)
            have ff108 : (gi105 69 11).toInt = (gi3 69 11).toInt := congrArg Int32.toInt c105_0
            have q107 : (∀ (b : Nat → Int32) (n : Nat), t_Tx b n gi105 → w107.toInt = s_at b n (gi105 69 14).toNatClampNeg) ∧ (w107.toInt ≠ -1 → (gi105 69 14).toInt < (gi105 69 11).toInt) ∧ (w107.toInt = -1 → (gi105 69 11).toInt ≤ (gi105 69 14).toInt) := q107
            refine ev_inS1 f_X12_ahead (nx := 92) (lo2 := [(0, .int w107)]) rfl rfl rfl rfl f_X12_isSmall rfl rfl rfl rfl ?_
            refine ev_loc f_X12_isSmall (nx := 1) rfl rfl rfl rfl ?_
            refine ev_bp f_X12_isSmall (nx := 3) (v := 97) rfl (by decide) rfl ?_
            refine ev_if f_X12_isSmall (t1 := 16) (t2 := 6) rfl rfl rfl (fun h109 => ?_) (fun h109 => ?_)
            · have u110 : w107.toInt ≤ 96 := t_ltu h109 (by decide : (97:Int32).toInt ≤ (97:Int)) rfl
              refine ev_ic f_X12_isSmall (nx := 17) (v := 0) rfl (by decide) rfl ?_
              refine ev_retK1 f_X12_isSmall rfl rfl rfl ?_
              refine ev_t f_X12_ahead (t1 := 108) (t2 := 95) rfl rfl rfl (by decide) ?_
              refine ev_loc f_X12_ahead (nx := 109) rfl rfl rfl rfl ?_
              refine ev_ic f_X12_ahead (nx := 110) (v := 2) rfl (by decide) rfl ?_
              refine ev_putIT f_X12_ahead (nx := 113) rfl (hI.wf.s rfl) rfl rfl rfl (hI.putB (hI.wf.s rfl) rfl rfl (by decide : (2:Int) ≤ (2:Int32).toInt) (by decide) (by decide : (2:Int32).toInt ≤ (2:Int)) (by decide)) (hX.upI rfl) (fun g111 e111 hI hX => ?_)
              refine ev_jmp f_X12_ahead (nx := 263) rfl rfl rfl ?_
              exact ev_ret f_X12_ahead rfl rfl rfl ⟨_, _, _, rfl, hI, hX, ⟨rfl, (show ∀ (b : Nat → Int32) (n q : Nat), t_Sm b n q gi → t_TM b n q g111 from (fun b n q h => (by
                                                            obtain ⟨i, j, hm⟩ := j105_0 b n q h
                                                            have he := hm.e (fun hj => s_smF' (hm.1.1.out (q107.1 b n hm.1.1.1) (c := 97) (d := 122) (by decide) (by decide) (by omega) hj))
                                                            exact t_TM_2 (hm.up (by decide) e111) he (by rw [e111, x_up2_at]; rfl))))⟩⟩
            · have l112 : 97 ≤ w107.toInt := t_lel (t_nlt h109) (by decide : (97:Int) ≤ (97:Int32).toInt)
              refine ev_loc f_X12_isSmall (nx := 7) rfl rfl rfl rfl ?_
              refine ev_bp f_X12_isSmall (nx := 9) (v := 122) rfl (by decide) rfl ?_
              refine ev_if f_X12_isSmall (t1 := 16) (t2 := 12) rfl rfl rfl (fun h113 => ?_) (fun h113 => ?_)
              · have l114 : 123 ≤ w107.toInt := t_ltl h113 (by decide : (122:Int) ≤ (122:Int32).toInt) rfl
                refine ev_ic f_X12_isSmall (nx := 17) (v := 0) rfl (by decide) rfl ?_
                refine ev_retK1 f_X12_isSmall rfl rfl rfl ?_
                refine ev_t f_X12_ahead (t1 := 108) (t2 := 95) rfl rfl rfl (by decide) ?_
                refine ev_loc f_X12_ahead (nx := 109) rfl rfl rfl rfl ?_
                refine ev_ic f_X12_ahead (nx := 110) (v := 2) rfl (by decide) rfl ?_
                refine ev_putIT f_X12_ahead (nx := 113) rfl (hI.wf.s rfl) rfl rfl rfl (hI.putB (hI.wf.s rfl) rfl rfl (by decide : (2:Int) ≤ (2:Int32).toInt) (by decide) (by decide : (2:Int32).toInt ≤ (2:Int)) (by decide)) (hX.upI rfl) (fun g115 e115 hI hX => ?_)
                refine ev_jmp f_X12_ahead (nx := 263) rfl rfl rfl ?_
                exact ev_ret f_X12_ahead rfl rfl rfl ⟨_, _, _, rfl, hI, hX, ⟨rfl, (show ∀ (b : Nat → Int32) (n q : Nat), t_Sm b n q gi → t_TM b n q g115 from (fun b n q h => (by
                                                            obtain ⟨i, j, hm⟩ := j105_0 b n q h
                                                            have he := hm.e (fun hj => s_smF' (hm.1.1.out (q107.1 b n hm.1.1.1) (c := 97) (d := 122) (by decide) (by decide) (by omega) hj))
                                                            exact t_TM_2 (hm.up (by decide) e115) he (by rw [e115, x_up2_at]; rfl))))⟩⟩
              · have u116 : w107.toInt ≤ 122 := t_leu (t_nlt h113) (by decide : (122:Int32).toInt ≤ (122:Int))
                refine ev_ic f_X12_isSmall (nx := 13) (v := 1) rfl (by decide) rfl ?_
                refine ev_jmp f_X12_isSmall (nx := 17) rfl rfl rfl ?_
                refine ev_retK1 f_X12_isSmall rfl rfl rfl ?_
                refine ev_f f_X12_ahead (t1 := 108) (t2 := 95) rfl rfl rfl (by decide) ?_
                refine ev_loc f_X12_ahead (nx := 96) rfl rfl rfl rfl ?_
                refine ev_alu f_X12_ahead (nx := 97) rfl rfl rfl rfl ?_
                refine ev_gvI f_X12_ahead (nx := 100) (w := (gi105 69 14)) rfl (hI.wf.s rfl) rfl rfl rfl rfl ?_
                refine ev_ic f_X12_ahead (nx := 101) (v := 1) rfl (by decide) rfl ?_
                refine ev_addC f_X12_ahead (nx := 102) (c := 1) (l := 1) (u := 901) rfl (by decide) l106 u106 rfl rfl (by decide) (by decide) rfl (fun z117 e117 l117 u117 => ?_)
                have u119 : z117.toInt ≤ (900:Int) := (by have h1 := q107.2.1 (by omega); omega)
                refine ev_putIT f_X12_ahead (nx := 105) rfl (hI.wf.s rfl) rfl rfl rfl (hI.putB (hI.wf.s rfl) rfl rfl l117 (by decide) u119 (by decide)) (hX.upI rfl) (fun g118 e118 hI hX => ?_)
                refine ev_jmp f_X12_ahead (nx := 81) rfl rfl rfl ?_
                refine ev_sub (lo := [(1, .int w7), (0, .ref 69)]) rfl (t_sc rfl (t_sc rfl t_sn)) ?_
                exact ih105 _ (by have h1 := q107.2.1 (by omega); have ff120 : (g118 69 14).toInt = z117.toInt := congrArg Int32.toInt (by rw [e118]; exact x_up2_at _ _ _ _ : g118 69 14 = z117); omega) g118 gl105 gr105  hI hX  ((by rw [e118]; exact x_up2_off (Or.inr (by decide)) : g118 69 11 = gi105 69 11).trans c105_0) ((by rw [e118]; exact x_up2_off (Or.inr (by decide)) : g118 69 13 = gi105 69 13).trans c105_1) (fun b n q h => (by
                                                            obtain ⟨i, j, hm⟩ := j105_0 b n q h
                                                            have hb := hm.1.1.inn (q107.1 b n hm.1.1.1) (c := 97) (d := 122) (by decide) (by decide) (by omega) (by omega)
                                                            exact ⟨i, j + 1, hm.s hb.1 (s_smT hb.2.1 hb.2.2) (by have h3 := hm.1.1.2.1; omega) e118⟩)) rfl
          refine ev_sub (lo := [(1, .int w7), (0, .ref 69)]) rfl (t_sc rfl (t_sc rfl t_sn)) ?_
          exact L105 _ g9 gl3 gr3  hI hX  ((by rw [e9]; exact x_up2_off (Or.inr (by decide)) : g9 69 11 = g6 69 11).trans ((by rw [e6]; exact x_up2_off (Or.inr (by decide)) : g6 69 11 = gi3 69 11).trans rfl)) ((by rw [e9]; exact x_up2_off (Or.inr (by decide)) : g9 69 13 = g6 69 13).trans (by rw [e6]; exact x_up2_at _ _ _ _ : g6 69 13 = (gi3 69 14))) (fun b n q h => (by
                                                            obtain ⟨i, hi, hF, hp⟩ := j3_0 b n q h
                                                            have s44 := hi.up (by decide) e6
                                                            have s58 := s44.up (by decide) e9
                                                            have hw : w7.toInt = s_at b n (g9 69 14).toNatClampNeg := by rw [e9, x_up2_off (Or.inr (by decide)), e6, x_up2_off (Or.inr (by decide))]; exact q7.1 b n s44.1
                                                            have h13 : (g9 69 13).toInt = (i : Int) := by rw [e9, x_up2_off (Or.inr (by decide)), e6, x_up2_at]; exact hi.2.1
                                                            have hb := s58.inn hw (c := 97) (d := 122) (by decide) (by decide) (by omega) (by omega)
                                                            exact ⟨i, i, ⟨s58, h13, hF, hp⟩, ⟨hb.1, s_smT hb.2.1 hb.2.2⟩, Nat.le_refl _, rfl⟩)) rfl
  have L121 : ∀ (m121 : Nat) (gi121 : Nat → Nat → Int32) (gl121 : Nat → Nat → Int64) (gr121 : Nat → Nat → Value), t_I sh gi121 gr121 → t_X wl_n_ahead sh gi gl gr gi121 gl121 gr121 → gi121 69 11 = (gi 69 11) → (∀ (b : Nat → Int32) (n q : Nat), t_Sm b n q gi → ∃ i : Nat, t_Sm b n i gi121 ∧ s_F b n i = s_F b n q) → (900 - (gi121 69 14).toInt).toNat = m121 → x_Ev X (d + 2) n_X12_ahead 0 [(0, .ref 69)] [] (sh, gi121, gl121, gr121) (t_PN wl_n_ahead sh gi gl gr (Q_n_ahead gi gl gr)) := by
    intro m121
    induction m121 using Nat.strongRecOn with
    | _ m121 ih121 =>
    intro gi121 gl121 gr121 hI hX c121_0 j121_0 hm121
    obtain ⟨l122, u122⟩ := hI.b (hI.wf.s (k := 69) rfl) (t_bdK rfl : t_bd 11 14 = some (0, 900))
    refine ev_loc f_X12_ahead (nx := 1) rfl rfl rfl rfl ?_
    refine ev_loc f_X12_ahead (nx := 2) rfl rfl rfl rfl ?_
    refine ev_gvI f_X12_ahead (nx := 5) (w := (gi121 69 14)) rfl (hI.wf.s rfl) rfl rfl rfl rfl ?_
    refine ev_qI0 f_X12_ahead (nx := 8) (r := []) rfl rfl rfl rfl rfl rfl rfl (c_n_byteAt hI ((gi121 69 14)) l122) rfl (fun w123 l123 u123 q123 => ?_)
    have ff124 : (gi121 69 11).toInt = (gi 69 11).toInt := congrArg Int32.toInt c121_0
    have q123 : (∀ (b : Nat → Int32) (n : Nat), t_Tx b n gi121 → w123.toInt = s_at b n (gi121 69 14).toNatClampNeg) ∧ (w123.toInt ≠ -1 → (gi121 69 14).toInt < (gi121 69 11).toInt) ∧ (w123.toInt = -1 → (gi121 69 11).toInt ≤ (gi121 69 14).toInt) := q123
    refine ev_bp f_X12_ahead (nx := 10) (v := 32) rfl (by decide) rfl ?_
    refine ev_if f_X12_ahead (t1 := 26) (t2 := 13) rfl rfl rfl (fun h125 => ?_) (fun h125 => ?_)
    · have u126 : w123.toInt ≤ 32 := t_equ h125 (by decide : (32:Int32).toInt ≤ (32:Int))
      have l127 : 32 ≤ w123.toInt := t_eql h125 (by decide : (32:Int) ≤ (32:Int32).toInt)
      refine ev_loc f_X12_ahead (nx := 27) rfl rfl rfl rfl ?_
      refine ev_alu f_X12_ahead (nx := 28) rfl rfl rfl rfl ?_
      refine ev_gvI f_X12_ahead (nx := 31) (w := (gi121 69 14)) rfl (hI.wf.s rfl) rfl rfl rfl rfl ?_
      refine ev_ic f_X12_ahead (nx := 32) (v := 1) rfl (by decide) rfl ?_
      refine ev_addC f_X12_ahead (nx := 33) (c := 1) (l := 1) (u := 901) rfl (by decide) l122 u122 rfl rfl (by decide) (by decide) rfl (fun z128 e128 l128 u128 => ?_)
      have u130 : z128.toInt ≤ (900:Int) := (by have h1 := q123.2.1 (by omega); omega)
      refine ev_putIT f_X12_ahead (nx := 36) rfl (hI.wf.s rfl) rfl rfl rfl (hI.putB (hI.wf.s rfl) rfl rfl l128 (by decide) u130 (by decide)) (hX.upI rfl) (fun g129 e129 hI hX => ?_)
      refine ev_jmp f_X12_ahead (nx := 0) rfl rfl rfl ?_
      refine ev_sub (lo := [(0, .ref 69)]) rfl (t_sc rfl t_sn) ?_
      exact ih121 _ (by have h1 := q123.2.1 (by omega); have ff131 : (g129 69 14).toInt = z128.toInt := congrArg Int32.toInt (by rw [e129]; exact x_up2_at _ _ _ _ : g129 69 14 = z128); omega) g129 gl121 gr121  hI hX  ((by rw [e129]; exact x_up2_off (Or.inr (by decide)) : g129 69 11 = gi121 69 11).trans c121_0) (fun b n q h => (by
                                                            obtain ⟨i, hi, hF⟩ := j121_0 b n q h
                                                            have hb := hi.blk1 (q123.1 b n hi.1) (by omega)
                                                            exact ⟨i + 1, hi.nx (by have h3 := hi.2.1; omega) hb.1 e129, hb.2.trans hF⟩)) rfl
    · have r132 : w123.toInt ≠ 32 := fun e => h125 (Int32.toInt_inj.mp (e.trans (by decide : (32:Int) = (32 : Int32).toInt)))
      refine ev_loc f_X12_ahead (nx := 14) rfl rfl rfl rfl ?_
      refine ev_loc f_X12_ahead (nx := 15) rfl rfl rfl rfl ?_
      refine ev_gvI f_X12_ahead (nx := 18) (w := (gi121 69 14)) rfl (hI.wf.s rfl) rfl rfl rfl rfl ?_
      refine ev_qI0 f_X12_ahead (nx := 21) (r := []) rfl rfl rfl rfl rfl rfl rfl (c_n_byteAt hI ((gi121 69 14)) l122) rfl (fun w133 l133 u133 q133 => ?_)
      have ff134 : (gi121 69 11).toInt = (gi 69 11).toInt := congrArg Int32.toInt c121_0
      have q133 : (∀ (b : Nat → Int32) (n : Nat), t_Tx b n gi121 → w133.toInt = s_at b n (gi121 69 14).toNatClampNeg) ∧ (w133.toInt ≠ -1 → (gi121 69 14).toInt < (gi121 69 11).toInt) ∧ (w133.toInt = -1 → (gi121 69 11).toInt ≤ (gi121 69 14).toInt) := q133
      refine ev_bp f_X12_ahead (nx := 23) (v := 10) rfl (by decide) rfl ?_
      refine ev_if f_X12_ahead (t1 := 26) (t2 := 39) rfl rfl rfl (fun h135 => ?_) (fun h135 => ?_)
      · have u136 : w133.toInt ≤ 10 := t_equ h135 (by decide : (10:Int32).toInt ≤ (10:Int))
        have l137 : 10 ≤ w133.toInt := t_eql h135 (by decide : (10:Int) ≤ (10:Int32).toInt)
        refine ev_loc f_X12_ahead (nx := 27) rfl rfl rfl rfl ?_
        refine ev_alu f_X12_ahead (nx := 28) rfl rfl rfl rfl ?_
        refine ev_gvI f_X12_ahead (nx := 31) (w := (gi121 69 14)) rfl (hI.wf.s rfl) rfl rfl rfl rfl ?_
        refine ev_ic f_X12_ahead (nx := 32) (v := 1) rfl (by decide) rfl ?_
        refine ev_addC f_X12_ahead (nx := 33) (c := 1) (l := 1) (u := 901) rfl (by decide) l122 u122 rfl rfl (by decide) (by decide) rfl (fun z138 e138 l138 u138 => ?_)
        have u140 : z138.toInt ≤ (900:Int) := (by have h1 := q133.2.1 (by omega); omega)
        refine ev_putIT f_X12_ahead (nx := 36) rfl (hI.wf.s rfl) rfl rfl rfl (hI.putB (hI.wf.s rfl) rfl rfl l138 (by decide) u140 (by decide)) (hX.upI rfl) (fun g139 e139 hI hX => ?_)
        refine ev_jmp f_X12_ahead (nx := 0) rfl rfl rfl ?_
        refine ev_sub (lo := [(0, .ref 69)]) rfl (t_sc rfl t_sn) ?_
        exact ih121 _ (by have h1 := q133.2.1 (by omega); have ff141 : (g139 69 14).toInt = z138.toInt := congrArg Int32.toInt (by rw [e139]; exact x_up2_at _ _ _ _ : g139 69 14 = z138); omega) g139 gl121 gr121  hI hX  ((by rw [e139]; exact x_up2_off (Or.inr (by decide)) : g139 69 11 = gi121 69 11).trans c121_0) (fun b n q h => (by
                                                            obtain ⟨i, hi, hF⟩ := j121_0 b n q h
                                                            have hb := hi.blk1 (q133.1 b n hi.1) (by omega)
                                                            exact ⟨i + 1, hi.nx (by have h3 := hi.2.1; omega) hb.1 e139, hb.2.trans hF⟩)) rfl
      · have r142 : w133.toInt ≠ 10 := fun e => h135 (Int32.toInt_inj.mp (e.trans (by decide : (10:Int) = (10 : Int32).toInt)))
        refine ev_sub (lo := [(0, .ref 69)]) rfl (t_sc rfl t_sn) ?_
        exact L3 gi121 gl121 gr121  hI hX  (fun b n q h => (by
                                                            obtain ⟨i, hi, hF⟩ := j121_0 b n q h
                                                            exact ⟨i, hi, hF.symm.trans (hi.blk (q123.1 b n hi.1) (q133.1 b n hi.1) (by omega) (by omega)), h.2.2⟩))
  refine ev_sub (lo := [(0, .ref 69)]) rfl (t_sc rfl t_sn) ?_
  exact L121 _ gi gl gr  hI hX  rfl (fun b n q h => ⟨q, h, rfl⟩) rfl
