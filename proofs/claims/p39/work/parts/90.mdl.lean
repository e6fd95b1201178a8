/-! ===== printed by mdl6.py: contracts of the model ===== -/
noncomputable def wl_m_ahead2 : List (Nat × Nat) := [(69, 12), (69, 13), (69, 14), (69, 15)]
noncomputable def Q_m_ahead2 (gi : Nat → Nat → Int32) (gl : Nat → Nat → Int64) (gr : Nat → Nat → Value) : (Nat → Nat → Int32) → (Nat → Nat → Int64) → (Nat → Nat → Value) → Prop := fun (gi2 : Nat → Nat → Int32) (gl2 : Nat → Nat → Int64) (gr2 : Nat → Nat → Value) => (gi 69 14).toInt ≤ (gi2 69 14).toInt ∧ ((gi2 69 12).toInt ≠ 0 → (gi 69 14).toInt < (gi2 69 14).toInt) ∧ ((gi2 69 12).toInt = 3 → 0 ≤ (gi2 69 15).toInt)
theorem c_m_ahead2 {X : x_Ext} {d : Nat} {sh : List (Nat ⊕ (Nat × Nat))} {gi : Nat → Nat → Int32} {gl : Nat → Nat → Int64} {gr : Nat → Nat → Value} (hI : t_I sh gi gr) : x_Me X (d + 2) n_X12_ahead [.ref 69] (sh, gi, gl, gr) (t_PN wl_m_ahead2 sh gi gl gr (Q_m_ahead2 gi gl gr)) := by
  have hX : t_X wl_m_ahead2 sh gi gl gr gi gl gr := t_X.rf
  refine me_i f_X12_ahead (hI.wf.s rfl) rfl rfl rfl ?_
  obtain ⟨l1, u1⟩ := hI.b (hI.wf.s (k := 69) rfl) (t_bdK rfl : t_bd 11 12 = some (0, 4))
  obtain ⟨l2, u2⟩ := hI.b (hI.wf.s (k := 69) rfl) (t_bdK rfl : t_bd 11 14 = some (0, 900))
  have L4 : ∀ (gi4 : Nat → Nat → Int32) (gl4 : Nat → Nat → Int64) (gr4 : Nat → Nat → Value), t_I sh gi4 gr4 → t_X wl_m_ahead2 sh gi gl gr gi4 gl4 gr4 → (gi 69 14).toInt ≤ (gi4 69 14).toInt → x_Ev X (d + 2) n_X12_ahead 39 [(0, .ref 69)] [] (sh, gi4, gl4, gr4) (t_PN wl_m_ahead2 sh gi gl gr (Q_m_ahead2 gi gl gr)) := by
    intro gi4 gl4 gr4 hI hX j4_0
    obtain ⟨l5, u5⟩ := hI.b (hI.wf.s (k := 69) rfl) (t_bdK rfl : t_bd 11 12 = some (0, 4))
    obtain ⟨l6, u6⟩ := hI.b (hI.wf.s (k := 69) rfl) (t_bdK rfl : t_bd 11 14 = some (0, 900))
    refine ev_loc f_X12_ahead (nx := 40) rfl rfl rfl rfl ?_
    refine ev_loc f_X12_ahead (nx := 41) rfl rfl rfl rfl ?_
    refine ev_gvI f_X12_ahead (nx := 44) (w := (gi4 69 14)) rfl (hI.wf.s rfl) rfl rfl rfl rfl ?_
    refine ev_putIT f_X12_ahead (nx := 47) rfl (hI.wf.s rfl) rfl rfl rfl (hI.putB (hI.wf.s rfl) rfl rfl l6 (by decide) u6 (by decide)) (hX.upI rfl) (fun g8 e8 hI hX => ?_)
    refine ev_loc f_X12_ahead (nx := 48) rfl rfl rfl rfl ?_
    refine ev_loc f_X12_ahead (nx := 49) rfl rfl rfl rfl ?_
    refine ev_gvI f_X12_ahead (nx := 52) (w := (gi4 69 14)) rfl (hI.wf.s rfl) rfl rfl ((by rw [e8]; exact x_up2_off (Or.inr (by decide)) : g8 69 14 = gi4 69 14).trans rfl) rfl ?_
    refine ev_inV2 f_X12_ahead (nx := 55) (lo2 := [(0, .ref 69), (1, .int (gi4 69 14))]) rfl rfl rfl rfl f_X12_byteAt (hI.wf.s rfl) rfl rfl rfl rfl rfl ?_
    refine ev_loc f_X12_byteAt (nx := 1) rfl rfl rfl rfl ?_
    refine ev_loc f_X12_byteAt (nx := 2) rfl rfl rfl rfl ?_
    refine ev_getI f_X12_byteAt (nx := 5) rfl (hI.wf.s rfl) rfl rfl rfl ?_
    obtain ⟨l9, u9⟩ := hI.b (hI.wf.s (k := 69) rfl) (t_bdK rfl : t_bd 11 11 = some (0, 900))
    refine ev_if f_X12_byteAt (t1 := 21) (t2 := 8) rfl rfl rfl (fun h10 => ?_) (fun h10 => ?_)
    · have r11 : (g8 69 11).toInt ≤ (gi4 69 14).toInt := Int32.le_iff_toInt_le.mp h10
      refine ev_ic f_X12_byteAt (nx := 22) (v := -1) rfl (by decide) rfl ?_
      refine ev_retK1 f_X12_byteAt rfl rfl rfl ?_
      refine ev_loc f_X12_ahead (nx := 56) (lo' := [(1, .int (-1)), (0, .ref 69)]) rfl rfl rfl rfl ?_
      refine ev_loc f_X12_ahead (nx := 57) rfl rfl rfl rfl ?_
      refine ev_loc f_X12_ahead (nx := 58) rfl rfl rfl rfl ?_
      refine ev_putIT f_X12_ahead (nx := 61) rfl (hI.wf.s rfl) rfl rfl rfl (hI.put0 (hI.wf.s rfl) rfl rfl) (hX.upI rfl) (fun g12 e12 hI hX => ?_)
      refine ev_loc f_X12_ahead (nx := 62) rfl rfl rfl rfl ?_
      refine ev_ic f_X12_ahead (nx := 63) (v := -1) rfl (by decide) rfl ?_
      refine ev_t f_X12_ahead (t1 := 66) (t2 := 74) rfl rfl rfl (by decide) ?_
      refine ev_loc f_X12_ahead (nx := 67) rfl rfl rfl rfl ?_
      refine ev_ic f_X12_ahead (nx := 68) (v := 0) rfl (by decide) rfl ?_
      refine ev_putIT f_X12_ahead (nx := 71) rfl (hI.wf.s rfl) rfl rfl rfl (hI.putB (hI.wf.s rfl) rfl rfl (by decide : (0:Int) ≤ (0:Int32).toInt) (by decide) (by decide : (0:Int32).toInt ≤ (0:Int)) (by decide)) (hX.upI rfl) (fun g13 e13 hI hX => ?_)
      refine ev_jmp f_X12_ahead (nx := 263) rfl rfl rfl ?_
      exact ev_ret f_X12_ahead rfl rfl rfl ⟨_, _, _, rfl, hI, hX, ⟨rfl, (show (gi 69 14).toInt ≤ (g13 69 14).toInt ∧ ((g13 69 12).toInt ≠ 0 → (gi 69 14).toInt < (g13 69 14).toInt) ∧ ((g13 69 12).toInt = 3 → 0 ≤ (g13 69 15).toInt) from (by have ff14 : (g13 69 14).toInt = (gi4 69 14).toInt := congrArg Int32.toInt ((by rw [e13]; exact x_up2_off (Or.inr (by decide)) : g13 69 14 = g12 69 14).trans ((by rw [e12]; exact x_up2_off (Or.inr (by decide)) : g12 69 14 = g8 69 14).trans ((by rw [e8]; exact x_up2_off (Or.inr (by decide)) : g8 69 14 = gi4 69 14).trans rfl))); have ff15 : (g13 69 12).toInt = 0 := (congrArg Int32.toInt (by rw [e13]; exact x_up2_at _ _ _ _ : g13 69 12 = 0)).trans (by decide); have ff16 : (g13 69 15).toInt = (-1) := (congrArg Int32.toInt ((by rw [e13]; exact x_up2_off (Or.inr (by decide)) : g13 69 15 = g12 69 15).trans (by rw [e12]; exact x_up2_at _ _ _ _ : g12 69 15 = (-1)))).trans (by decide); omega))⟩⟩
    · have r17 : (gi4 69 14).toInt < (g8 69 11).toInt := Int32.lt_iff_toInt_lt.mp (t_nle h10)
      have u18 : (gi4 69 14).toInt ≤ 899 := t_ltu (t_nle h10) u9 rfl
      have l19 : 1 ≤ (g8 69 11).toInt := t_ltl (t_nle h10) l6 rfl
      refine ev_loc f_X12_byteAt (nx := 9) rfl rfl rfl rfl ?_
      refine ev_getR f_X12_byteAt (nx := 12) rfl (hI.wf.s rfl) rfl rfl (hI.wf.r rfl) rfl rfl ?_
      refine ev_loc f_X12_byteAt (nx := 13) rfl rfl rfl rfl ?_
      refine ev_baldT f_X12_byteAt (nx := 14) rfl (hI.wf.s rfl) rfl l6 (by decide) u18 (by decide) rfl (fun w20 e20 => ?_)
      refine ev_sp f_X12_byteAt (nx := 17) (v := 255) rfl (by decide) rfl ?_
      refine ev_andE f_X12_byteAt (nx := 18) (c := 255) rfl (by decide) (by decide) rfl (fun z21 e21 l21 u21 => ?_)
      refine ev_jmp f_X12_byteAt (nx := 22) rfl rfl rfl ?_
      refine ev_retK1 f_X12_byteAt rfl rfl rfl ?_
      refine ev_loc f_X12_ahead (nx := 56) (lo' := [(1, .int z21), (0, .ref 69)]) rfl rfl rfl rfl ?_
      refine ev_loc f_X12_ahead (nx := 57) rfl rfl rfl rfl ?_
      refine ev_loc f_X12_ahead (nx := 58) rfl rfl rfl rfl ?_
      refine ev_putIT f_X12_ahead (nx := 61) rfl (hI.wf.s rfl) rfl rfl rfl (hI.put0 (hI.wf.s rfl) rfl rfl) (hX.upI rfl) (fun g22 e22 hI hX => ?_)
      refine ev_loc f_X12_ahead (nx := 62) rfl rfl rfl rfl ?_
      refine ev_ic f_X12_ahead (nx := 63) (v := -1) rfl (by decide) rfl ?_
      refine ev_f f_X12_ahead (t1 := 66) (t2 := 74) rfl rfl rfl (t_neT' (by decide : ((-1):Int32).toInt ≤ ((-1):Int)) l21 (by decide)) ?_
      refine ev_loc f_X12_ahead (nx := 75) rfl rfl rfl rfl ?_
      refine ev_inS1 f_X12_ahead (nx := 78) (lo2 := [(0, .int z21)]) rfl rfl rfl rfl f_X12_isSmall rfl rfl rfl rfl ?_
      refine ev_loc f_X12_isSmall (nx := 1) rfl rfl rfl rfl ?_
      refine ev_bp f_X12_isSmall (nx := 3) (v := 97) rfl (by decide) rfl ?_
      refine ev_if f_X12_isSmall (t1 := 16) (t2 := 6) rfl rfl rfl (fun h23 => ?_) (fun h23 => ?_)
      · have u24 : z21.toInt ≤ 96 := t_ltu h23 (by decide : (97:Int32).toInt ≤ (97:Int)) rfl
        refine ev_ic f_X12_isSmall (nx := 17) (v := 0) rfl (by decide) rfl ?_
        refine ev_retK1 f_X12_isSmall rfl rfl rfl ?_
        refine ev_t f_X12_ahead (t1 := 116) (t2 := 81) rfl rfl rfl (by decide) ?_
        refine ev_loc f_X12_ahead (nx := 117) rfl rfl rfl rfl ?_
        refine ev_inS1 f_X12_ahead (nx := 120) (lo2 := [(0, .int z21)]) rfl rfl rfl rfl f_X12_isDigit rfl rfl rfl rfl ?_
        refine ev_loc f_X12_isDigit (nx := 1) rfl rfl rfl rfl ?_
        refine ev_bp f_X12_isDigit (nx := 3) (v := 48) rfl (by decide) rfl ?_
        refine ev_if f_X12_isDigit (t1 := 16) (t2 := 6) rfl rfl rfl (fun h25 => ?_) (fun h25 => ?_)
        · have u26 : z21.toInt ≤ 47 := t_ltu h25 (by decide : (48:Int32).toInt ≤ (48:Int)) rfl
          refine ev_ic f_X12_isDigit (nx := 17) (v := 0) rfl (by decide) rfl ?_
          refine ev_retK1 f_X12_isDigit rfl rfl rfl ?_
          refine ev_t f_X12_ahead (t1 := 208) (t2 := 123) rfl rfl rfl (by decide) ?_
          refine ev_loc f_X12_ahead (nx := 209) rfl rfl rfl rfl ?_
          refine ev_alu f_X12_ahead (nx := 210) rfl rfl rfl rfl ?_
          refine ev_gvI f_X12_ahead (nx := 213) (w := (gi4 69 14)) rfl (hI.wf.s rfl) rfl rfl ((by rw [e22]; exact x_up2_off (Or.inr (by decide)) : g22 69 14 = g8 69 14).trans ((by rw [e8]; exact x_up2_off (Or.inr (by decide)) : g8 69 14 = gi4 69 14).trans rfl)) rfl ?_
          refine ev_ic f_X12_ahead (nx := 214) (v := 1) rfl (by decide) rfl ?_
          refine ev_addC f_X12_ahead (nx := 215) (c := 1) (l := 1) (u := 900) rfl (by decide) l6 u18 rfl rfl (by decide) (by decide) rfl (fun z27 e27 l27 u27 => ?_)
          refine ev_putIT f_X12_ahead (nx := 218) rfl (hI.wf.s rfl) rfl rfl rfl (hI.putB (hI.wf.s rfl) rfl rfl l27 (by decide) u27 (by decide)) (hX.upI rfl) (fun g28 e28 hI hX => ?_)
          refine ev_loc f_X12_ahead (nx := 219) rfl rfl rfl rfl ?_
          refine ev_loc f_X12_ahead (nx := 220) rfl rfl rfl rfl ?_
          refine ev_bp f_X12_ahead (nx := 222) (v := 59) rfl (by decide) rfl ?_
          refine ev_f f_X12_ahead (t1 := 255) (t2 := 225) rfl rfl rfl (t_neT u26 (by decide : (59:Int) ≤ (59:Int32).toInt) (by decide)) ?_
          refine ev_loc f_X12_ahead (nx := 226) rfl rfl rfl rfl ?_
          refine ev_bp f_X12_ahead (nx := 228) (v := 60) rfl (by decide) rfl ?_
          refine ev_f f_X12_ahead (t1 := 255) (t2 := 231) rfl rfl rfl (t_neT u26 (by decide : (60:Int) ≤ (60:Int32).toInt) (by decide)) ?_
          refine ev_loc f_X12_ahead (nx := 232) rfl rfl rfl rfl ?_
          refine ev_bp f_X12_ahead (nx := 234) (v := 62) rfl (by decide) rfl ?_
          refine ev_f f_X12_ahead (t1 := 255) (t2 := 237) rfl rfl rfl (t_neT u26 (by decide : (62:Int) ≤ (62:Int32).toInt) (by decide)) ?_
          refine ev_loc f_X12_ahead (nx := 238) rfl rfl rfl rfl ?_
          refine ev_bp f_X12_ahead (nx := 240) (v := 61) rfl (by decide) rfl ?_
          refine ev_f f_X12_ahead (t1 := 255) (t2 := 243) rfl rfl rfl (t_neT u26 (by decide : (61:Int) ≤ (61:Int32).toInt) (by decide)) ?_
          refine ev_loc f_X12_ahead (nx := 244) rfl rfl rfl rfl ?_
          refine ev_bp f_X12_ahead (nx := 246) (v := 40) rfl (by decide) rfl ?_
          refine ev_if f_X12_ahead (t1 := 255) (t2 := 249) rfl rfl rfl (fun h29 => ?_) (fun h29 => ?_)
          · have u30 : z21.toInt ≤ 40 := t_equ h29 (by decide : (40:Int32).toInt ≤ (40:Int))
            have l31 : 40 ≤ z21.toInt := t_eql h29 (by decide : (40:Int) ≤ (40:Int32).toInt)
            refine ev_ic f_X12_ahead (nx := 256) (v := 4) rfl (by decide) rfl ?_
            refine ev_jmp f_X12_ahead (nx := 260) rfl rfl rfl ?_
            refine ev_putIT f_X12_ahead (nx := 263) rfl (hI.wf.s rfl) rfl rfl rfl (hI.putB (hI.wf.s rfl) rfl rfl (by decide : (4:Int) ≤ (4:Int32).toInt) (by decide) (by decide : (4:Int32).toInt ≤ (4:Int)) (by decide)) (hX.upI rfl) (fun g32 e32 hI hX => ?_)
            exact ev_ret f_X12_ahead rfl rfl rfl ⟨_, _, _, rfl, hI, hX, ⟨rfl, (show (gi 69 14).toInt ≤ (g32 69 14).toInt ∧ ((g32 69 12).toInt ≠ 0 → (gi 69 14).toInt < (g32 69 14).toInt) ∧ ((g32 69 12).toInt = 3 → 0 ≤ (g32 69 15).toInt) from (by have ff33 : (g32 69 14).toInt = z27.toInt := congrArg Int32.toInt ((by rw [e32]; exact x_up2_off (Or.inr (by decide)) : g32 69 14 = g28 69 14).trans (by rw [e28]; exact x_up2_at _ _ _ _ : g28 69 14 = z27)); have ff34 : (g32 69 12).toInt = 4 := (congrArg Int32.toInt (by rw [e32]; exact x_up2_at _ _ _ _ : g32 69 12 = 4)).trans (by decide); have ff35 : (g32 69 15).toInt = z21.toInt := congrArg Int32.toInt ((by rw [e32]; exact x_up2_off (Or.inr (by decide)) : g32 69 15 = g28 69 15).trans ((by rw [e28]; exact x_up2_off (Or.inr (by decide)) : g28 69 15 = g22 69 15).trans (by rw [e22]; exact x_up2_at _ _ _ _ : g22 69 15 = z21))); omega))⟩⟩
          · have r36 : z21.toInt ≠ 40 := fun e => h29 (Int32.toInt_inj.mp (e.trans (by decide : (40:Int) = (40 : Int32).toInt)))
            refine ev_loc f_X12_ahead (nx := 250) rfl rfl rfl rfl ?_
            refine ev_bp f_X12_ahead (nx := 252) (v := 41) rfl (by decide) rfl ?_
            refine ev_if f_X12_ahead (t1 := 255) (t2 := 259) rfl rfl rfl (fun h37 => ?_) (fun h37 => ?_)
            · have u38 : z21.toInt ≤ 41 := t_equ h37 (by decide : (41:Int32).toInt ≤ (41:Int))
              have l39 : 41 ≤ z21.toInt := t_eql h37 (by decide : (41:Int) ≤ (41:Int32).toInt)
              refine ev_ic f_X12_ahead (nx := 256) (v := 4) rfl (by decide) rfl ?_
              refine ev_jmp f_X12_ahead (nx := 260) rfl rfl rfl ?_
              refine ev_putIT f_X12_ahead (nx := 263) rfl (hI.wf.s rfl) rfl rfl rfl (hI.putB (hI.wf.s rfl) rfl rfl (by decide : (4:Int) ≤ (4:Int32).toInt) (by decide) (by decide : (4:Int32).toInt ≤ (4:Int)) (by decide)) (hX.upI rfl) (fun g40 e40 hI hX => ?_)
              exact ev_ret f_X12_ahead rfl rfl rfl ⟨_, _, _, rfl, hI, hX, ⟨rfl, (show (gi 69 14).toInt ≤ (g40 69 14).toInt ∧ ((g40 69 12).toInt ≠ 0 → (gi 69 14).toInt < (g40 69 14).toInt) ∧ ((g40 69 12).toInt = 3 → 0 ≤ (g40 69 15).toInt) from (by have ff41 : (g40 69 14).toInt = z27.toInt := congrArg Int32.toInt ((by rw [e40]; exact x_up2_off (Or.inr (by decide)) : g40 69 14 = g28 69 14).trans (by rw [e28]; exact x_up2_at _ _ _ _ : g28 69 14 = z27)); have ff42 : (g40 69 12).toInt = 4 := (congrArg Int32.toInt (by rw [e40]; exact x_up2_at _ _ _ _ : g40 69 12 = 4)).trans (by decide); have ff43 : (g40 69 15).toInt = z21.toInt := congrArg Int32.toInt ((by rw [e40]; exact x_up2_off (Or.inr (by decide)) : g40 69 15 = g28 69 15).trans ((by rw [e28]; exact x_up2_off (Or.inr (by decide)) : g28 69 15 = g22 69 15).trans (by rw [e22]; exact x_up2_at _ _ _ _ : g22 69 15 = z21))); omega))⟩⟩
            · have r44 : z21.toInt ≠ 41 := fun e => h37 (Int32.toInt_inj.mp (e.trans (by decide : (41:Int) = (41 : Int32).toInt)))
              refine ev_ic f_X12_ahead (nx := 260) (v := 1) rfl (by decide) rfl ?_
              refine ev_putIT f_X12_ahead (nx := 263) rfl (hI.wf.s rfl) rfl rfl rfl (hI.putB (hI.wf.s rfl) rfl rfl (by decide : (1:Int) ≤ (1:Int32).toInt) (by decide) (by decide : (1:Int32).toInt ≤ (1:Int)) (by decide)) (hX.upI rfl) (fun g45 e45 hI hX => ?_)
              exact ev_ret f_X12_ahead rfl rfl rfl ⟨_, _, _, rfl, hI, hX, ⟨rfl, (show (gi 69 14).toInt ≤ (g45 69 14).toInt ∧ ((g45 69 12).toInt ≠ 0 → (gi 69 14).toInt < (g45 69 14).toInt) ∧ ((g45 69 12).toInt = 3 → 0 ≤ (g45 69 15).toInt) from (by have ff46 : (g45 69 14).toInt = z27.toInt := congrArg Int32.toInt ((by rw [e45]; exact x_up2_off (Or.inr (by decide)) : g45 69 14 = g28 69 14).trans (by rw [e28]; exact x_up2_at _ _ _ _ : g28 69 14 = z27)); have ff47 : (g45 69 12).toInt = 1 := (congrArg Int32.toInt (by rw [e45]; exact x_up2_at _ _ _ _ : g45 69 12 = 1)).trans (by decide); have ff48 : (g45 69 15).toInt = z21.toInt := congrArg Int32.toInt ((by rw [e45]; exact x_up2_off (Or.inr (by decide)) : g45 69 15 = g28 69 15).trans ((by rw [e28]; exact x_up2_off (Or.inr (by decide)) : g28 69 15 = g22 69 15).trans (by rw [e22]; exact x_up2_at _ _ _ _ : g22 69 15 = z21))); omega))⟩⟩
        · have l49 : 48 ≤ z21.toInt := t_lel (t_nlt h25) (by decide : (48:Int) ≤ (48:Int32).toInt)
          refine ev_loc f_X12_isDigit (nx := 7) rfl rfl rfl rfl ?_
          refine ev_bp f_X12_isDigit (nx := 9) (v := 57) rfl (by decide) rfl ?_
          refine ev_if f_X12_isDigit (t1 := 16) (t2 := 12) rfl rfl rfl (fun h50 => ?_) (fun h50 => ?_)
          · have l51 : 58 ≤ z21.toInt := t_ltl h50 (by decide : (57:Int) ≤ (57:Int32).toInt) rfl
            refine ev_ic f_X12_isDigit (nx := 17) (v := 0) rfl (by decide) rfl ?_
            refine ev_retK1 f_X12_isDigit rfl rfl rfl ?_
            refine ev_t f_X12_ahead (t1 := 208) (t2 := 123) rfl rfl rfl (by decide) ?_
            refine ev_loc f_X12_ahead (nx := 209) rfl rfl rfl rfl ?_
            refine ev_alu f_X12_ahead (nx := 210) rfl rfl rfl rfl ?_
            refine ev_gvI f_X12_ahead (nx := 213) (w := (gi4 69 14)) rfl (hI.wf.s rfl) rfl rfl ((by rw [e22]; exact x_up2_off (Or.inr (by decide)) : g22 69 14 = g8 69 14).trans ((by rw [e8]; exact x_up2_off (Or.inr (by decide)) : g8 69 14 = gi4 69 14).trans rfl)) rfl ?_
            refine ev_ic f_X12_ahead (nx := 214) (v := 1) rfl (by decide) rfl ?_
            refine ev_addC f_X12_ahead (nx := 215) (c := 1) (l := 1) (u := 900) rfl (by decide) l6 u18 rfl rfl (by decide) (by decide) rfl (fun z52 e52 l52 u52 => ?_)
            refine ev_putIT f_X12_ahead (nx := 218) rfl (hI.wf.s rfl) rfl rfl rfl (hI.putB (hI.wf.s rfl) rfl rfl l52 (by decide) u52 (by decide)) (hX.upI rfl) (fun g53 e53 hI hX => ?_)
            refine ev_loc f_X12_ahead (nx := 219) rfl rfl rfl rfl ?_
            refine ev_loc f_X12_ahead (nx := 220) rfl rfl rfl rfl ?_
            refine ev_bp f_X12_ahead (nx := 222) (v := 59) rfl (by decide) rfl ?_
            refine ev_if f_X12_ahead (t1 := 255) (t2 := 225) rfl rfl rfl (fun h54 => ?_) (fun h54 => ?_)
            · have u55 : z21.toInt ≤ 59 := t_equ h54 (by decide : (59:Int32).toInt ≤ (59:Int))
              have l56 : 59 ≤ z21.toInt := t_eql h54 (by decide : (59:Int) ≤ (59:Int32).toInt)
              refine ev_ic f_X12_ahead (nx := 256) (v := 4) rfl (by decide) rfl ?_
              refine ev_jmp f_X12_ahead (nx := 260) rfl rfl rfl ?_
              refine ev_putIT f_X12_ahead (nx := 263) rfl (hI.wf.s rfl) rfl rfl rfl (hI.putB (hI.wf.s rfl) rfl rfl (by decide : (4:Int) ≤ (4:Int32).toInt) (by decide) (by decide : (4:Int32).toInt ≤ (4:Int)) (by decide)) (hX.upI rfl) (fun g57 e57 hI hX => ?_)
              exact ev_ret f_X12_ahead rfl rfl rfl ⟨_, _, _, rfl, hI, hX, ⟨rfl, (show (gi 69 14).toInt ≤ (g57 69 14).toInt ∧ ((g57 69 12).toInt ≠ 0 → (gi 69 14).toInt < (g57 69 14).toInt) ∧ ((g57 69 12).toInt = 3 → 0 ≤ (g57 69 15).toInt) from (by have ff58 : (g57 69 14).toInt = z52.toInt := congrArg Int32.toInt ((by rw [e57]; exact x_up2_off (Or.inr (by decide)) : g57 69 14 = g53 69 14).trans (by rw [e53]; exact x_up2_at _ _ _ _ : g53 69 14 = z52)); have ff59 : (g57 69 12).toInt = 4 := (congrArg Int32.toInt (by rw [e57]; exact x_up2_at _ _ _ _ : g57 69 12 = 4)).trans (by decide); have ff60 : (g57 69 15).toInt = z21.toInt := congrArg Int32.toInt ((by rw [e57]; exact x_up2_off (Or.inr (by decide)) : g57 69 15 = g53 69 15).trans ((by rw [e53]; exact x_up2_off (Or.inr (by decide)) : g53 69 15 = g22 69 15).trans (by rw [e22]; exact x_up2_at _ _ _ _ : g22 69 15 = z21))); omega))⟩⟩
            · have r61 : z21.toInt ≠ 59 := fun e => h54 (Int32.toInt_inj.mp (e.trans (by decide : (59:Int) = (59 : Int32).toInt)))
              refine ev_loc f_X12_ahead (nx := 226) rfl rfl rfl rfl ?_
              refine ev_bp f_X12_ahead (nx := 228) (v := 60) rfl (by decide) rfl ?_
              refine ev_if f_X12_ahead (t1 := 255) (t2 := 231) rfl rfl rfl (fun h62 => ?_) (fun h62 => ?_)
              · have u63 : z21.toInt ≤ 60 := t_equ h62 (by decide : (60:Int32).toInt ≤ (60:Int))
                have l64 : 60 ≤ z21.toInt := t_eql h62 (by decide : (60:Int) ≤ (60:Int32).toInt)
                refine ev_ic f_X12_ahead (nx := 256) (v := 4) rfl (by decide) rfl ?_
                refine ev_jmp f_X12_ahead (nx := 260) rfl rfl rfl ?_
                refine ev_putIT f_X12_ahead (nx := 263) rfl (hI.wf.s rfl) rfl rfl rfl (hI.putB (hI.wf.s rfl) rfl rfl (by decide : (4:Int) ≤ (4:Int32).toInt) (by decide) (by decide : (4:Int32).toInt ≤ (4:Int)) (by decide)) (hX.upI rfl) (fun g65 e65 hI hX => ?_)
                exact ev_ret f_X12_ahead rfl rfl rfl ⟨_, _, _, rfl, hI, hX, ⟨rfl, (show (gi 69 14).toInt ≤ (g65 69 14).toInt ∧ ((g65 69 12).toInt ≠ 0 → (gi 69 14).toInt < (g65 69 14).toInt) ∧ ((g65 69 12).toInt = 3 → 0 ≤ (g65 69 15).toInt) from (by have ff66 : (g65 69 14).toInt = z52.toInt := congrArg Int32.toInt ((by rw [e65]; exact x_up2_off (Or.inr (by decide)) : g65 69 14 = g53 69 14).trans (by rw [e53]; exact x_up2_at _ _ _ _ : g53 69 14 = z52)); have ff67 : (g65 69 12).toInt = 4 := (congrArg Int32.toInt (by rw [e65]; exact x_up2_at _ _ _ _ : g65 69 12 = 4)).trans (by decide); have ff68 : (g65 69 15).toInt = z21.toInt := congrArg Int32.toInt ((by rw [e65]; exact x_up2_off (Or.inr (by decide)) : g65 69 15 = g53 69 15).trans ((by rw [e53]; exact x_up2_off (Or.inr (by decide)) : g53 69 15 = g22 69 15).trans (by rw [e22]; exact x_up2_at _ _ _ _ : g22 69 15 = z21))); omega))⟩⟩
              · have r69 : z21.toInt ≠ 60 := fun e => h62 (Int32.toInt_inj.mp (e.trans (by decide : (60:Int) = (60 : Int32).toInt)))
                refine ev_loc f_X12_ahead (nx := 232) rfl rfl rfl rfl ?_
                refine ev_bp f_X12_ahead (nx := 234) (v := 62) rfl (by decide) rfl ?_
                refine ev_if f_X12_ahead (t1 := 255) (t2 := 237) rfl rfl rfl (fun h70 => ?_) (fun h70 => ?_)
                · have u71 : z21.toInt ≤ 62 := t_equ h70 (by decide : (62:Int32).toInt ≤ (62:Int))
                  have l72 : 62 ≤ z21.toInt := t_eql h70 (by decide : (62:Int) ≤ (62:Int32).toInt)
                  refine ev_ic f_X12_ahead (nx := 256) (v := 4) rfl (by decide) rfl ?_
                  refine ev_jmp f_X12_ahead (nx := 260) rfl rfl rfl ?_
                  refine ev_putIT f_X12_ahead (nx := 263) rfl (hI.wf.s rfl) rfl rfl rfl (hI.putB (hI.wf.s rfl) rfl rfl (by decide : (4:Int) ≤ (4:Int32).toInt) (by decide) (by decide : (4:Int32).toInt ≤ (4:Int)) (by decide)) (hX.upI rfl) (fun g73 e73 hI hX => ?_)
                  exact ev_ret f_X12_ahead rfl rfl rfl ⟨_, _, _, rfl, hI, hX, ⟨rfl, (show (gi 69 14).toInt ≤ (g73 69 14).toInt ∧ ((g73 69 12).toInt ≠ 0 → (gi 69 14).toInt < (g73 69 14).toInt) ∧ ((g73 69 12).toInt = 3 → 0 ≤ (g73 69 15).toInt) from (by have ff74 : (g73 69 14).toInt = z52.toInt := congrArg Int32.toInt ((by rw [e73]; exact x_up2_off (Or.inr (by decide)) : g73 69 14 = g53 69 14).trans (by rw [e53]; exact x_up2_at _ _ _ _ : g53 69 14 = z52)); have ff75 : (g73 69 12).toInt = 4 := (congrArg Int32.toInt (by rw [e73]; exact x_up2_at _ _ _ _ : g73 69 12 = 4)).trans (by decide); have ff76 : (g73 69 15).toInt = z21.toInt := congrArg Int32.toInt ((by rw [e73]; exact x_up2_off (Or.inr (by decide)) : g73 69 15 = g53 69 15).trans ((by rw [e53]; exact x_up2_off (Or.inr (by decide)) : g53 69 15 = g22 69 15).trans (by rw [e22]; exact x_up2_at _ _ _ _ : g22 69 15 = z21))); omega))⟩⟩
                · have r77 : z21.toInt ≠ 62 := fun e => h70 (Int32.toInt_inj.mp (e.trans (by decide : (62:Int) = (62 : Int32).toInt)))
                  refine ev_loc f_X12_ahead (nx := 238) rfl rfl rfl rfl ?_
                  refine ev_bp f_X12_ahead (nx := 240) (v := 61) rfl (by decide) rfl ?_
                  refine ev_if f_X12_ahead (t1 := 255) (t2 := 243) rfl rfl rfl (fun h78 => ?_) (fun h78 => ?_)
                  · have u79 : z21.toInt ≤ 61 := t_equ h78 (by decide : (61:Int32).toInt ≤ (61:Int))
                    have l80 : 61 ≤ z21.toInt := t_eql h78 (by decide : (61:Int) ≤ (61:Int32).toInt)
                    refine ev_ic f_X12_ahead (nx := 256) (v := 4) rfl (by decide) rfl ?_
                    refine ev_jmp f_X12_ahead (nx := 260) rfl rfl rfl ?_
                    refine ev_putIT f_X12_ahead (nx := 263) rfl (hI.wf.s rfl) rfl rfl rfl (hI.putB (hI.wf.s rfl) rfl rfl (by decide : (4:Int) ≤ (4:Int32).toInt) (by decide) (by decide : (4:Int32).toInt ≤ (4:Int)) (by decide)) (hX.upI rfl) (fun g81 e81 hI hX => ?_)
                    exact ev_ret f_X12_ahead rfl rfl rfl ⟨_, _, _, rfl, hI, hX, ⟨rfl, (show (gi 69 14).toInt ≤ (g81 69 14).toInt ∧ ((g81 69 12).toInt ≠ 0 → (gi 69 14).toInt < (g81 69 14).toInt) ∧ ((g81 69 12).toInt = 3 → 0 ≤ (g81 69 15).toInt) from (by have ff82 : (g81 69 14).toInt = z52.toInt := congrArg Int32.toInt ((by rw [e81]; exact x_up2_off (Or.inr (by decide)) : g81 69 14 = g53 69 14).trans (by rw [e53]; exact x_up2_at _ _ _ _ : g53 69 14 = z52)); have ff83 : (g81 69 12).toInt = 4 := (congrArg Int32.toInt (by rw [e81]; exact x_up2_at _ _ _ _ : g81 69 12 = 4)).trans (by decide); have ff84 : (g81 69 15).toInt = z21.toInt := congrArg Int32.toInt ((by rw [e81]; exact x_up2_off (Or.inr (by decide)) : g81 69 15 = g53 69 15).trans ((by rw [e53]; exact x_up2_off (Or.inr (by decide)) : g53 69 15 = g22 69 15).trans (by rw [e22]; exact x_up2_at _ _ _ _ : g22 69 15 = z21))); omega))⟩⟩
                  · have r85 : z21.toInt ≠ 61 := fun e => h78 (Int32.toInt_inj.mp (e.trans (by decide : (61:Int) = (61 : Int32).toInt)))
                    refine ev_loc f_X12_ahead (nx := 244) rfl rfl rfl rfl ?_
                    refine ev_bp f_X12_ahead (nx := 246) (v := 40) rfl (by decide) rfl ?_
                    refine ev_f f_X12_ahead (t1 := 255) (t2 := 249) rfl rfl rfl (t_neT' (by decide : (40:Int32).toInt ≤ (40:Int)) l51 (by decide)) ?_
                    refine ev_loc f_X12_ahead (nx := 250) rfl rfl rfl rfl ?_
                    refine ev_bp f_X12_ahead (nx := 252) (v := 41) rfl (by decide) rfl ?_
                    refine ev_f f_X12_ahead (t1 := 255) (t2 := 259) rfl rfl rfl (t_neT' (by decide : (41:Int32).toInt ≤ (41:Int)) l51 (by decide)) ?_
                    refine ev_ic f_X12_ahead (nx := 260) (v := 1) rfl (by decide) rfl ?_
                    refine ev_putIT f_X12_ahead (nx := 263) rfl (hI.wf.s rfl) rfl rfl rfl (hI.putB (hI.wf.s rfl) rfl rfl (by decide : (1:Int) ≤ (1:Int32).toInt) (by decide) (by decide : (1:Int32).toInt ≤ (1:Int)) (by decide)) (hX.upI rfl) (fun g86 e86 hI hX => ?_)
                    exact ev_ret f_X12_ahead rfl rfl rfl ⟨_, _, _, rfl, hI, hX, ⟨rfl, (show (gi 69 14).toInt ≤ (g86 69 14).toInt ∧ ((g86 69 12).toInt ≠ 0 → (gi 69 14).toInt < (g86 69 14).toInt) ∧ ((g86 69 12).toInt = 3 → 0 ≤ (g86 69 15).toInt) from (by have ff87 : (g86 69 14).toInt = z52.toInt := congrArg Int32.toInt ((by rw [e86]; exact x_up2_off (Or.inr (by decide)) : g86 69 14 = g53 69 14).trans (by rw [e53]; exact x_up2_at _ _ _ _ : g53 69 14 = z52)); have ff88 : (g86 69 12).toInt = 1 := (congrArg Int32.toInt (by rw [e86]; exact x_up2_at _ _ _ _ : g86 69 12 = 1)).trans (by decide); have ff89 : (g86 69 15).toInt = z21.toInt := congrArg Int32.toInt ((by rw [e86]; exact x_up2_off (Or.inr (by decide)) : g86 69 15 = g53 69 15).trans ((by rw [e53]; exact x_up2_off (Or.inr (by decide)) : g53 69 15 = g22 69 15).trans (by rw [e22]; exact x_up2_at _ _ _ _ : g22 69 15 = z21))); omega))⟩⟩
          · have u90 : z21.toInt ≤ 57 := t_leu (t_nlt h50) (by decide : (57:Int32).toInt ≤ (57:Int))
            refine ev_ic f_X12_isDigit (nx := 13) (v := 1) rfl (by decide) rfl ?_
            refine ev_jmp f_X12_isDigit (nx := 17) rfl rfl rfl ?_
            refine ev_retK1 f_X12_isDigit rfl rfl rfl ?_
            refine ev_f f_X12_ahead (t1 := 208) (t2 := 123) rfl rfl rfl (by decide) ?_
            refine ev_loc f_X12_ahead (nx := 124) rfl rfl rfl rfl ?_
            refine ev_ic f_X12_ahead (nx := 125) (v := 0) rfl (by decide) rfl ?_
            refine ev_putIT f_X12_ahead (nx := 128) rfl (hI.wf.s rfl) rfl rfl rfl (hI.put0 (hI.wf.s rfl) rfl rfl) (hX.upI rfl) (fun g91 e91 hI hX => ?_)
            refine ev_loc f_X12_ahead (nx := 129) rfl rfl rfl rfl ?_
            refine ev_loc f_X12_ahead (nx := 130) rfl rfl rfl rfl ?_
            refine ev_gvI f_X12_ahead (nx := 133) (w := (gi4 69 14)) rfl (hI.wf.s rfl) rfl rfl ((by rw [e91]; exact x_up2_off (Or.inr (by decide)) : g91 69 14 = g22 69 14).trans ((by rw [e22]; exact x_up2_off (Or.inr (by decide)) : g22 69 14 = g8 69 14).trans ((by rw [e8]; exact x_up2_off (Or.inr (by decide)) : g8 69 14 = gi4 69 14).trans rfl))) rfl ?_
            refine ev_inV2 f_X12_ahead (nx := 136) (lo2 := [(0, .ref 69), (1, .int (gi4 69 14))]) rfl rfl rfl rfl f_X12_byteAt (hI.wf.s rfl) rfl rfl rfl rfl rfl ?_
            refine ev_loc f_X12_byteAt (nx := 1) rfl rfl rfl rfl ?_
            refine ev_loc f_X12_byteAt (nx := 2) rfl rfl rfl rfl ?_
            refine ev_gvI f_X12_byteAt (nx := 5) (w := (g8 69 11)) rfl (hI.wf.s rfl) rfl rfl ((by rw [e91]; exact x_up2_off (Or.inr (by decide)) : g91 69 11 = g22 69 11).trans ((by rw [e22]; exact x_up2_off (Or.inr (by decide)) : g22 69 11 = g8 69 11).trans rfl)) rfl ?_
            refine ev_if f_X12_byteAt (t1 := 21) (t2 := 8) rfl rfl rfl (fun h92 => ?_) (fun h92 => ?_)
            · have r93 : (g8 69 11).toInt ≤ (gi4 69 14).toInt := Int32.le_iff_toInt_le.mp h92
              have u94 : (g8 69 11).toInt ≤ 899 := t_leu h92 u18
              have l95 : 1 ≤ (gi4 69 14).toInt := t_lel h92 l19
              refine ev_ic f_X12_byteAt (nx := 22) (v := -1) rfl (by decide) rfl ?_
              refine ev_retK1 f_X12_byteAt rfl rfl rfl ?_
              refine ev_inS1 f_X12_ahead (nx := 139) (lo2 := [(0, .int (-1))]) rfl rfl rfl rfl f_X12_isDigit rfl rfl rfl rfl ?_
              refine ev_loc f_X12_isDigit (nx := 1) rfl rfl rfl rfl ?_
              refine ev_bp f_X12_isDigit (nx := 3) (v := 48) rfl (by decide) rfl ?_
              refine ev_t f_X12_isDigit (t1 := 16) (t2 := 6) rfl rfl rfl (by decide) ?_
              refine ev_ic f_X12_isDigit (nx := 17) (v := 0) rfl (by decide) rfl ?_
              refine ev_retK1 f_X12_isDigit rfl rfl rfl ?_
              refine ev_t f_X12_ahead (t1 := 183) (t2 := 142) rfl rfl rfl (by decide) ?_
              refine ev_loc f_X12_ahead (nx := 184) rfl rfl rfl rfl ?_
              refine ev_loc f_X12_ahead (nx := 185) rfl rfl rfl rfl ?_
              refine ev_gvI f_X12_ahead (nx := 188) (w := (gi4 69 14)) rfl (hI.wf.s rfl) rfl rfl ((by rw [e91]; exact x_up2_off (Or.inr (by decide)) : g91 69 14 = g22 69 14).trans ((by rw [e22]; exact x_up2_off (Or.inr (by decide)) : g22 69 14 = g8 69 14).trans ((by rw [e8]; exact x_up2_off (Or.inr (by decide)) : g8 69 14 = gi4 69 14).trans rfl))) rfl ?_
              refine ev_loc f_X12_ahead (nx := 189) rfl rfl rfl rfl ?_
              refine ev_gvI f_X12_ahead (nx := 192) (w := (gi4 69 14)) rfl (hI.wf.s rfl) rfl rfl ((by rw [e91]; exact x_up2_off (Or.inr (by decide)) : g91 69 13 = g22 69 13).trans ((by rw [e22]; exact x_up2_off (Or.inr (by decide)) : g22 69 13 = g8 69 13).trans (by rw [e8]; exact x_up2_at _ _ _ _ : g8 69 13 = (gi4 69 14)))) rfl ?_
              refine ev_subR f_X12_ahead (nx := 193) (l := (-898)) (u := 898) rfl l95 u18 l95 u18 rfl rfl (by decide) (by decide) rfl (fun z96 e96 l96 u96 => ?_)
              refine ev_ic f_X12_ahead (nx := 194) (v := 4) rfl (by decide) rfl ?_
              refine ev_if f_X12_ahead (t1 := 201) (t2 := 197) rfl rfl rfl (fun h97 => ?_) (fun h97 => ?_)
              · have u98 : z96.toInt ≤ 4 := t_leu h97 (by decide : (4:Int32).toInt ≤ (4:Int))
                refine ev_ic f_X12_ahead (nx := 202) (v := 3) rfl (by decide) rfl ?_
                refine ev_putIT f_X12_ahead (nx := 205) rfl (hI.wf.s rfl) rfl rfl rfl (hI.putB (hI.wf.s rfl) rfl rfl (by decide : (3:Int) ≤ (3:Int32).toInt) (by decide) (by decide : (3:Int32).toInt ≤ (3:Int)) (by decide)) (hX.upI rfl) (fun g99 e99 hI hX => ?_)
                refine ev_jmp f_X12_ahead (nx := 263) rfl rfl rfl ?_
                exact ev_ret f_X12_ahead rfl rfl rfl ⟨_, _, _, rfl, hI, hX, ⟨rfl, (show (gi 69 14).toInt ≤ (g99 69 14).toInt ∧ ((g99 69 12).toInt ≠ 0 → (gi 69 14).toInt < (g99 69 14).toInt) ∧ ((g99 69 12).toInt = 3 → 0 ≤ (g99 69 15).toInt) from (by have ff100 : (g99 69 14).toInt = (gi4 69 14).toInt := congrArg Int32.toInt ((by rw [e99]; exact x_up2_off (Or.inr (by decide)) : g99 69 14 = g91 69 14).trans ((by rw [e91]; exact x_up2_off (Or.inr (by decide)) : g91 69 14 = g22 69 14).trans ((by rw [e22]; exact x_up2_off (Or.inr (by decide)) : g22 69 14 = g8 69 14).trans ((by rw [e8]; exact x_up2_off (Or.inr (by decide)) : g8 69 14 = gi4 69 14).trans rfl)))); have ff101 : (g99 69 12).toInt = 3 := (congrArg Int32.toInt (by rw [e99]; exact x_up2_at _ _ _ _ : g99 69 12 = 3)).trans (by decide); have ff102 : (g99 69 15).toInt = 0 := (congrArg Int32.toInt ((by rw [e99]; exact x_up2_off (Or.inr (by decide)) : g99 69 15 = g91 69 15).trans (by rw [e91]; exact x_up2_at _ _ _ _ : g91 69 15 = 0))).trans (by decide); omega))⟩⟩
              · have l103 : 5 ≤ z96.toInt := t_ltl (t_nle h97) (by decide : (4:Int) ≤ (4:Int32).toInt) rfl
                have u104 : (gi4 69 14).toInt ≤ 894 := by have := u18; omega
                refine ev_ic f_X12_ahead (nx := 198) (v := 1) rfl (by decide) rfl ?_
                refine ev_jmp f_X12_ahead (nx := 202) rfl rfl rfl ?_
                refine ev_putIT f_X12_ahead (nx := 205) rfl (hI.wf.s rfl) rfl rfl rfl (hI.putB (hI.wf.s rfl) rfl rfl (by decide : (1:Int) ≤ (1:Int32).toInt) (by decide) (by decide : (1:Int32).toInt ≤ (1:Int)) (by decide)) (hX.upI rfl) (fun g105 e105 hI hX => ?_)
                refine ev_jmp f_X12_ahead (nx := 263) rfl rfl rfl ?_
                exact ev_ret f_X12_ahead rfl rfl rfl ⟨_, _, _, rfl, hI, hX, ⟨rfl, (show (gi 69 14).toInt ≤ (g105 69 14).toInt ∧ ((g105 69 12).toInt ≠ 0 → (gi 69 14).toInt < (g105 69 14).toInt) ∧ ((g105 69 12).toInt = 3 → 0 ≤ (g105 69 15).toInt) from (by have ff106 : (g105 69 14).toInt = (gi4 69 14).toInt := congrArg Int32.toInt ((by rw [e105]; exact x_up2_off (Or.inr (by decide)) : g105 69 14 = g91 69 14).trans ((by rw [e91]; exact x_up2_off (Or.inr (by decide)) : g91 69 14 = g22 69 14).trans ((by rw [e22]; exact x_up2_off (Or.inr (by decide)) : g22 69 14 = g8 69 14).trans ((by rw [e8]; exact x_up2_off (Or.inr (by decide)) : g8 69 14 = gi4 69 14).trans rfl)))); have ff107 : (g105 69 12).toInt = 1 := (congrArg Int32.toInt (by rw [e105]; exact x_up2_at _ _ _ _ : g105 69 12 = 1)).trans (by decide); have ff108 : (g105 69 15).toInt = 0 := (congrArg Int32.toInt ((by rw [e105]; exact x_up2_off (Or.inr (by decide)) : g105 69 15 = g91 69 15).trans (by rw [e91]; exact x_up2_at _ _ _ _ : g91 69 15 = 0))).trans (by decide); omega))⟩⟩
            · have r109 : (gi4 69 14).toInt < (g8 69 11).toInt := Int32.lt_iff_toInt_lt.mp (t_nle h92)
              refine ev_loc f_X12_byteAt (nx := 9) rfl rfl rfl rfl ?_
              refine ev_getR f_X12_byteAt (nx := 12) rfl (hI.wf.s rfl) rfl rfl (hI.wf.r rfl) rfl rfl ?_
              refine ev_loc f_X12_byteAt (nx := 13) rfl rfl rfl rfl ?_
              refine ev_baldT f_X12_byteAt (nx := 14) rfl (hI.wf.s rfl) rfl l6 (by decide) u18 (by decide) rfl (fun w110 e110 => ?_)
              rw [e110.trans ((by rw [e91]; exact x_up2_off (Or.inl (by decide)) : g91 76 (gi4 69 14).toNatClampNeg = g22 76 (gi4 69 14).toNatClampNeg).trans ((by rw [e22]; exact x_up2_off (Or.inl (by decide)) : g22 76 (gi4 69 14).toNatClampNeg = g8 76 (gi4 69 14).toNatClampNeg).trans e20.symm))]
              refine ev_sp f_X12_byteAt (nx := 17) (v := 255) rfl (by decide) rfl ?_
              refine ev_andE f_X12_byteAt (nx := 18) (c := 255) rfl (by decide) (by decide) rfl (fun z111 e111 l111 u111 => ?_)
              rw [e111.trans e21.symm]
              refine ev_jmp f_X12_byteAt (nx := 22) rfl rfl rfl ?_
              refine ev_retK1 f_X12_byteAt rfl rfl rfl ?_
              refine ev_inS1 f_X12_ahead (nx := 139) (lo2 := [(0, .int z21)]) rfl rfl rfl rfl f_X12_isDigit rfl rfl rfl rfl ?_
              refine ev_loc f_X12_isDigit (nx := 1) rfl rfl rfl rfl ?_
              refine ev_bp f_X12_isDigit (nx := 3) (v := 48) rfl (by decide) rfl ?_
              refine ev_f f_X12_isDigit (t1 := 16) (t2 := 6) rfl rfl rfl (t_ltF (by decide : (48:Int32).toInt ≤ (48:Int)) l49 (by decide)) ?_
              refine ev_loc f_X12_isDigit (nx := 7) rfl rfl rfl rfl ?_
              refine ev_bp f_X12_isDigit (nx := 9) (v := 57) rfl (by decide) rfl ?_
              refine ev_f f_X12_isDigit (t1 := 16) (t2 := 12) rfl rfl rfl (t_ltF u90 (by decide : (57:Int) ≤ (57:Int32).toInt) (by decide)) ?_
              refine ev_ic f_X12_isDigit (nx := 13) (v := 1) rfl (by decide) rfl ?_
              refine ev_jmp f_X12_isDigit (nx := 17) rfl rfl rfl ?_
              refine ev_retK1 f_X12_isDigit rfl rfl rfl ?_
              refine ev_f f_X12_ahead (t1 := 183) (t2 := 142) rfl rfl rfl (by decide) ?_
              refine ev_loc f_X12_ahead (nx := 143) rfl rfl rfl rfl ?_
              refine ev_ldI f_X12_ahead (nx := 145) (v := 100000) rfl (by decide) rfl ?_
              refine ev_bp f_X12_ahead (nx := 147) (v := 10) rfl (by decide) rfl ?_
              refine ev_loc f_X12_ahead (nx := 148) rfl rfl rfl rfl ?_
              refine ev_gvI f_X12_ahead (nx := 151) (w := 0) rfl (hI.wf.s rfl) rfl rfl (by rw [e91]; exact x_up2_at _ _ _ _ : g91 69 15 = 0) rfl ?_
              refine ev_aluvI f_X12_ahead (nx := 152) (w := 0) rfl rfl rfl (by decide) rfl ?_
              refine ev_loc f_X12_ahead (nx := 153) rfl rfl rfl rfl ?_
              refine ev_loc f_X12_ahead (nx := 154) rfl rfl rfl rfl ?_
              refine ev_gvI f_X12_ahead (nx := 157) (w := (gi4 69 14)) rfl (hI.wf.s rfl) rfl rfl ((by rw [e91]; exact x_up2_off (Or.inr (by decide)) : g91 69 14 = g22 69 14).trans ((by rw [e22]; exact x_up2_off (Or.inr (by decide)) : g22 69 14 = g8 69 14).trans ((by rw [e8]; exact x_up2_off (Or.inr (by decide)) : g8 69 14 = gi4 69 14).trans rfl))) rfl ?_
              refine ev_inV2 f_X12_ahead (nx := 160) (lo2 := [(0, .ref 69), (1, .int (gi4 69 14))]) rfl rfl rfl rfl f_X12_byteAt (hI.wf.s rfl) rfl rfl rfl rfl rfl ?_
              refine ev_loc f_X12_byteAt (nx := 1) rfl rfl rfl rfl ?_
              refine ev_loc f_X12_byteAt (nx := 2) rfl rfl rfl rfl ?_
              refine ev_gvI f_X12_byteAt (nx := 5) (w := (g8 69 11)) rfl (hI.wf.s rfl) rfl rfl ((by rw [e91]; exact x_up2_off (Or.inr (by decide)) : g91 69 11 = g22 69 11).trans ((by rw [e22]; exact x_up2_off (Or.inr (by decide)) : g22 69 11 = g8 69 11).trans rfl)) rfl ?_
              refine ev_if f_X12_byteAt (t1 := 21) (t2 := 8) rfl rfl rfl (fun h112 => ?_) (fun h112 => ?_)
              · have r113 : (g8 69 11).toInt ≤ (gi4 69 14).toInt := Int32.le_iff_toInt_le.mp h112
                have u114 : (g8 69 11).toInt ≤ 899 := t_leu h112 u18
                have l115 : 1 ≤ (gi4 69 14).toInt := t_lel h112 l19
                refine ev_ic f_X12_byteAt (nx := 22) (v := -1) rfl (by decide) rfl ?_
                refine ev_retK1 f_X12_byteAt rfl rfl rfl ?_
                refine ev_aluvI f_X12_ahead (nx := 161) (w := -1) rfl rfl rfl (by decide) rfl ?_
                refine ev_bp f_X12_ahead (nx := 163) (v := 48) rfl (by decide) rfl ?_
                refine ev_aluvI f_X12_ahead (nx := 164) (w := -49) rfl rfl rfl (by decide) rfl ?_
                refine ev_mmR f_X12_ahead (nx := 167) (l := (-49)) (u := (-49)) rfl rfl rfl (by omega) rfl (by decide : (100000:Int) ≤ (100000:Int32).toInt) (by decide : (100000:Int32).toInt ≤ (100000:Int)) (by decide : ((-49):Int) ≤ ((-49):Int32).toInt) (by decide : ((-49):Int32).toInt ≤ ((-49):Int)) (by decide) (by decide) rfl (fun z116 l116 u116 => ?_)
                refine ev_putIT f_X12_ahead (nx := 170) rfl (hI.wf.s rfl) rfl rfl rfl (hI.put0 (hI.wf.s rfl) rfl rfl) (hX.upI rfl) (fun g117 e117 hI hX => ?_)
                refine ev_loc f_X12_ahead (nx := 171) rfl rfl rfl rfl ?_
                refine ev_alu f_X12_ahead (nx := 172) rfl rfl rfl rfl ?_
                refine ev_gvI f_X12_ahead (nx := 175) (w := (gi4 69 14)) rfl (hI.wf.s rfl) rfl rfl ((by rw [e117]; exact x_up2_off (Or.inr (by decide)) : g117 69 14 = g91 69 14).trans ((by rw [e91]; exact x_up2_off (Or.inr (by decide)) : g91 69 14 = g22 69 14).trans ((by rw [e22]; exact x_up2_off (Or.inr (by decide)) : g22 69 14 = g8 69 14).trans ((by rw [e8]; exact x_up2_off (Or.inr (by decide)) : g8 69 14 = gi4 69 14).trans rfl)))) rfl ?_
                refine ev_ic f_X12_ahead (nx := 176) (v := 1) rfl (by decide) rfl ?_
                refine ev_addC f_X12_ahead (nx := 177) (c := 1) (l := 2) (u := 900) rfl (by decide) l115 u18 rfl rfl (by decide) (by decide) rfl (fun z118 e118 l118 u118 => ?_)
                refine ev_putIT f_X12_ahead (nx := 180) rfl (hI.wf.s rfl) rfl rfl rfl (hI.putB (hI.wf.s rfl) rfl rfl l118 (by decide) u118 (by decide)) (hX.upI rfl) (fun g119 e119 hI hX => ?_)
                refine ev_jmp f_X12_ahead (nx := 128) rfl rfl rfl ?_
                have L120 : ∀ (m120 : Nat) (gi120 : Nat → Nat → Int32) (gl120 : Nat → Nat → Int64) (gr120 : Nat → Nat → Value), t_I sh gi120 gr120 → t_X wl_m_ahead2 sh gi gl gr gi120 gl120 gr120 → gi120 69 11 = (g8 69 11) → gi120 69 12 = (gi4 69 12) → gi120 69 13 = (gi4 69 14) → (gi 69 14).toInt < (gi120 69 14).toInt → 0 ≤ (gi120 69 15).toInt → (gi120 69 15).toInt ≤ 100000 → (900 - (gi120 69 14).toInt).toNat = m120 → x_Ev X (d + 2) n_X12_ahead 128 [(1, .int z21), (0, .ref 69)] [] (sh, gi120, gl120, gr120) (t_PN wl_m_ahead2 sh gi gl gr (Q_m_ahead2 gi gl gr)) := by
                  intro m120
                  induction m120 using Nat.strongRecOn with
                  | _ m120 ih120 =>
                  intro gi120 gl120 gr120 hI hX c120_0 c120_1 c120_2 j120_0 fl120_15 fu120_15 hm120
                  obtain ⟨l121, u121⟩ := hI.b (hI.wf.s (k := 69) rfl) (t_bdK rfl : t_bd 11 14 = some (0, 900))
                  refine ev_loc f_X12_ahead (nx := 129) rfl rfl rfl rfl ?_
                  refine ev_loc f_X12_ahead (nx := 130) rfl rfl rfl rfl ?_
                  refine ev_gvI f_X12_ahead (nx := 133) (w := (gi120 69 14)) rfl (hI.wf.s rfl) rfl rfl rfl rfl ?_
                  refine ev_inV2 f_X12_ahead (nx := 136) (lo2 := [(0, .ref 69), (1, .int (gi120 69 14))]) rfl rfl rfl rfl f_X12_byteAt (hI.wf.s rfl) rfl rfl rfl rfl rfl ?_
                  refine ev_loc f_X12_byteAt (nx := 1) rfl rfl rfl rfl ?_
                  refine ev_loc f_X12_byteAt (nx := 2) rfl rfl rfl rfl ?_
                  refine ev_gvI f_X12_byteAt (nx := 5) (w := (g8 69 11)) rfl (hI.wf.s rfl) rfl rfl c120_0 rfl ?_
                  refine ev_if f_X12_byteAt (t1 := 21) (t2 := 8) rfl rfl rfl (fun h122 => ?_) (fun h122 => ?_)
                  · have r123 : (g8 69 11).toInt ≤ (gi120 69 14).toInt := Int32.le_iff_toInt_le.mp h122
                    have l124 : 1 ≤ (gi120 69 14).toInt := t_lel h122 l19
                    refine ev_ic f_X12_byteAt (nx := 22) (v := -1) rfl (by decide) rfl ?_
                    refine ev_retK1 f_X12_byteAt rfl rfl rfl ?_
                    refine ev_inS1 f_X12_ahead (nx := 139) (lo2 := [(0, .int (-1))]) rfl rfl rfl rfl f_X12_isDigit rfl rfl rfl rfl ?_
                    refine ev_loc f_X12_isDigit (nx := 1) rfl rfl rfl rfl ?_
                    refine ev_bp f_X12_isDigit (nx := 3) (v := 48) rfl (by decide) rfl ?_
                    refine ev_t f_X12_isDigit (t1 := 16) (t2 := 6) rfl rfl rfl (by decide) ?_
                    refine ev_ic f_X12_isDigit (nx := 17) (v := 0) rfl (by decide) rfl ?_
                    refine ev_retK1 f_X12_isDigit rfl rfl rfl ?_
                    refine ev_t f_X12_ahead (t1 := 183) (t2 := 142) rfl rfl rfl (by decide) ?_
                    refine ev_loc f_X12_ahead (nx := 184) rfl rfl rfl rfl ?_
                    refine ev_loc f_X12_ahead (nx := 185) rfl rfl rfl rfl ?_
                    refine ev_gvI f_X12_ahead (nx := 188) (w := (gi120 69 14)) rfl (hI.wf.s rfl) rfl rfl rfl rfl ?_
                    refine ev_loc f_X12_ahead (nx := 189) rfl rfl rfl rfl ?_
                    refine ev_gvI f_X12_ahead (nx := 192) (w := (gi4 69 14)) rfl (hI.wf.s rfl) rfl rfl c120_2 rfl ?_
                    refine ev_subR f_X12_ahead (nx := 193) (l := (-898)) (u := 899) rfl l124 u121 l115 u18 rfl rfl (by decide) (by decide) rfl (fun z125 e125 l125 u125 => ?_)
                    refine ev_ic f_X12_ahead (nx := 194) (v := 4) rfl (by decide) rfl ?_
                    refine ev_if f_X12_ahead (t1 := 201) (t2 := 197) rfl rfl rfl (fun h126 => ?_) (fun h126 => ?_)
                    · have u127 : z125.toInt ≤ 4 := t_leu h126 (by decide : (4:Int32).toInt ≤ (4:Int))
                      refine ev_ic f_X12_ahead (nx := 202) (v := 3) rfl (by decide) rfl ?_
                      refine ev_putIT f_X12_ahead (nx := 205) rfl (hI.wf.s rfl) rfl rfl rfl (hI.putB (hI.wf.s rfl) rfl rfl (by decide : (3:Int) ≤ (3:Int32).toInt) (by decide) (by decide : (3:Int32).toInt ≤ (3:Int)) (by decide)) (hX.upI rfl) (fun g128 e128 hI hX => ?_)
                      refine ev_jmp f_X12_ahead (nx := 263) rfl rfl rfl ?_
                      exact ev_ret f_X12_ahead rfl rfl rfl ⟨_, _, _, rfl, hI, hX, ⟨rfl, (show (gi 69 14).toInt ≤ (g128 69 14).toInt ∧ ((g128 69 12).toInt ≠ 0 → (gi 69 14).toInt < (g128 69 14).toInt) ∧ ((g128 69 12).toInt = 3 → 0 ≤ (g128 69 15).toInt) from (by have ff129 : (g128 69 14).toInt = (gi120 69 14).toInt := congrArg Int32.toInt ((by rw [e128]; exact x_up2_off (Or.inr (by decide)) : g128 69 14 = gi120 69 14).trans rfl); have ff130 : (g128 69 12).toInt = 3 := (congrArg Int32.toInt (by rw [e128]; exact x_up2_at _ _ _ _ : g128 69 12 = 3)).trans (by decide); have ff131 : (g128 69 15).toInt = (gi120 69 15).toInt := congrArg Int32.toInt ((by rw [e128]; exact x_up2_off (Or.inr (by decide)) : g128 69 15 = gi120 69 15).trans rfl); omega))⟩⟩
                    · have l132 : 5 ≤ z125.toInt := t_ltl (t_nle h126) (by decide : (4:Int) ≤ (4:Int32).toInt) rfl
                      have u133 : (gi4 69 14).toInt ≤ 895 := by have := u121; omega
                      refine ev_ic f_X12_ahead (nx := 198) (v := 1) rfl (by decide) rfl ?_
                      refine ev_jmp f_X12_ahead (nx := 202) rfl rfl rfl ?_
                      refine ev_putIT f_X12_ahead (nx := 205) rfl (hI.wf.s rfl) rfl rfl rfl (hI.putB (hI.wf.s rfl) rfl rfl (by decide : (1:Int) ≤ (1:Int32).toInt) (by decide) (by decide : (1:Int32).toInt ≤ (1:Int)) (by decide)) (hX.upI rfl) (fun g134 e134 hI hX => ?_)
                      refine ev_jmp f_X12_ahead (nx := 263) rfl rfl rfl ?_
                      exact ev_ret f_X12_ahead rfl rfl rfl ⟨_, _, _, rfl, hI, hX, ⟨rfl, (show (gi 69 14).toInt ≤ (g134 69 14).toInt ∧ ((g134 69 12).toInt ≠ 0 → (gi 69 14).toInt < (g134 69 14).toInt) ∧ ((g134 69 12).toInt = 3 → 0 ≤ (g134 69 15).toInt) from (by have ff135 : (g134 69 14).toInt = (gi120 69 14).toInt := congrArg Int32.toInt ((by rw [e134]; exact x_up2_off (Or.inr (by decide)) : g134 69 14 = gi120 69 14).trans rfl); have ff136 : (g134 69 12).toInt = 1 := (congrArg Int32.toInt (by rw [e134]; exact x_up2_at _ _ _ _ : g134 69 12 = 1)).trans (by decide); have ff137 : (g134 69 15).toInt = (gi120 69 15).toInt := congrArg Int32.toInt ((by rw [e134]; exact x_up2_off (Or.inr (by decide)) : g134 69 15 = gi120 69 15).trans rfl); omega))⟩⟩
                  · have r138 : (gi120 69 14).toInt < (g8 69 11).toInt := Int32.lt_iff_toInt_lt.mp (t_nle h122)
                    have u139 : (gi120 69 14).toInt ≤ 898 := t_ltu (t_nle h122) u114 rfl
                    refine ev_loc f_X12_byteAt (nx := 9) rfl rfl rfl rfl ?_
                    refine ev_getR f_X12_byteAt (nx := 12) rfl (hI.wf.s rfl) rfl rfl (hI.wf.r rfl) rfl rfl ?_
                    refine ev_loc f_X12_byteAt (nx := 13) rfl rfl rfl rfl ?_
                    refine ev_baldT f_X12_byteAt (nx := 14) rfl (hI.wf.s rfl) rfl l121 (by decide) u139 (by decide) rfl (fun w140 e140 => ?_)
                    refine ev_sp f_X12_byteAt (nx := 17) (v := 255) rfl (by decide) rfl ?_
                    refine ev_andE f_X12_byteAt (nx := 18) (c := 255) rfl (by decide) (by decide) rfl (fun z141 e141 l141 u141 => ?_)
                    refine ev_jmp f_X12_byteAt (nx := 22) rfl rfl rfl ?_
                    refine ev_retK1 f_X12_byteAt rfl rfl rfl ?_
                    refine ev_inS1 f_X12_ahead (nx := 139) (lo2 := [(0, .int z141)]) rfl rfl rfl rfl f_X12_isDigit rfl rfl rfl rfl ?_
                    refine ev_loc f_X12_isDigit (nx := 1) rfl rfl rfl rfl ?_
                    refine ev_bp f_X12_isDigit (nx := 3) (v := 48) rfl (by decide) rfl ?_
                    refine ev_if f_X12_isDigit (t1 := 16) (t2 := 6) rfl rfl rfl (fun h142 => ?_) (fun h142 => ?_)
                    · have u143 : z141.toInt ≤ 47 := t_ltu h142 (by decide : (48:Int32).toInt ≤ (48:Int)) rfl
                      refine ev_ic f_X12_isDigit (nx := 17) (v := 0) rfl (by decide) rfl ?_
                      refine ev_retK1 f_X12_isDigit rfl rfl rfl ?_
                      refine ev_t f_X12_ahead (t1 := 183) (t2 := 142) rfl rfl rfl (by decide) ?_
                      refine ev_loc f_X12_ahead (nx := 184) rfl rfl rfl rfl ?_
                      refine ev_loc f_X12_ahead (nx := 185) rfl rfl rfl rfl ?_
                      refine ev_gvI f_X12_ahead (nx := 188) (w := (gi120 69 14)) rfl (hI.wf.s rfl) rfl rfl rfl rfl ?_
                      refine ev_loc f_X12_ahead (nx := 189) rfl rfl rfl rfl ?_
                      refine ev_gvI f_X12_ahead (nx := 192) (w := (gi4 69 14)) rfl (hI.wf.s rfl) rfl rfl c120_2 rfl ?_
                      refine ev_subR f_X12_ahead (nx := 193) (l := (-899)) (u := 897) rfl l121 u139 l115 u18 rfl rfl (by decide) (by decide) rfl (fun z144 e144 l144 u144 => ?_)
                      refine ev_ic f_X12_ahead (nx := 194) (v := 4) rfl (by decide) rfl ?_
                      refine ev_if f_X12_ahead (t1 := 201) (t2 := 197) rfl rfl rfl (fun h145 => ?_) (fun h145 => ?_)
                      · have u146 : z144.toInt ≤ 4 := t_leu h145 (by decide : (4:Int32).toInt ≤ (4:Int))
                        refine ev_ic f_X12_ahead (nx := 202) (v := 3) rfl (by decide) rfl ?_
                        refine ev_putIT f_X12_ahead (nx := 205) rfl (hI.wf.s rfl) rfl rfl rfl (hI.putB (hI.wf.s rfl) rfl rfl (by decide : (3:Int) ≤ (3:Int32).toInt) (by decide) (by decide : (3:Int32).toInt ≤ (3:Int)) (by decide)) (hX.upI rfl) (fun g147 e147 hI hX => ?_)
                        refine ev_jmp f_X12_ahead (nx := 263) rfl rfl rfl ?_
                        exact ev_ret f_X12_ahead rfl rfl rfl ⟨_, _, _, rfl, hI, hX, ⟨rfl, (show (gi 69 14).toInt ≤ (g147 69 14).toInt ∧ ((g147 69 12).toInt ≠ 0 → (gi 69 14).toInt < (g147 69 14).toInt) ∧ ((g147 69 12).toInt = 3 → 0 ≤ (g147 69 15).toInt) from (by have ff148 : (g147 69 14).toInt = (gi120 69 14).toInt := congrArg Int32.toInt ((by rw [e147]; exact x_up2_off (Or.inr (by decide)) : g147 69 14 = gi120 69 14).trans rfl); have ff149 : (g147 69 12).toInt = 3 := (congrArg Int32.toInt (by rw [e147]; exact x_up2_at _ _ _ _ : g147 69 12 = 3)).trans (by decide); have ff150 : (g147 69 15).toInt = (gi120 69 15).toInt := congrArg Int32.toInt ((by rw [e147]; exact x_up2_off (Or.inr (by decide)) : g147 69 15 = gi120 69 15).trans rfl); omega))⟩⟩
                      · have l151 : 5 ≤ z144.toInt := t_ltl (t_nle h145) (by decide : (4:Int) ≤ (4:Int32).toInt) rfl
                        have u152 : (gi4 69 14).toInt ≤ 893 := by have := u139; omega
                        refine ev_ic f_X12_ahead (nx := 198) (v := 1) rfl (by decide) rfl ?_
                        refine ev_jmp f_X12_ahead (nx := 202) rfl rfl rfl ?_
                        refine ev_putIT f_X12_ahead (nx := 205) rfl (hI.wf.s rfl) rfl rfl rfl (hI.putB (hI.wf.s rfl) rfl rfl (by decide : (1:Int) ≤ (1:Int32).toInt) (by decide) (by decide : (1:Int32).toInt ≤ (1:Int)) (by decide)) (hX.upI rfl) (fun g153 e153 hI hX => ?_)
                        refine ev_jmp f_X12_ahead (nx := 263) rfl rfl rfl ?_
                        exact ev_ret f_X12_ahead rfl rfl rfl ⟨_, _, _, rfl, hI, hX, ⟨rfl, (show (gi 69 14).toInt ≤ (g153 69 14).toInt ∧ ((g153 69 12).toInt ≠ 0 → (gi 69 14).toInt < (g153 69 14).toInt) ∧ ((g153 69 12).toInt = 3 → 0 ≤ (g153 69 15).toInt) from (by have ff154 : (g153 69 14).toInt = (gi120 69 14).toInt := congrArg Int32.toInt ((by rw [e153]; exact x_up2_off (Or.inr (by decide)) : g153 69 14 = gi120 69 14).trans rfl); have ff155 : (g153 69 12).toInt = 1 := (congrArg Int32.toInt (by rw [e153]; exact x_up2_at _ _ _ _ : g153 69 12 = 1)).trans (by decide); have ff156 : (g153 69 15).toInt = (gi120 69 15).toInt := congrArg Int32.toInt ((by rw [e153]; exact x_up2_off (Or.inr (by decide)) : g153 69 15 = gi120 69 15).trans rfl); omega))⟩⟩
                    · have l157 : 48 ≤ z141.toInt := t_lel (t_nlt h142) (by decide : (48:Int) ≤ (48:Int32).toInt)
                      refine ev_loc f_X12_isDigit (nx := 7) rfl rfl rfl rfl ?_
                      refine ev_bp f_X12_isDigit (nx := 9) (v := 57) rfl (by decide) rfl ?_
                      refine ev_if f_X12_isDigit (t1 := 16) (t2 := 12) rfl rfl rfl (fun h158 => ?_) (fun h158 => ?_)
                      · have l159 : 58 ≤ z141.toInt := t_ltl h158 (by decide : (57:Int) ≤ (57:Int32).toInt) rfl
                        refine ev_ic f_X12_isDigit (nx := 17) (v := 0) rfl (by decide) rfl ?_
                        refine ev_retK1 f_X12_isDigit rfl rfl rfl ?_
                        refine ev_t f_X12_ahead (t1 := 183) (t2 := 142) rfl rfl rfl (by decide) ?_
                        refine ev_loc f_X12_ahead (nx := 184) rfl rfl rfl rfl ?_
                        refine ev_loc f_X12_ahead (nx := 185) rfl rfl rfl rfl ?_
                        refine ev_gvI f_X12_ahead (nx := 188) (w := (gi120 69 14)) rfl (hI.wf.s rfl) rfl rfl rfl rfl ?_
                        refine ev_loc f_X12_ahead (nx := 189) rfl rfl rfl rfl ?_
                        refine ev_gvI f_X12_ahead (nx := 192) (w := (gi4 69 14)) rfl (hI.wf.s rfl) rfl rfl c120_2 rfl ?_
                        refine ev_subR f_X12_ahead (nx := 193) (l := (-899)) (u := 897) rfl l121 u139 l115 u18 rfl rfl (by decide) (by decide) rfl (fun z160 e160 l160 u160 => ?_)
                        refine ev_ic f_X12_ahead (nx := 194) (v := 4) rfl (by decide) rfl ?_
                        refine ev_if f_X12_ahead (t1 := 201) (t2 := 197) rfl rfl rfl (fun h161 => ?_) (fun h161 => ?_)
                        · have u162 : z160.toInt ≤ 4 := t_leu h161 (by decide : (4:Int32).toInt ≤ (4:Int))
                          refine ev_ic f_X12_ahead (nx := 202) (v := 3) rfl (by decide) rfl ?_
                          refine ev_putIT f_X12_ahead (nx := 205) rfl (hI.wf.s rfl) rfl rfl rfl (hI.putB (hI.wf.s rfl) rfl rfl (by decide : (3:Int) ≤ (3:Int32).toInt) (by decide) (by decide : (3:Int32).toInt ≤ (3:Int)) (by decide)) (hX.upI rfl) (fun g163 e163 hI hX => ?_)
                          refine ev_jmp f_X12_ahead (nx := 263) rfl rfl rfl ?_
                          exact ev_ret f_X12_ahead rfl rfl rfl ⟨_, _, _, rfl, hI, hX, ⟨rfl, (show (gi 69 14).toInt ≤ (g163 69 14).toInt ∧ ((g163 69 12).toInt ≠ 0 → (gi 69 14).toInt < (g163 69 14).toInt) ∧ ((g163 69 12).toInt = 3 → 0 ≤ (g163 69 15).toInt) from (by have ff164 : (g163 69 14).toInt = (gi120 69 14).toInt := congrArg Int32.toInt ((by rw [e163]; exact x_up2_off (Or.inr (by decide)) : g163 69 14 = gi120 69 14).trans rfl); have ff165 : (g163 69 12).toInt = 3 := (congrArg Int32.toInt (by rw [e163]; exact x_up2_at _ _ _ _ : g163 69 12 = 3)).trans (by decide); have ff166 : (g163 69 15).toInt = (gi120 69 15).toInt := congrArg Int32.toInt ((by rw [e163]; exact x_up2_off (Or.inr (by decide)) : g163 69 15 = gi120 69 15).trans rfl); omega))⟩⟩
                        · have l167 : 5 ≤ z160.toInt := t_ltl (t_nle h161) (by decide : (4:Int) ≤ (4:Int32).toInt) rfl
                          have u168 : (gi4 69 14).toInt ≤ 893 := by have := u139; omega
                          refine ev_ic f_X12_ahead (nx := 198) (v := 1) rfl (by decide) rfl ?_
                          refine ev_jmp f_X12_ahead (nx := 202) rfl rfl rfl ?_
                          refine ev_putIT f_X12_ahead (nx := 205) rfl (hI.wf.s rfl) rfl rfl rfl (hI.putB (hI.wf.s rfl) rfl rfl (by decide : (1:Int) ≤ (1:Int32).toInt) (by decide) (by decide : (1:Int32).toInt ≤ (1:Int)) (by decide)) (hX.upI rfl) (fun g169 e169 hI hX => ?_)
                          refine ev_jmp f_X12_ahead (nx := 263) rfl rfl rfl ?_
                          exact ev_ret f_X12_ahead rfl rfl rfl ⟨_, _, _, rfl, hI, hX, ⟨rfl, (show (gi 69 14).toInt ≤ (g169 69 14).toInt ∧ ((g169 69 12).toInt ≠ 0 → (gi 69 14).toInt < (g169 69 14).toInt) ∧ ((g169 69 12).toInt = 3 → 0 ≤ (g169 69 15).toInt) from (by have ff170 : (g169 69 14).toInt = (gi120 69 14).toInt := congrArg Int32.toInt ((by rw [e169]; exact x_up2_off (Or.inr (by decide)) : g169 69 14 = gi120 69 14).trans rfl); have ff171 : (g169 69 12).toInt = 1 := (congrArg Int32.toInt (by rw [e169]; exact x_up2_at _ _ _ _ : g169 69 12 = 1)).trans (by decide); have ff172 : (g169 69 15).toInt = (gi120 69 15).toInt := congrArg Int32.toInt ((by rw [e169]; exact x_up2_off (Or.inr (by decide)) : g169 69 15 = gi120 69 15).trans rfl); omega))⟩⟩
                      · have u173 : z141.toInt ≤ 57 := t_leu (t_nlt h158) (by decide : (57:Int32).toInt ≤ (57:Int))
                        refine ev_ic f_X12_isDigit (nx := 13) (v := 1) rfl (by decide) rfl ?_
                        refine ev_jmp f_X12_isDigit (nx := 17) rfl rfl rfl ?_
                        refine ev_retK1 f_X12_isDigit rfl rfl rfl ?_
                        refine ev_f f_X12_ahead (t1 := 183) (t2 := 142) rfl rfl rfl (by decide) ?_
                        refine ev_loc f_X12_ahead (nx := 143) rfl rfl rfl rfl ?_
                        refine ev_ldI f_X12_ahead (nx := 145) (v := 100000) rfl (by decide) rfl ?_
                        refine ev_bp f_X12_ahead (nx := 147) (v := 10) rfl (by decide) rfl ?_
                        refine ev_loc f_X12_ahead (nx := 148) rfl rfl rfl rfl ?_
                        refine ev_gvI f_X12_ahead (nx := 151) (w := (gi120 69 15)) rfl (hI.wf.s rfl) rfl rfl rfl rfl ?_
                        refine ev_mulL f_X12_ahead (nx := 152) (c := 10) (l := 0) (u := 1000000) rfl (by decide) (by decide) fl120_15 fu120_15 rfl rfl (by decide) (by decide) rfl (fun z174 e174 l174 u174 => ?_)
                        refine ev_loc f_X12_ahead (nx := 153) rfl rfl rfl rfl ?_
                        refine ev_loc f_X12_ahead (nx := 154) rfl rfl rfl rfl ?_
                        refine ev_gvI f_X12_ahead (nx := 157) (w := (gi120 69 14)) rfl (hI.wf.s rfl) rfl rfl rfl rfl ?_
                        refine ev_inV2 f_X12_ahead (nx := 160) (lo2 := [(0, .ref 69), (1, .int (gi120 69 14))]) rfl rfl rfl rfl f_X12_byteAt (hI.wf.s rfl) rfl rfl rfl rfl rfl ?_
                        refine ev_loc f_X12_byteAt (nx := 1) rfl rfl rfl rfl ?_
                        refine ev_loc f_X12_byteAt (nx := 2) rfl rfl rfl rfl ?_
                        refine ev_gvI f_X12_byteAt (nx := 5) (w := (g8 69 11)) rfl (hI.wf.s rfl) rfl rfl c120_0 rfl ?_
                        refine ev_if f_X12_byteAt (t1 := 21) (t2 := 8) rfl rfl rfl (fun h175 => ?_) (fun h175 => ?_)
                        · have r176 : (g8 69 11).toInt ≤ (gi120 69 14).toInt := Int32.le_iff_toInt_le.mp h175
                          have u177 : (g8 69 11).toInt ≤ 898 := t_leu h175 u139
                          have l178 : 1 ≤ (gi120 69 14).toInt := t_lel h175 l19
                          refine ev_ic f_X12_byteAt (nx := 22) (v := -1) rfl (by decide) rfl ?_
                          refine ev_retK1 f_X12_byteAt rfl rfl rfl ?_
                          refine ev_addC f_X12_ahead (nx := 161) (c := (-1)) (l := (-1)) (u := 999999) rfl (by decide) l174 u174 rfl rfl (by decide) (by decide) rfl (fun z179 e179 l179 u179 => ?_)
                          refine ev_bp f_X12_ahead (nx := 163) (v := 48) rfl (by decide) rfl ?_
                          refine ev_subC f_X12_ahead (nx := 164) (c := 48) (l := (-49)) (u := 999951) rfl (by decide) l179 u179 rfl rfl (by decide) (by decide) rfl (fun z180 e180 l180 u180 => ?_)
                          refine ev_mmR f_X12_ahead (nx := 167) (l := (-49)) (u := 100000) rfl rfl rfl (by omega) rfl (by decide : (100000:Int) ≤ (100000:Int32).toInt) (by decide : (100000:Int32).toInt ≤ (100000:Int)) l180 u180 (by decide) (by decide) rfl (fun z181 l181 u181 => ?_)
                          refine ev_putIT f_X12_ahead (nx := 170) rfl (hI.wf.s rfl) rfl rfl rfl (hI.put0 (hI.wf.s rfl) rfl rfl) (hX.upI rfl) (fun g182 e182 hI hX => ?_)
                          refine ev_loc f_X12_ahead (nx := 171) rfl rfl rfl rfl ?_
                          refine ev_alu f_X12_ahead (nx := 172) rfl rfl rfl rfl ?_
                          refine ev_gvI f_X12_ahead (nx := 175) (w := (gi120 69 14)) rfl (hI.wf.s rfl) rfl rfl ((by rw [e182]; exact x_up2_off (Or.inr (by decide)) : g182 69 14 = gi120 69 14).trans rfl) rfl ?_
                          refine ev_ic f_X12_ahead (nx := 176) (v := 1) rfl (by decide) rfl ?_
                          refine ev_addC f_X12_ahead (nx := 177) (c := 1) (l := 2) (u := 899) rfl (by decide) l178 u139 rfl rfl (by decide) (by decide) rfl (fun z183 e183 l183 u183 => ?_)
                          refine ev_putIT f_X12_ahead (nx := 180) rfl (hI.wf.s rfl) rfl rfl rfl (hI.putB (hI.wf.s rfl) rfl rfl l183 (by decide) u183 (by decide)) (hX.upI rfl) (fun g184 e184 hI hX => ?_)
                          refine ev_jmp f_X12_ahead (nx := 128) rfl rfl rfl ?_
                          refine ev_sub (lo := [(1, .int z21), (0, .ref 69)]) rfl (t_sc rfl (t_sc rfl t_sn)) ?_
                          exact ih120 _ (by have ff188 : (g184 69 14).toInt = z183.toInt := congrArg Int32.toInt (by rw [e184]; exact x_up2_at _ _ _ _ : g184 69 14 = z183); omega) g184 gl120 gr120  hI hX  ((by rw [e184]; exact x_up2_off (Or.inr (by decide)) : g184 69 11 = g182 69 11).trans ((by rw [e182]; exact x_up2_off (Or.inr (by decide)) : g182 69 11 = gi120 69 11).trans c120_0)) ((by rw [e184]; exact x_up2_off (Or.inr (by decide)) : g184 69 12 = g182 69 12).trans ((by rw [e182]; exact x_up2_off (Or.inr (by decide)) : g182 69 12 = gi120 69 12).trans c120_1)) ((by rw [e184]; exact x_up2_off (Or.inr (by decide)) : g184 69 13 = g182 69 13).trans ((by rw [e182]; exact x_up2_off (Or.inr (by decide)) : g182 69 13 = gi120 69 13).trans c120_2)) (by have ff185 : (g184 69 14).toInt = z183.toInt := congrArg Int32.toInt (by rw [e184]; exact x_up2_at _ _ _ _ : g184 69 14 = z183); omega) (by have ff186 : (g184 69 15).toInt = z181.toInt := congrArg Int32.toInt ((by rw [e184]; exact x_up2_off (Or.inr (by decide)) : g184 69 15 = g182 69 15).trans (by rw [e182]; exact x_up2_at _ _ _ _ : g182 69 15 = z181)); omega) (by have ff187 : (g184 69 15).toInt = z181.toInt := congrArg Int32.toInt ((by rw [e184]; exact x_up2_off (Or.inr (by decide)) : g184 69 15 = g182 69 15).trans (by rw [e182]; exact x_up2_at _ _ _ _ : g182 69 15 = z181)); omega) rfl
                        · have r189 : (gi120 69 14).toInt < (g8 69 11).toInt := Int32.lt_iff_toInt_lt.mp (t_nle h175)
                          refine ev_loc f_X12_byteAt (nx := 9) rfl rfl rfl rfl ?_
                          refine ev_getR f_X12_byteAt (nx := 12) rfl (hI.wf.s rfl) rfl rfl (hI.wf.r rfl) rfl rfl ?_
                          refine ev_loc f_X12_byteAt (nx := 13) rfl rfl rfl rfl ?_
                          refine ev_baldT f_X12_byteAt (nx := 14) rfl (hI.wf.s rfl) rfl l121 (by decide) u139 (by decide) rfl (fun w190 e190 => ?_)
                          rw [e190.trans e140.symm]
                          refine ev_sp f_X12_byteAt (nx := 17) (v := 255) rfl (by decide) rfl ?_
                          refine ev_andE f_X12_byteAt (nx := 18) (c := 255) rfl (by decide) (by decide) rfl (fun z191 e191 l191 u191 => ?_)
                          rw [e191.trans e141.symm]
                          refine ev_jmp f_X12_byteAt (nx := 22) rfl rfl rfl ?_
                          refine ev_retK1 f_X12_byteAt rfl rfl rfl ?_
                          refine ev_addR f_X12_ahead (nx := 161) (l := 48) (u := 1000057) rfl l174 u174 l157 u173 rfl rfl (by decide) (by decide) rfl (fun z192 e192 l192 u192 => ?_)
                          refine ev_bp f_X12_ahead (nx := 163) (v := 48) rfl (by decide) rfl ?_
                          refine ev_subC f_X12_ahead (nx := 164) (c := 48) (l := 0) (u := 1000009) rfl (by decide) l192 u192 rfl rfl (by decide) (by decide) rfl (fun z193 e193 l193 u193 => ?_)
                          refine ev_mmR f_X12_ahead (nx := 167) (l := 0) (u := 100000) rfl rfl rfl (by omega) rfl (by decide : (100000:Int) ≤ (100000:Int32).toInt) (by decide : (100000:Int32).toInt ≤ (100000:Int)) l193 u193 (by decide) (by decide) rfl (fun z194 l194 u194 => ?_)
                          refine ev_putIT f_X12_ahead (nx := 170) rfl (hI.wf.s rfl) rfl rfl rfl (hI.put0 (hI.wf.s rfl) rfl rfl) (hX.upI rfl) (fun g195 e195 hI hX => ?_)
                          refine ev_loc f_X12_ahead (nx := 171) rfl rfl rfl rfl ?_
                          refine ev_alu f_X12_ahead (nx := 172) rfl rfl rfl rfl ?_
                          refine ev_gvI f_X12_ahead (nx := 175) (w := (gi120 69 14)) rfl (hI.wf.s rfl) rfl rfl ((by rw [e195]; exact x_up2_off (Or.inr (by decide)) : g195 69 14 = gi120 69 14).trans rfl) rfl ?_
                          refine ev_ic f_X12_ahead (nx := 176) (v := 1) rfl (by decide) rfl ?_
                          refine ev_addC f_X12_ahead (nx := 177) (c := 1) (l := 1) (u := 899) rfl (by decide) l121 u139 rfl rfl (by decide) (by decide) rfl (fun z196 e196 l196 u196 => ?_)
                          refine ev_putIT f_X12_ahead (nx := 180) rfl (hI.wf.s rfl) rfl rfl rfl (hI.putB (hI.wf.s rfl) rfl rfl l196 (by decide) u196 (by decide)) (hX.upI rfl) (fun g197 e197 hI hX => ?_)
                          refine ev_jmp f_X12_ahead (nx := 128) rfl rfl rfl ?_
                          refine ev_sub (lo := [(1, .int z21), (0, .ref 69)]) rfl (t_sc rfl (t_sc rfl t_sn)) ?_
                          exact ih120 _ (by have ff201 : (g197 69 14).toInt = z196.toInt := congrArg Int32.toInt (by rw [e197]; exact x_up2_at _ _ _ _ : g197 69 14 = z196); omega) g197 gl120 gr120  hI hX  ((by rw [e197]; exact x_up2_off (Or.inr (by decide)) : g197 69 11 = g195 69 11).trans ((by rw [e195]; exact x_up2_off (Or.inr (by decide)) : g195 69 11 = gi120 69 11).trans c120_0)) ((by rw [e197]; exact x_up2_off (Or.inr (by decide)) : g197 69 12 = g195 69 12).trans ((by rw [e195]; exact x_up2_off (Or.inr (by decide)) : g195 69 12 = gi120 69 12).trans c120_1)) ((by rw [e197]; exact x_up2_off (Or.inr (by decide)) : g197 69 13 = g195 69 13).trans ((by rw [e195]; exact x_up2_off (Or.inr (by decide)) : g195 69 13 = gi120 69 13).trans c120_2)) (by have ff198 : (g197 69 14).toInt = z196.toInt := congrArg Int32.toInt (by rw [e197]; exact x_up2_at _ _ _ _ : g197 69 14 = z196); omega) (by have ff199 : (g197 69 15).toInt = z194.toInt := congrArg Int32.toInt ((by rw [e197]; exact x_up2_off (Or.inr (by decide)) : g197 69 15 = g195 69 15).trans (by rw [e195]; exact x_up2_at _ _ _ _ : g195 69 15 = z194)); omega) (by have ff200 : (g197 69 15).toInt = z194.toInt := congrArg Int32.toInt ((by rw [e197]; exact x_up2_off (Or.inr (by decide)) : g197 69 15 = g195 69 15).trans (by rw [e195]; exact x_up2_at _ _ _ _ : g195 69 15 = z194)); omega) rfl
                refine ev_sub (lo := [(1, .int z21), (0, .ref 69)]) rfl (t_sc rfl (t_sc rfl t_sn)) ?_
                exact L120 _ g119 gl4 gr4  hI hX  ((by rw [e119]; exact x_up2_off (Or.inr (by decide)) : g119 69 11 = g117 69 11).trans ((by rw [e117]; exact x_up2_off (Or.inr (by decide)) : g117 69 11 = g91 69 11).trans ((by rw [e91]; exact x_up2_off (Or.inr (by decide)) : g91 69 11 = g22 69 11).trans ((by rw [e22]; exact x_up2_off (Or.inr (by decide)) : g22 69 11 = g8 69 11).trans rfl)))) ((by rw [e119]; exact x_up2_off (Or.inr (by decide)) : g119 69 12 = g117 69 12).trans ((by rw [e117]; exact x_up2_off (Or.inr (by decide)) : g117 69 12 = g91 69 12).trans ((by rw [e91]; exact x_up2_off (Or.inr (by decide)) : g91 69 12 = g22 69 12).trans ((by rw [e22]; exact x_up2_off (Or.inr (by decide)) : g22 69 12 = g8 69 12).trans ((by rw [e8]; exact x_up2_off (Or.inr (by decide)) : g8 69 12 = gi4 69 12).trans rfl))))) ((by rw [e119]; exact x_up2_off (Or.inr (by decide)) : g119 69 13 = g117 69 13).trans ((by rw [e117]; exact x_up2_off (Or.inr (by decide)) : g117 69 13 = g91 69 13).trans ((by rw [e91]; exact x_up2_off (Or.inr (by decide)) : g91 69 13 = g22 69 13).trans ((by rw [e22]; exact x_up2_off (Or.inr (by decide)) : g22 69 13 = g8 69 13).trans (by rw [e8]; exact x_up2_at _ _ _ _ : g8 69 13 = (gi4 69 14)))))) (by have ff202 : (g119 69 14).toInt = z118.toInt := congrArg Int32.toInt (by rw [e119]; exact x_up2_at _ _ _ _ : g119 69 14 = z118); omega) (by have ff203 : (g119 69 15).toInt = z116.toInt := congrArg Int32.toInt ((by rw [e119]; exact x_up2_off (Or.inr (by decide)) : g119 69 15 = g117 69 15).trans (by rw [e117]; exact x_up2_at _ _ _ _ : g117 69 15 = z116)); omega) (by have ff204 : (g119 69 15).toInt = z116.toInt := congrArg Int32.toInt ((by rw [e119]; exact x_up2_off (Or.inr (by decide)) : g119 69 15 = g117 69 15).trans (by rw [e117]; exact x_up2_at _ _ _ _ : g117 69 15 = z116)); omega) rfl
              · have r205 : (gi4 69 14).toInt < (g8 69 11).toInt := Int32.lt_iff_toInt_lt.mp (t_nle h112)
                refine ev_loc f_X12_byteAt (nx := 9) rfl rfl rfl rfl ?_
                refine ev_getR f_X12_byteAt (nx := 12) rfl (hI.wf.s rfl) rfl rfl (hI.wf.r rfl) rfl rfl ?_
                refine ev_loc f_X12_byteAt (nx := 13) rfl rfl rfl rfl ?_
                refine ev_baldT f_X12_byteAt (nx := 14) rfl (hI.wf.s rfl) rfl l6 (by decide) u18 (by decide) rfl (fun w206 e206 => ?_)
                rw [e206.trans ((by rw [e91]; exact x_up2_off (Or.inl (by decide)) : g91 76 (gi4 69 14).toNatClampNeg = g22 76 (gi4 69 14).toNatClampNeg).trans ((by rw [e22]; exact x_up2_off (Or.inl (by decide)) : g22 76 (gi4 69 14).toNatClampNeg = g8 76 (gi4 69 14).toNatClampNeg).trans e20.symm))]
                refine ev_sp f_X12_byteAt (nx := 17) (v := 255) rfl (by decide) rfl ?_
                refine ev_andE f_X12_byteAt (nx := 18) (c := 255) rfl (by decide) (by decide) rfl (fun z207 e207 l207 u207 => ?_)
                rw [e207.trans e21.symm]
                refine ev_jmp f_X12_byteAt (nx := 22) rfl rfl rfl ?_
                refine ev_retK1 f_X12_byteAt rfl rfl rfl ?_
                refine ev_addK f_X12_ahead (nx := 161) (c := 0) (l := 48) (u := 57) rfl (by decide) l49 u90 rfl rfl (by decide) (by decide) rfl (fun z208 e208 l208 u208 => ?_)
                refine ev_bp f_X12_ahead (nx := 163) (v := 48) rfl (by decide) rfl ?_
                refine ev_subC f_X12_ahead (nx := 164) (c := 48) (l := 0) (u := 9) rfl (by decide) l208 u208 rfl rfl (by decide) (by decide) rfl (fun z209 e209 l209 u209 => ?_)
                refine ev_mmR f_X12_ahead (nx := 167) (l := 0) (u := 9) rfl rfl rfl (by omega) rfl (by decide : (100000:Int) ≤ (100000:Int32).toInt) (by decide : (100000:Int32).toInt ≤ (100000:Int)) l209 u209 (by decide) (by decide) rfl (fun z210 l210 u210 => ?_)
                refine ev_putIT f_X12_ahead (nx := 170) rfl (hI.wf.s rfl) rfl rfl rfl (hI.put0 (hI.wf.s rfl) rfl rfl) (hX.upI rfl) (fun g211 e211 hI hX => ?_)
                refine ev_loc f_X12_ahead (nx := 171) rfl rfl rfl rfl ?_
                refine ev_alu f_X12_ahead (nx := 172) rfl rfl rfl rfl ?_
                refine ev_gvI f_X12_ahead (nx := 175) (w := (gi4 69 14)) rfl (hI.wf.s rfl) rfl rfl ((by rw [e211]; exact x_up2_off (Or.inr (by decide)) : g211 69 14 = g91 69 14).trans ((by rw [e91]; exact x_up2_off (Or.inr (by decide)) : g91 69 14 = g22 69 14).trans ((by rw [e22]; exact x_up2_off (Or.inr (by decide)) : g22 69 14 = g8 69 14).trans ((by rw [e8]; exact x_up2_off (Or.inr (by decide)) : g8 69 14 = gi4 69 14).trans rfl)))) rfl ?_
                refine ev_ic f_X12_ahead (nx := 176) (v := 1) rfl (by decide) rfl ?_
                refine ev_addC f_X12_ahead (nx := 177) (c := 1) (l := 1) (u := 900) rfl (by decide) l6 u18 rfl rfl (by decide) (by decide) rfl (fun z212 e212 l212 u212 => ?_)
                refine ev_putIT f_X12_ahead (nx := 180) rfl (hI.wf.s rfl) rfl rfl rfl (hI.putB (hI.wf.s rfl) rfl rfl l212 (by decide) u212 (by decide)) (hX.upI rfl) (fun g213 e213 hI hX => ?_)
                refine ev_jmp f_X12_ahead (nx := 128) rfl rfl rfl ?_
                have L214 : ∀ (m214 : Nat) (gi214 : Nat → Nat → Int32) (gl214 : Nat → Nat → Int64) (gr214 : Nat → Nat → Value), t_I sh gi214 gr214 → t_X wl_m_ahead2 sh gi gl gr gi214 gl214 gr214 → gi214 69 11 = (g8 69 11) → gi214 69 12 = (gi4 69 12) → gi214 69 13 = (gi4 69 14) → (gi 69 14).toInt < (gi214 69 14).toInt → 0 ≤ (gi214 69 15).toInt → (gi214 69 15).toInt ≤ 100000 → (900 - (gi214 69 14).toInt).toNat = m214 → x_Ev X (d + 2) n_X12_ahead 128 [(1, .int z21), (0, .ref 69)] [] (sh, gi214, gl214, gr214) (t_PN wl_m_ahead2 sh gi gl gr (Q_m_ahead2 gi gl gr)) := by
                  intro m214
                  induction m214 using Nat.strongRecOn with
                  | _ m214 ih214 =>
                  intro gi214 gl214 gr214 hI hX c214_0 c214_1 c214_2 j214_0 fl214_15 fu214_15 hm214
                  obtain ⟨l215, u215⟩ := hI.b (hI.wf.s (k := 69) rfl) (t_bdK rfl : t_bd 11 14 = some (0, 900))
                  refine ev_loc f_X12_ahead (nx := 129) rfl rfl rfl rfl ?_
                  refine ev_loc f_X12_ahead (nx := 130) rfl rfl rfl rfl ?_
                  refine ev_gvI f_X12_ahead (nx := 133) (w := (gi214 69 14)) rfl (hI.wf.s rfl) rfl rfl rfl rfl ?_
                  refine ev_inV2 f_X12_ahead (nx := 136) (lo2 := [(0, .ref 69), (1, .int (gi214 69 14))]) rfl rfl rfl rfl f_X12_byteAt (hI.wf.s rfl) rfl rfl rfl rfl rfl ?_
                  refine ev_loc f_X12_byteAt (nx := 1) rfl rfl rfl rfl ?_
                  refine ev_loc f_X12_byteAt (nx := 2) rfl rfl rfl rfl ?_
                  refine ev_gvI f_X12_byteAt (nx := 5) (w := (g8 69 11)) rfl (hI.wf.s rfl) rfl rfl c214_0 rfl ?_
                  refine ev_if f_X12_byteAt (t1 := 21) (t2 := 8) rfl rfl rfl (fun h216 => ?_) (fun h216 => ?_)
                  · have r217 : (g8 69 11).toInt ≤ (gi214 69 14).toInt := Int32.le_iff_toInt_le.mp h216
                    have l218 : 1 ≤ (gi214 69 14).toInt := t_lel h216 l19
                    refine ev_ic f_X12_byteAt (nx := 22) (v := -1) rfl (by decide) rfl ?_
                    refine ev_retK1 f_X12_byteAt rfl rfl rfl ?_
                    refine ev_inS1 f_X12_ahead (nx := 139) (lo2 := [(0, .int (-1))]) rfl rfl rfl rfl f_X12_isDigit rfl rfl rfl rfl ?_
                    refine ev_loc f_X12_isDigit (nx := 1) rfl rfl rfl rfl ?_
                    refine ev_bp f_X12_isDigit (nx := 3) (v := 48) rfl (by decide) rfl ?_
                    refine ev_t f_X12_isDigit (t1 := 16) (t2 := 6) rfl rfl rfl (by decide) ?_
                    refine ev_ic f_X12_isDigit (nx := 17) (v := 0) rfl (by decide) rfl ?_
                    refine ev_retK1 f_X12_isDigit rfl rfl rfl ?_
                    refine ev_t f_X12_ahead (t1 := 183) (t2 := 142) rfl rfl rfl (by decide) ?_
                    refine ev_loc f_X12_ahead (nx := 184) rfl rfl rfl rfl ?_
                    refine ev_loc f_X12_ahead (nx := 185) rfl rfl rfl rfl ?_
                    refine ev_gvI f_X12_ahead (nx := 188) (w := (gi214 69 14)) rfl (hI.wf.s rfl) rfl rfl rfl rfl ?_
                    refine ev_loc f_X12_ahead (nx := 189) rfl rfl rfl rfl ?_
                    refine ev_gvI f_X12_ahead (nx := 192) (w := (gi4 69 14)) rfl (hI.wf.s rfl) rfl rfl c214_2 rfl ?_
                    refine ev_subR f_X12_ahead (nx := 193) (l := (-898)) (u := 900) rfl l218 u215 l6 u18 rfl rfl (by decide) (by decide) rfl (fun z219 e219 l219 u219 => ?_)
                    refine ev_ic f_X12_ahead (nx := 194) (v := 4) rfl (by decide) rfl ?_
                    refine ev_if f_X12_ahead (t1 := 201) (t2 := 197) rfl rfl rfl (fun h220 => ?_) (fun h220 => ?_)
                    · have u221 : z219.toInt ≤ 4 := t_leu h220 (by decide : (4:Int32).toInt ≤ (4:Int))
                      refine ev_ic f_X12_ahead (nx := 202) (v := 3) rfl (by decide) rfl ?_
                      refine ev_putIT f_X12_ahead (nx := 205) rfl (hI.wf.s rfl) rfl rfl rfl (hI.putB (hI.wf.s rfl) rfl rfl (by decide : (3:Int) ≤ (3:Int32).toInt) (by decide) (by decide : (3:Int32).toInt ≤ (3:Int)) (by decide)) (hX.upI rfl) (fun g222 e222 hI hX => ?_)
                      refine ev_jmp f_X12_ahead (nx := 263) rfl rfl rfl ?_
                      exact ev_ret f_X12_ahead rfl rfl rfl ⟨_, _, _, rfl, hI, hX, ⟨rfl, (show (gi 69 14).toInt ≤ (g222 69 14).toInt ∧ ((g222 69 12).toInt ≠ 0 → (gi 69 14).toInt < (g222 69 14).toInt) ∧ ((g222 69 12).toInt = 3 → 0 ≤ (g222 69 15).toInt) from (by have ff223 : (g222 69 14).toInt = (gi214 69 14).toInt := congrArg Int32.toInt ((by rw [e222]; exact x_up2_off (Or.inr (by decide)) : g222 69 14 = gi214 69 14).trans rfl); have ff224 : (g222 69 12).toInt = 3 := (congrArg Int32.toInt (by rw [e222]; exact x_up2_at _ _ _ _ : g222 69 12 = 3)).trans (by decide); have ff225 : (g222 69 15).toInt = (gi214 69 15).toInt := congrArg Int32.toInt ((by rw [e222]; exact x_up2_off (Or.inr (by decide)) : g222 69 15 = gi214 69 15).trans rfl); omega))⟩⟩
                    · have l226 : 5 ≤ z219.toInt := t_ltl (t_nle h220) (by decide : (4:Int) ≤ (4:Int32).toInt) rfl
                      have u227 : (gi4 69 14).toInt ≤ 895 := by have := u215; omega
                      refine ev_ic f_X12_ahead (nx := 198) (v := 1) rfl (by decide) rfl ?_
                      refine ev_jmp f_X12_ahead (nx := 202) rfl rfl rfl ?_
                      refine ev_putIT f_X12_ahead (nx := 205) rfl (hI.wf.s rfl) rfl rfl rfl (hI.putB (hI.wf.s rfl) rfl rfl (by decide : (1:Int) ≤ (1:Int32).toInt) (by decide) (by decide : (1:Int32).toInt ≤ (1:Int)) (by decide)) (hX.upI rfl) (fun g228 e228 hI hX => ?_)
                      refine ev_jmp f_X12_ahead (nx := 263) rfl rfl rfl ?_
                      exact ev_ret f_X12_ahead rfl rfl rfl ⟨_, _, _, rfl, hI, hX, ⟨rfl, (show (gi 69 14).toInt ≤ (g228 69 14).toInt ∧ ((g228 69 12).toInt ≠ 0 → (gi 69 14).toInt < (g228 69 14).toInt) ∧ ((g228 69 12).toInt = 3 → 0 ≤ (g228 69 15).toInt) from (by have ff229 : (g228 69 14).toInt = (gi214 69 14).toInt := congrArg Int32.toInt ((by rw [e228]; exact x_up2_off (Or.inr (by decide)) : g228 69 14 = gi214 69 14).trans rfl); have ff230 : (g228 69 12).toInt = 1 := (congrArg Int32.toInt (by rw [e228]; exact x_up2_at _ _ _ _ : g228 69 12 = 1)).trans (by decide); have ff231 : (g228 69 15).toInt = (gi214 69 15).toInt := congrArg Int32.toInt ((by rw [e228]; exact x_up2_off (Or.inr (by decide)) : g228 69 15 = gi214 69 15).trans rfl); omega))⟩⟩
                  · have r232 : (gi214 69 14).toInt < (g8 69 11).toInt := Int32.lt_iff_toInt_lt.mp (t_nle h216)
                    have u233 : (gi214 69 14).toInt ≤ 899 := t_ltu (t_nle h216) u9 rfl
                    refine ev_loc f_X12_byteAt (nx := 9) rfl rfl rfl rfl ?_
                    refine ev_getR f_X12_byteAt (nx := 12) rfl (hI.wf.s rfl) rfl rfl (hI.wf.r rfl) rfl rfl ?_
                    refine ev_loc f_X12_byteAt (nx := 13) rfl rfl rfl rfl ?_
                    refine ev_baldT f_X12_byteAt (nx := 14) rfl (hI.wf.s rfl) rfl l215 (by decide) u233 (by decide) rfl (fun w234 e234 => ?_)
                    refine ev_sp f_X12_byteAt (nx := 17) (v := 255) rfl (by decide) rfl ?_
                    refine ev_andE f_X12_byteAt (nx := 18) (c := 255) rfl (by decide) (by decide) rfl (fun z235 e235 l235 u235 => ?_)
                    refine ev_jmp f_X12_byteAt (nx := 22) rfl rfl rfl ?_
                    refine ev_retK1 f_X12_byteAt rfl rfl rfl ?_
                    refine ev_inS1 f_X12_ahead (nx := 139) (lo2 := [(0, .int z235)]) rfl rfl rfl rfl f_X12_isDigit rfl rfl rfl rfl ?_
                    refine ev_loc f_X12_isDigit (nx := 1) rfl rfl rfl rfl ?_
                    refine ev_bp f_X12_isDigit (nx := 3) (v := 48) rfl (by decide) rfl ?_
                    refine ev_if f_X12_isDigit (t1 := 16) (t2 := 6) rfl rfl rfl (fun h236 => ?_) (fun h236 => ?_)
                    · have u237 : z235.toInt ≤ 47 := t_ltu h236 (by decide : (48:Int32).toInt ≤ (48:Int)) rfl
                      refine ev_ic f_X12_isDigit (nx := 17) (v := 0) rfl (by decide) rfl ?_
                      refine ev_retK1 f_X12_isDigit rfl rfl rfl ?_
                      refine ev_t f_X12_ahead (t1 := 183) (t2 := 142) rfl rfl rfl (by decide) ?_
                      refine ev_loc f_X12_ahead (nx := 184) rfl rfl rfl rfl ?_
                      refine ev_loc f_X12_ahead (nx := 185) rfl rfl rfl rfl ?_
                      refine ev_gvI f_X12_ahead (nx := 188) (w := (gi214 69 14)) rfl (hI.wf.s rfl) rfl rfl rfl rfl ?_
                      refine ev_loc f_X12_ahead (nx := 189) rfl rfl rfl rfl ?_
                      refine ev_gvI f_X12_ahead (nx := 192) (w := (gi4 69 14)) rfl (hI.wf.s rfl) rfl rfl c214_2 rfl ?_
                      refine ev_subR f_X12_ahead (nx := 193) (l := (-899)) (u := 899) rfl l215 u233 l6 u18 rfl rfl (by decide) (by decide) rfl (fun z238 e238 l238 u238 => ?_)
                      refine ev_ic f_X12_ahead (nx := 194) (v := 4) rfl (by decide) rfl ?_
                      refine ev_if f_X12_ahead (t1 := 201) (t2 := 197) rfl rfl rfl (fun h239 => ?_) (fun h239 => ?_)
                      · have u240 : z238.toInt ≤ 4 := t_leu h239 (by decide : (4:Int32).toInt ≤ (4:Int))
                        refine ev_ic f_X12_ahead (nx := 202) (v := 3) rfl (by decide) rfl ?_
                        refine ev_putIT f_X12_ahead (nx := 205) rfl (hI.wf.s rfl) rfl rfl rfl (hI.putB (hI.wf.s rfl) rfl rfl (by decide : (3:Int) ≤ (3:Int32).toInt) (by decide) (by decide : (3:Int32).toInt ≤ (3:Int)) (by decide)) (hX.upI rfl) (fun g241 e241 hI hX => ?_)
                        refine ev_jmp f_X12_ahead (nx := 263) rfl rfl rfl ?_
                        exact ev_ret f_X12_ahead rfl rfl rfl ⟨_, _, _, rfl, hI, hX, ⟨rfl, (show (gi 69 14).toInt ≤ (g241 69 14).toInt ∧ ((g241 69 12).toInt ≠ 0 → (gi 69 14).toInt < (g241 69 14).toInt) ∧ ((g241 69 12).toInt = 3 → 0 ≤ (g241 69 15).toInt) from (by have ff242 : (g241 69 14).toInt = (gi214 69 14).toInt := congrArg Int32.toInt ((by rw [e241]; exact x_up2_off (Or.inr (by decide)) : g241 69 14 = gi214 69 14).trans rfl); have ff243 : (g241 69 12).toInt = 3 := (congrArg Int32.toInt (by rw [e241]; exact x_up2_at _ _ _ _ : g241 69 12 = 3)).trans (by decide); have ff244 : (g241 69 15).toInt = (gi214 69 15).toInt := congrArg Int32.toInt ((by rw [e241]; exact x_up2_off (Or.inr (by decide)) : g241 69 15 = gi214 69 15).trans rfl); omega))⟩⟩
                      · have l245 : 5 ≤ z238.toInt := t_ltl (t_nle h239) (by decide : (4:Int) ≤ (4:Int32).toInt) rfl
                        have u246 : (gi4 69 14).toInt ≤ 894 := by have := u233; omega
                        refine ev_ic f_X12_ahead (nx := 198) (v := 1) rfl (by decide) rfl ?_
                        refine ev_jmp f_X12_ahead (nx := 202) rfl rfl rfl ?_
                        refine ev_putIT f_X12_ahead (nx := 205) rfl (hI.wf.s rfl) rfl rfl rfl (hI.putB (hI.wf.s rfl) rfl rfl (by decide : (1:Int) ≤ (1:Int32).toInt) (by decide) (by decide : (1:Int32).toInt ≤ (1:Int)) (by decide)) (hX.upI rfl) (fun g247 e247 hI hX => ?_)
                        refine ev_jmp f_X12_ahead (nx := 263) rfl rfl rfl ?_
                        exact ev_ret f_X12_ahead rfl rfl rfl ⟨_, _, _, rfl, hI, hX, ⟨rfl, (show (gi 69 14).toInt ≤ (g247 69 14).toInt ∧ ((g247 69 12).toInt ≠ 0 → (gi 69 14).toInt < (g247 69 14).toInt) ∧ ((g247 69 12).toInt = 3 → 0 ≤ (g247 69 15).toInt) from (by have ff248 : (g247 69 14).toInt = (gi214 69 14).toInt := congrArg Int32.toInt ((by rw [e247]; exact x_up2_off (Or.inr (by decide)) : g247 69 14 = gi214 69 14).trans rfl); have ff249 : (g247 69 12).toInt = 1 := (congrArg Int32.toInt (by rw [e247]; exact x_up2_at _ _ _ _ : g247 69 12 = 1)).trans (by decide); have ff250 : (g247 69 15).toInt = (gi214 69 15).toInt := congrArg Int32.toInt ((by rw [e247]; exact x_up2_off (Or.inr (by decide)) : g247 69 15 = gi214 69 15).trans rfl); omega))⟩⟩
                    · have l251 : 48 ≤ z235.toInt := t_lel (t_nlt h236) (by decide : (48:Int) ≤ (48:Int32).toInt)
                      refine ev_loc f_X12_isDigit (nx := 7) rfl rfl rfl rfl ?_
                      refine ev_bp f_X12_isDigit (nx := 9) (v := 57) rfl (by decide) rfl ?_
                      refine ev_if f_X12_isDigit (t1 := 16) (t2 := 12) rfl rfl rfl (fun h252 => ?_) (fun h252 => ?_)
                      · have l253 : 58 ≤ z235.toInt := t_ltl h252 (by decide : (57:Int) ≤ (57:Int32).toInt) rfl
                        refine ev_ic f_X12_isDigit (nx := 17) (v := 0) rfl (by decide) rfl ?_
                        refine ev_retK1 f_X12_isDigit rfl rfl rfl ?_
                        refine ev_t f_X12_ahead (t1 := 183) (t2 := 142) rfl rfl rfl (by decide) ?_
                        refine ev_loc f_X12_ahead (nx := 184) rfl rfl rfl rfl ?_
                        refine ev_loc f_X12_ahead (nx := 185) rfl rfl rfl rfl ?_
                        refine ev_gvI f_X12_ahead (nx := 188) (w := (gi214 69 14)) rfl (hI.wf.s rfl) rfl rfl rfl rfl ?_
                        refine ev_loc f_X12_ahead (nx := 189) rfl rfl rfl rfl ?_
                        refine ev_gvI f_X12_ahead (nx := 192) (w := (gi4 69 14)) rfl (hI.wf.s rfl) rfl rfl c214_2 rfl ?_
                        refine ev_subR f_X12_ahead (nx := 193) (l := (-899)) (u := 899) rfl l215 u233 l6 u18 rfl rfl (by decide) (by decide) rfl (fun z254 e254 l254 u254 => ?_)
                        refine ev_ic f_X12_ahead (nx := 194) (v := 4) rfl (by decide) rfl ?_
                        refine ev_if f_X12_ahead (t1 := 201) (t2 := 197) rfl rfl rfl (fun h255 => ?_) (fun h255 => ?_)
                        · have u256 : z254.toInt ≤ 4 := t_leu h255 (by decide : (4:Int32).toInt ≤ (4:Int))
                          refine ev_ic f_X12_ahead (nx := 202) (v := 3) rfl (by decide) rfl ?_
                          refine ev_putIT f_X12_ahead (nx := 205) rfl (hI.wf.s rfl) rfl rfl rfl (hI.putB (hI.wf.s rfl) rfl rfl (by decide : (3:Int) ≤ (3:Int32).toInt) (by decide) (by decide : (3:Int32).toInt ≤ (3:Int)) (by decide)) (hX.upI rfl) (fun g257 e257 hI hX => ?_)
                          refine ev_jmp f_X12_ahead (nx := 263) rfl rfl rfl ?_
                          exact ev_ret f_X12_ahead rfl rfl rfl ⟨_, _, _, rfl, hI, hX, ⟨rfl, (show (gi 69 14).toInt ≤ (g257 69 14).toInt ∧ ((g257 69 12).toInt ≠ 0 → (gi 69 14).toInt < (g257 69 14).toInt) ∧ ((g257 69 12).toInt = 3 → 0 ≤ (g257 69 15).toInt) from (by have ff258 : (g257 69 14).toInt = (gi214 69 14).toInt := congrArg Int32.toInt ((by rw [e257]; exact x_up2_off (Or.inr (by decide)) : g257 69 14 = gi214 69 14).trans rfl); have ff259 : (g257 69 12).toInt = 3 := (congrArg Int32.toInt (by rw [e257]; exact x_up2_at _ _ _ _ : g257 69 12 = 3)).trans (by decide); have ff260 : (g257 69 15).toInt = (gi214 69 15).toInt := congrArg Int32.toInt ((by rw [e257]; exact x_up2_off (Or.inr (by decide)) : g257 69 15 = gi214 69 15).trans rfl); omega))⟩⟩
                        · have l261 : 5 ≤ z254.toInt := t_ltl (t_nle h255) (by decide : (4:Int) ≤ (4:Int32).toInt) rfl
                          have u262 : (gi4 69 14).toInt ≤ 894 := by have := u233; omega
                          refine ev_ic f_X12_ahead (nx := 198) (v := 1) rfl (by decide) rfl ?_
                          refine ev_jmp f_X12_ahead (nx := 202) rfl rfl rfl ?_
                          refine ev_putIT f_X12_ahead (nx := 205) rfl (hI.wf.s rfl) rfl rfl rfl (hI.putB (hI.wf.s rfl) rfl rfl (by decide : (1:Int) ≤ (1:Int32).toInt) (by decide) (by decide : (1:Int32).toInt ≤ (1:Int)) (by decide)) (hX.upI rfl) (fun g263 e263 hI hX => ?_)
                          refine ev_jmp f_X12_ahead (nx := 263) rfl rfl rfl ?_
                          exact ev_ret f_X12_ahead rfl rfl rfl ⟨_, _, _, rfl, hI, hX, ⟨rfl, (show (gi 69 14).toInt ≤ (g263 69 14).toInt ∧ ((g263 69 12).toInt ≠ 0 → (gi 69 14).toInt < (g263 69 14).toInt) ∧ ((g263 69 12).toInt = 3 → 0 ≤ (g263 69 15).toInt) from (by have ff264 : (g263 69 14).toInt = (gi214 69 14).toInt := congrArg Int32.toInt ((by rw [e263]; exact x_up2_off (Or.inr (by decide)) : g263 69 14 = gi214 69 14).trans rfl); have ff265 : (g263 69 12).toInt = 1 := (congrArg Int32.toInt (by rw [e263]; exact x_up2_at _ _ _ _ : g263 69 12 = 1)).trans (by decide); have ff266 : (g263 69 15).toInt = (gi214 69 15).toInt := congrArg Int32.toInt ((by rw [e263]; exact x_up2_off (Or.inr (by decide)) : g263 69 15 = gi214 69 15).trans rfl); omega))⟩⟩
                      · have u267 : z235.toInt ≤ 57 := t_leu (t_nlt h252) (by decide : (57:Int32).toInt ≤ (57:Int))
                        refine ev_ic f_X12_isDigit (nx := 13) (v := 1) rfl (by decide) rfl ?_
                        refine ev_jmp f_X12_isDigit (nx := 17) rfl rfl rfl ?_
                        refine ev_retK1 f_X12_isDigit rfl rfl rfl ?_
                        refine ev_f f_X12_ahead (t1 := 183) (t2 := 142) rfl rfl rfl (by decide) ?_
                        refine ev_loc f_X12_ahead (nx := 143) rfl rfl rfl rfl ?_
                        refine ev_ldI f_X12_ahead (nx := 145) (v := 100000) rfl (by decide) rfl ?_
                        refine ev_bp f_X12_ahead (nx := 147) (v := 10) rfl (by decide) rfl ?_
                        refine ev_loc f_X12_ahead (nx := 148) rfl rfl rfl rfl ?_
                        refine ev_gvI f_X12_ahead (nx := 151) (w := (gi214 69 15)) rfl (hI.wf.s rfl) rfl rfl rfl rfl ?_
                        refine ev_mulL f_X12_ahead (nx := 152) (c := 10) (l := 0) (u := 1000000) rfl (by decide) (by decide) fl214_15 fu214_15 rfl rfl (by decide) (by decide) rfl (fun z268 e268 l268 u268 => ?_)
                        refine ev_loc f_X12_ahead (nx := 153) rfl rfl rfl rfl ?_
                        refine ev_loc f_X12_ahead (nx := 154) rfl rfl rfl rfl ?_
                        refine ev_gvI f_X12_ahead (nx := 157) (w := (gi214 69 14)) rfl (hI.wf.s rfl) rfl rfl rfl rfl ?_
                        refine ev_inV2 f_X12_ahead (nx := 160) (lo2 := [(0, .ref 69), (1, .int (gi214 69 14))]) rfl rfl rfl rfl f_X12_byteAt (hI.wf.s rfl) rfl rfl rfl rfl rfl ?_
                        refine ev_loc f_X12_byteAt (nx := 1) rfl rfl rfl rfl ?_
                        refine ev_loc f_X12_byteAt (nx := 2) rfl rfl rfl rfl ?_
                        refine ev_gvI f_X12_byteAt (nx := 5) (w := (g8 69 11)) rfl (hI.wf.s rfl) rfl rfl c214_0 rfl ?_
                        refine ev_if f_X12_byteAt (t1 := 21) (t2 := 8) rfl rfl rfl (fun h269 => ?_) (fun h269 => ?_)
                        · have r270 : (g8 69 11).toInt ≤ (gi214 69 14).toInt := Int32.le_iff_toInt_le.mp h269
                          have u271 : (g8 69 11).toInt ≤ 899 := t_leu h269 u233
                          have l272 : 1 ≤ (gi214 69 14).toInt := t_lel h269 l19
                          refine ev_ic f_X12_byteAt (nx := 22) (v := -1) rfl (by decide) rfl ?_
                          refine ev_retK1 f_X12_byteAt rfl rfl rfl ?_
                          refine ev_addC f_X12_ahead (nx := 161) (c := (-1)) (l := (-1)) (u := 999999) rfl (by decide) l268 u268 rfl rfl (by decide) (by decide) rfl (fun z273 e273 l273 u273 => ?_)
                          refine ev_bp f_X12_ahead (nx := 163) (v := 48) rfl (by decide) rfl ?_
                          refine ev_subC f_X12_ahead (nx := 164) (c := 48) (l := (-49)) (u := 999951) rfl (by decide) l273 u273 rfl rfl (by decide) (by decide) rfl (fun z274 e274 l274 u274 => ?_)
                          refine ev_mmR f_X12_ahead (nx := 167) (l := (-49)) (u := 100000) rfl rfl rfl (by omega) rfl (by decide : (100000:Int) ≤ (100000:Int32).toInt) (by decide : (100000:Int32).toInt ≤ (100000:Int)) l274 u274 (by decide) (by decide) rfl (fun z275 l275 u275 => ?_)
                          refine ev_putIT f_X12_ahead (nx := 170) rfl (hI.wf.s rfl) rfl rfl rfl (hI.put0 (hI.wf.s rfl) rfl rfl) (hX.upI rfl) (fun g276 e276 hI hX => ?_)
                          refine ev_loc f_X12_ahead (nx := 171) rfl rfl rfl rfl ?_
                          refine ev_alu f_X12_ahead (nx := 172) rfl rfl rfl rfl ?_
                          refine ev_gvI f_X12_ahead (nx := 175) (w := (gi214 69 14)) rfl (hI.wf.s rfl) rfl rfl ((by rw [e276]; exact x_up2_off (Or.inr (by decide)) : g276 69 14 = gi214 69 14).trans rfl) rfl ?_
                          refine ev_ic f_X12_ahead (nx := 176) (v := 1) rfl (by decide) rfl ?_
                          refine ev_addC f_X12_ahead (nx := 177) (c := 1) (l := 2) (u := 900) rfl (by decide) l272 u233 rfl rfl (by decide) (by decide) rfl (fun z277 e277 l277 u277 => ?_)
                          refine ev_putIT f_X12_ahead (nx := 180) rfl (hI.wf.s rfl) rfl rfl rfl (hI.putB (hI.wf.s rfl) rfl rfl l277 (by decide) u277 (by decide)) (hX.upI rfl) (fun g278 e278 hI hX => ?_)
                          refine ev_jmp f_X12_ahead (nx := 128) rfl rfl rfl ?_
                          refine ev_sub (lo := [(1, .int z21), (0, .ref 69)]) rfl (t_sc rfl (t_sc rfl t_sn)) ?_
                          exact ih214 _ (by have ff282 : (g278 69 14).toInt = z277.toInt := congrArg Int32.toInt (by rw [e278]; exact x_up2_at _ _ _ _ : g278 69 14 = z277); omega) g278 gl214 gr214  hI hX  ((by rw [e278]; exact x_up2_off (Or.inr (by decide)) : g278 69 11 = g276 69 11).trans ((by rw [e276]; exact x_up2_off (Or.inr (by decide)) : g276 69 11 = gi214 69 11).trans c214_0)) ((by rw [e278]; exact x_up2_off (Or.inr (by decide)) : g278 69 12 = g276 69 12).trans ((by rw [e276]; exact x_up2_off (Or.inr (by decide)) : g276 69 12 = gi214 69 12).trans c214_1)) ((by rw [e278]; exact x_up2_off (Or.inr (by decide)) : g278 69 13 = g276 69 13).trans ((by rw [e276]; exact x_up2_off (Or.inr (by decide)) : g276 69 13 = gi214 69 13).trans c214_2)) (by have ff279 : (g278 69 14).toInt = z277.toInt := congrArg Int32.toInt (by rw [e278]; exact x_up2_at _ _ _ _ : g278 69 14 = z277); omega) (by have ff280 : (g278 69 15).toInt = z275.toInt := congrArg Int32.toInt ((by rw [e278]; exact x_up2_off (Or.inr (by decide)) : g278 69 15 = g276 69 15).trans (by rw [e276]; exact x_up2_at _ _ _ _ : g276 69 15 = z275)); omega) (by have ff281 : (g278 69 15).toInt = z275.toInt := congrArg Int32.toInt ((by rw [e278]; exact x_up2_off (Or.inr (by decide)) : g278 69 15 = g276 69 15).trans (by rw [e276]; exact x_up2_at _ _ _ _ : g276 69 15 = z275)); omega) rfl
                        · have r283 : (gi214 69 14).toInt < (g8 69 11).toInt := Int32.lt_iff_toInt_lt.mp (t_nle h269)
                          refine ev_loc f_X12_byteAt (nx := 9) rfl rfl rfl rfl ?_
                          refine ev_getR f_X12_byteAt (nx := 12) rfl (hI.wf.s rfl) rfl rfl (hI.wf.r rfl) rfl rfl ?_
                          refine ev_loc f_X12_byteAt (nx := 13) rfl rfl rfl rfl ?_
                          refine ev_baldT f_X12_byteAt (nx := 14) rfl (hI.wf.s rfl) rfl l215 (by decide) u233 (by decide) rfl (fun w284 e284 => ?_)
                          rw [e284.trans e234.symm]
                          refine ev_sp f_X12_byteAt (nx := 17) (v := 255) rfl (by decide) rfl ?_
                          refine ev_andE f_X12_byteAt (nx := 18) (c := 255) rfl (by decide) (by decide) rfl (fun z285 e285 l285 u285 => ?_)
                          rw [e285.trans e235.symm]
                          refine ev_jmp f_X12_byteAt (nx := 22) rfl rfl rfl ?_
                          refine ev_retK1 f_X12_byteAt rfl rfl rfl ?_
                          refine ev_addR f_X12_ahead (nx := 161) (l := 48) (u := 1000057) rfl l268 u268 l251 u267 rfl rfl (by decide) (by decide) rfl (fun z286 e286 l286 u286 => ?_)
                          refine ev_bp f_X12_ahead (nx := 163) (v := 48) rfl (by decide) rfl ?_
                          refine ev_subC f_X12_ahead (nx := 164) (c := 48) (l := 0) (u := 1000009) rfl (by decide) l286 u286 rfl rfl (by decide) (by decide) rfl (fun z287 e287 l287 u287 => ?_)
                          refine ev_mmR f_X12_ahead (nx := 167) (l := 0) (u := 100000) rfl rfl rfl (by omega) rfl (by decide : (100000:Int) ≤ (100000:Int32).toInt) (by decide : (100000:Int32).toInt ≤ (100000:Int)) l287 u287 (by decide) (by decide) rfl (fun z288 l288 u288 => ?_)
                          refine ev_putIT f_X12_ahead (nx := 170) rfl (hI.wf.s rfl) rfl rfl rfl (hI.put0 (hI.wf.s rfl) rfl rfl) (hX.upI rfl) (fun g289 e289 hI hX => ?_)
                          refine ev_loc f_X12_ahead (nx := 171) rfl rfl rfl rfl ?_
                          refine ev_alu f_X12_ahead (nx := 172) rfl rfl rfl rfl ?_
                          refine ev_gvI f_X12_ahead (nx := 175) (w := (gi214 69 14)) rfl (hI.wf.s rfl) rfl rfl ((by rw [e289]; exact x_up2_off (Or.inr (by decide)) : g289 69 14 = gi214 69 14).trans rfl) rfl ?_
                          refine ev_ic f_X12_ahead (nx := 176) (v := 1) rfl (by decide) rfl ?_
                          refine ev_addC f_X12_ahead (nx := 177) (c := 1) (l := 1) (u := 900) rfl (by decide) l215 u233 rfl rfl (by decide) (by decide) rfl (fun z290 e290 l290 u290 => ?_)
                          refine ev_putIT f_X12_ahead (nx := 180) rfl (hI.wf.s rfl) rfl rfl rfl (hI.putB (hI.wf.s rfl) rfl rfl l290 (by decide) u290 (by decide)) (hX.upI rfl) (fun g291 e291 hI hX => ?_)
                          refine ev_jmp f_X12_ahead (nx := 128) rfl rfl rfl ?_
                          refine ev_sub (lo := [(1, .int z21), (0, .ref 69)]) rfl (t_sc rfl (t_sc rfl t_sn)) ?_
                          exact ih214 _ (by have ff295 : (g291 69 14).toInt = z290.toInt := congrArg Int32.toInt (by rw [e291]; exact x_up2_at _ _ _ _ : g291 69 14 = z290); omega) g291 gl214 gr214  hI hX  ((by rw [e291]; exact x_up2_off (Or.inr (by decide)) : g291 69 11 = g289 69 11).trans ((by rw [e289]; exact x_up2_off (Or.inr (by decide)) : g289 69 11 = gi214 69 11).trans c214_0)) ((by rw [e291]; exact x_up2_off (Or.inr (by decide)) : g291 69 12 = g289 69 12).trans ((by rw [e289]; exact x_up2_off (Or.inr (by decide)) : g289 69 12 = gi214 69 12).trans c214_1)) ((by rw [e291]; exact x_up2_off (Or.inr (by decide)) : g291 69 13 = g289 69 13).trans ((by rw [e289]; exact x_up2_off (Or.inr (by decide)) : g289 69 13 = gi214 69 13).trans c214_2)) (by have ff292 : (g291 69 14).toInt = z290.toInt := congrArg Int32.toInt (by rw [e291]; exact x_up2_at _ _ _ _ : g291 69 14 = z290); omega) (by have ff293 : (g291 69 15).toInt = z288.toInt := congrArg Int32.toInt ((by rw [e291]; exact x_up2_off (Or.inr (by decide)) : g291 69 15 = g289 69 15).trans (by rw [e289]; exact x_up2_at _ _ _ _ : g289 69 15 = z288)); omega) (by have ff294 : (g291 69 15).toInt = z288.toInt := congrArg Int32.toInt ((by rw [e291]; exact x_up2_off (Or.inr (by decide)) : g291 69 15 = g289 69 15).trans (by rw [e289]; exact x_up2_at _ _ _ _ : g289 69 15 = z288)); omega) rfl
                refine ev_sub (lo := [(1, .int z21), (0, .ref 69)]) rfl (t_sc rfl (t_sc rfl t_sn)) ?_
                exact L214 _ g213 gl4 gr4  hI hX  ((by rw [e213]; exact x_up2_off (Or.inr (by decide)) : g213 69 11 = g211 69 11).trans ((by rw [e211]; exact x_up2_off (Or.inr (by decide)) : g211 69 11 = g91 69 11).trans ((by rw [e91]; exact x_up2_off (Or.inr (by decide)) : g91 69 11 = g22 69 11).trans ((by rw [e22]; exact x_up2_off (Or.inr (by decide)) : g22 69 11 = g8 69 11).trans rfl)))) ((by rw [e213]; exact x_up2_off (Or.inr (by decide)) : g213 69 12 = g211 69 12).trans ((by rw [e211]; exact x_up2_off (Or.inr (by decide)) : g211 69 12 = g91 69 12).trans ((by rw [e91]; exact x_up2_off (Or.inr (by decide)) : g91 69 12 = g22 69 12).trans ((by rw [e22]; exact x_up2_off (Or.inr (by decide)) : g22 69 12 = g8 69 12).trans ((by rw [e8]; exact x_up2_off (Or.inr (by decide)) : g8 69 12 = gi4 69 12).trans rfl))))) ((by rw [e213]; exact x_up2_off (Or.inr (by decide)) : g213 69 13 = g211 69 13).trans ((by rw [e211]; exact x_up2_off (Or.inr (by decide)) : g211 69 13 = g91 69 13).trans ((by rw [e91]; exact x_up2_off (Or.inr (by decide)) : g91 69 13 = g22 69 13).trans ((by rw [e22]; exact x_up2_off (Or.inr (by decide)) : g22 69 13 = g8 69 13).trans (by rw [e8]; exact x_up2_at _ _ _ _ : g8 69 13 = (gi4 69 14)))))) (by have ff296 : (g213 69 14).toInt = z212.toInt := congrArg Int32.toInt (by rw [e213]; exact x_up2_at _ _ _ _ : g213 69 14 = z212); omega) (by have ff297 : (g213 69 15).toInt = z210.toInt := congrArg Int32.toInt ((by rw [e213]; exact x_up2_off (Or.inr (by decide)) : g213 69 15 = g211 69 15).trans (by rw [e211]; exact x_up2_at _ _ _ _ : g211 69 15 = z210)); omega) (by have ff298 : (g213 69 15).toInt = z210.toInt := congrArg Int32.toInt ((by rw [e213]; exact x_up2_off (Or.inr (by decide)) : g213 69 15 = g211 69 15).trans (by rw [e211]; exact x_up2_at _ _ _ _ : g211 69 15 = z210)); omega) rfl
      · have l299 : 97 ≤ z21.toInt := t_lel (t_nlt h23) (by decide : (97:Int) ≤ (97:Int32).toInt)
        refine ev_loc f_X12_isSmall (nx := 7) rfl rfl rfl rfl ?_
        refine ev_bp f_X12_isSmall (nx := 9) (v := 122) rfl (by decide) rfl ?_
        refine ev_if f_X12_isSmall (t1 := 16) (t2 := 12) rfl rfl rfl (fun h300 => ?_) (fun h300 => ?_)
        · have l301 : 123 ≤ z21.toInt := t_ltl h300 (by decide : (122:Int) ≤ (122:Int32).toInt) rfl
          refine ev_ic f_X12_isSmall (nx := 17) (v := 0) rfl (by decide) rfl ?_
          refine ev_retK1 f_X12_isSmall rfl rfl rfl ?_
          refine ev_t f_X12_ahead (t1 := 116) (t2 := 81) rfl rfl rfl (by decide) ?_
          refine ev_loc f_X12_ahead (nx := 117) rfl rfl rfl rfl ?_
          refine ev_inS1 f_X12_ahead (nx := 120) (lo2 := [(0, .int z21)]) rfl rfl rfl rfl f_X12_isDigit rfl rfl rfl rfl ?_
          refine ev_loc f_X12_isDigit (nx := 1) rfl rfl rfl rfl ?_
          refine ev_bp f_X12_isDigit (nx := 3) (v := 48) rfl (by decide) rfl ?_
          refine ev_f f_X12_isDigit (t1 := 16) (t2 := 6) rfl rfl rfl (t_ltF (by decide : (48:Int32).toInt ≤ (48:Int)) l301 (by decide)) ?_
          refine ev_loc f_X12_isDigit (nx := 7) rfl rfl rfl rfl ?_
          refine ev_bp f_X12_isDigit (nx := 9) (v := 57) rfl (by decide) rfl ?_
          refine ev_t f_X12_isDigit (t1 := 16) (t2 := 12) rfl rfl rfl (t_ltT (by decide : (57:Int32).toInt ≤ (57:Int)) l301 (by decide)) ?_
          refine ev_ic f_X12_isDigit (nx := 17) (v := 0) rfl (by decide) rfl ?_
          refine ev_retK1 f_X12_isDigit rfl rfl rfl ?_
          refine ev_t f_X12_ahead (t1 := 208) (t2 := 123) rfl rfl rfl (by decide) ?_
          refine ev_loc f_X12_ahead (nx := 209) rfl rfl rfl rfl ?_
          refine ev_alu f_X12_ahead (nx := 210) rfl rfl rfl rfl ?_
          refine ev_gvI f_X12_ahead (nx := 213) (w := (gi4 69 14)) rfl (hI.wf.s rfl) rfl rfl ((by rw [e22]; exact x_up2_off (Or.inr (by decide)) : g22 69 14 = g8 69 14).trans ((by rw [e8]; exact x_up2_off (Or.inr (by decide)) : g8 69 14 = gi4 69 14).trans rfl)) rfl ?_
          refine ev_ic f_X12_ahead (nx := 214) (v := 1) rfl (by decide) rfl ?_
          refine ev_addC f_X12_ahead (nx := 215) (c := 1) (l := 1) (u := 900) rfl (by decide) l6 u18 rfl rfl (by decide) (by decide) rfl (fun z302 e302 l302 u302 => ?_)
          refine ev_putIT f_X12_ahead (nx := 218) rfl (hI.wf.s rfl) rfl rfl rfl (hI.putB (hI.wf.s rfl) rfl rfl l302 (by decide) u302 (by decide)) (hX.upI rfl) (fun g303 e303 hI hX => ?_)
          refine ev_loc f_X12_ahead (nx := 219) rfl rfl rfl rfl ?_
          refine ev_loc f_X12_ahead (nx := 220) rfl rfl rfl rfl ?_
          refine ev_bp f_X12_ahead (nx := 222) (v := 59) rfl (by decide) rfl ?_
          refine ev_f f_X12_ahead (t1 := 255) (t2 := 225) rfl rfl rfl (t_neT' (by decide : (59:Int32).toInt ≤ (59:Int)) l301 (by decide)) ?_
          refine ev_loc f_X12_ahead (nx := 226) rfl rfl rfl rfl ?_
          refine ev_bp f_X12_ahead (nx := 228) (v := 60) rfl (by decide) rfl ?_
          refine ev_f f_X12_ahead (t1 := 255) (t2 := 231) rfl rfl rfl (t_neT' (by decide : (60:Int32).toInt ≤ (60:Int)) l301 (by decide)) ?_
          refine ev_loc f_X12_ahead (nx := 232) rfl rfl rfl rfl ?_
          refine ev_bp f_X12_ahead (nx := 234) (v := 62) rfl (by decide) rfl ?_
          refine ev_f f_X12_ahead (t1 := 255) (t2 := 237) rfl rfl rfl (t_neT' (by decide : (62:Int32).toInt ≤ (62:Int)) l301 (by decide)) ?_
          refine ev_loc f_X12_ahead (nx := 238) rfl rfl rfl rfl ?_
          refine ev_bp f_X12_ahead (nx := 240) (v := 61) rfl (by decide) rfl ?_
          refine ev_f f_X12_ahead (t1 := 255) (t2 := 243) rfl rfl rfl (t_neT' (by decide : (61:Int32).toInt ≤ (61:Int)) l301 (by decide)) ?_
          refine ev_loc f_X12_ahead (nx := 244) rfl rfl rfl rfl ?_
          refine ev_bp f_X12_ahead (nx := 246) (v := 40) rfl (by decide) rfl ?_
          refine ev_f f_X12_ahead (t1 := 255) (t2 := 249) rfl rfl rfl (t_neT' (by decide : (40:Int32).toInt ≤ (40:Int)) l301 (by decide)) ?_
          refine ev_loc f_X12_ahead (nx := 250) rfl rfl rfl rfl ?_
          refine ev_bp f_X12_ahead (nx := 252) (v := 41) rfl (by decide) rfl ?_
          refine ev_f f_X12_ahead (t1 := 255) (t2 := 259) rfl rfl rfl (t_neT' (by decide : (41:Int32).toInt ≤ (41:Int)) l301 (by decide)) ?_
          refine ev_ic f_X12_ahead (nx := 260) (v := 1) rfl (by decide) rfl ?_
          refine ev_putIT f_X12_ahead (nx := 263) rfl (hI.wf.s rfl) rfl rfl rfl (hI.putB (hI.wf.s rfl) rfl rfl (by decide : (1:Int) ≤ (1:Int32).toInt) (by decide) (by decide : (1:Int32).toInt ≤ (1:Int)) (by decide)) (hX.upI rfl) (fun g304 e304 hI hX => ?_)
          exact ev_ret f_X12_ahead rfl rfl rfl ⟨_, _, _, rfl, hI, hX, ⟨rfl, (show (gi 69 14).toInt ≤ (g304 69 14).toInt ∧ ((g304 69 12).toInt ≠ 0 → (gi 69 14).toInt < (g304 69 14).toInt) ∧ ((g304 69 12).toInt = 3 → 0 ≤ (g304 69 15).toInt) from (by have ff305 : (g304 69 14).toInt = z302.toInt := congrArg Int32.toInt ((by rw [e304]; exact x_up2_off (Or.inr (by decide)) : g304 69 14 = g303 69 14).trans (by rw [e303]; exact x_up2_at _ _ _ _ : g303 69 14 = z302)); have ff306 : (g304 69 12).toInt = 1 := (congrArg Int32.toInt (by rw [e304]; exact x_up2_at _ _ _ _ : g304 69 12 = 1)).trans (by decide); have ff307 : (g304 69 15).toInt = z21.toInt := congrArg Int32.toInt ((by rw [e304]; exact x_up2_off (Or.inr (by decide)) : g304 69 15 = g303 69 15).trans ((by rw [e303]; exact x_up2_off (Or.inr (by decide)) : g303 69 15 = g22 69 15).trans (by rw [e22]; exact x_up2_at _ _ _ _ : g22 69 15 = z21))); omega))⟩⟩
        · have u308 : z21.toInt ≤ 122 := t_leu (t_nlt h300) (by decide : (122:Int32).toInt ≤ (122:Int))
          refine ev_ic f_X12_isSmall (nx := 13) (v := 1) rfl (by decide) rfl ?_
          refine ev_jmp f_X12_isSmall (nx := 17) rfl rfl rfl ?_
          refine ev_retK1 f_X12_isSmall rfl rfl rfl ?_
          refine ev_f f_X12_ahead (t1 := 116) (t2 := 81) rfl rfl rfl (by decide) ?_
          refine ev_loc f_X12_ahead (nx := 82) rfl rfl rfl rfl ?_
          refine ev_loc f_X12_ahead (nx := 83) rfl rfl rfl rfl ?_
          refine ev_gvI f_X12_ahead (nx := 86) (w := (gi4 69 14)) rfl (hI.wf.s rfl) rfl rfl ((by rw [e22]; exact x_up2_off (Or.inr (by decide)) : g22 69 14 = g8 69 14).trans ((by rw [e8]; exact x_up2_off (Or.inr (by decide)) : g8 69 14 = gi4 69 14).trans rfl)) rfl ?_
          refine ev_inV2 f_X12_ahead (nx := 89) (lo2 := [(0, .ref 69), (1, .int (gi4 69 14))]) rfl rfl rfl rfl f_X12_byteAt (hI.wf.s rfl) rfl rfl rfl rfl rfl ?_
          refine ev_loc f_X12_byteAt (nx := 1) rfl rfl rfl rfl ?_
          refine ev_loc f_X12_byteAt (nx := 2) rfl rfl rfl rfl ?_
          refine ev_gvI f_X12_byteAt (nx := 5) (w := (g8 69 11)) rfl (hI.wf.s rfl) rfl rfl ((by rw [e22]; exact x_up2_off (Or.inr (by decide)) : g22 69 11 = g8 69 11).trans rfl) rfl ?_
          refine ev_if f_X12_byteAt (t1 := 21) (t2 := 8) rfl rfl rfl (fun h309 => ?_) (fun h309 => ?_)
          · have r310 : (g8 69 11).toInt ≤ (gi4 69 14).toInt := Int32.le_iff_toInt_le.mp h309
            have u311 : (g8 69 11).toInt ≤ 899 := t_leu h309 u18
            have l312 : 1 ≤ (gi4 69 14).toInt := t_lel h309 l19
            refine ev_ic f_X12_byteAt (nx := 22) (v := -1) rfl (by decide) rfl ?_
            refine ev_retK1 f_X12_byteAt rfl rfl rfl ?_
            refine ev_inS1 f_X12_ahead (nx := 92) (lo2 := [(0, .int (-1))]) rfl rfl rfl rfl f_X12_isSmall rfl rfl rfl rfl ?_
            refine ev_loc f_X12_isSmall (nx := 1) rfl rfl rfl rfl ?_
            refine ev_bp f_X12_isSmall (nx := 3) (v := 97) rfl (by decide) rfl ?_
            refine ev_t f_X12_isSmall (t1 := 16) (t2 := 6) rfl rfl rfl (by decide) ?_
            refine ev_ic f_X12_isSmall (nx := 17) (v := 0) rfl (by decide) rfl ?_
            refine ev_retK1 f_X12_isSmall rfl rfl rfl ?_
            refine ev_t f_X12_ahead (t1 := 108) (t2 := 95) rfl rfl rfl (by decide) ?_
            refine ev_loc f_X12_ahead (nx := 109) rfl rfl rfl rfl ?_
            refine ev_ic f_X12_ahead (nx := 110) (v := 2) rfl (by decide) rfl ?_
            refine ev_putIT f_X12_ahead (nx := 113) rfl (hI.wf.s rfl) rfl rfl rfl (hI.putB (hI.wf.s rfl) rfl rfl (by decide : (2:Int) ≤ (2:Int32).toInt) (by decide) (by decide : (2:Int32).toInt ≤ (2:Int)) (by decide)) (hX.upI rfl) (fun g313 e313 hI hX => ?_)
            refine ev_jmp f_X12_ahead (nx := 263) rfl rfl rfl ?_
            exact ev_ret f_X12_ahead rfl rfl rfl ⟨_, _, _, rfl, hI, hX, ⟨rfl, (show (gi 69 14).toInt ≤ (g313 69 14).toInt ∧ ((g313 69 12).toInt ≠ 0 → (gi 69 14).toInt < (g313 69 14).toInt) ∧ ((g313 69 12).toInt = 3 → 0 ≤ (g313 69 15).toInt) from (by have ff314 : (g313 69 14).toInt = (gi4 69 14).toInt := congrArg Int32.toInt ((by rw [e313]; exact x_up2_off (Or.inr (by decide)) : g313 69 14 = g22 69 14).trans ((by rw [e22]; exact x_up2_off (Or.inr (by decide)) : g22 69 14 = g8 69 14).trans ((by rw [e8]; exact x_up2_off (Or.inr (by decide)) : g8 69 14 = gi4 69 14).trans rfl))); have ff315 : (g313 69 12).toInt = 2 := (congrArg Int32.toInt (by rw [e313]; exact x_up2_at _ _ _ _ : g313 69 12 = 2)).trans (by decide); have ff316 : (g313 69 15).toInt = z21.toInt := congrArg Int32.toInt ((by rw [e313]; exact x_up2_off (Or.inr (by decide)) : g313 69 15 = g22 69 15).trans (by rw [e22]; exact x_up2_at _ _ _ _ : g22 69 15 = z21)); omega))⟩⟩
          · have r317 : (gi4 69 14).toInt < (g8 69 11).toInt := Int32.lt_iff_toInt_lt.mp (t_nle h309)
            refine ev_loc f_X12_byteAt (nx := 9) rfl rfl rfl rfl ?_
            refine ev_getR f_X12_byteAt (nx := 12) rfl (hI.wf.s rfl) rfl rfl (hI.wf.r rfl) rfl rfl ?_
            refine ev_loc f_X12_byteAt (nx := 13) rfl rfl rfl rfl ?_
            refine ev_baldT f_X12_byteAt (nx := 14) rfl (hI.wf.s rfl) rfl l6 (by decide) u18 (by decide) rfl (fun w318 e318 => ?_)
            rw [e318.trans ((by rw [e22]; exact x_up2_off (Or.inl (by decide)) : g22 76 (gi4 69 14).toNatClampNeg = g8 76 (gi4 69 14).toNatClampNeg).trans e20.symm)]
            refine ev_sp f_X12_byteAt (nx := 17) (v := 255) rfl (by decide) rfl ?_
            refine ev_andE f_X12_byteAt (nx := 18) (c := 255) rfl (by decide) (by decide) rfl (fun z319 e319 l319 u319 => ?_)
            rw [e319.trans e21.symm]
            refine ev_jmp f_X12_byteAt (nx := 22) rfl rfl rfl ?_
            refine ev_retK1 f_X12_byteAt rfl rfl rfl ?_
            refine ev_inS1 f_X12_ahead (nx := 92) (lo2 := [(0, .int z21)]) rfl rfl rfl rfl f_X12_isSmall rfl rfl rfl rfl ?_
            refine ev_loc f_X12_isSmall (nx := 1) rfl rfl rfl rfl ?_
            refine ev_bp f_X12_isSmall (nx := 3) (v := 97) rfl (by decide) rfl ?_
            refine ev_f f_X12_isSmall (t1 := 16) (t2 := 6) rfl rfl rfl (t_ltF (by decide : (97:Int32).toInt ≤ (97:Int)) l299 (by decide)) ?_
            refine ev_loc f_X12_isSmall (nx := 7) rfl rfl rfl rfl ?_
            refine ev_bp f_X12_isSmall (nx := 9) (v := 122) rfl (by decide) rfl ?_
            refine ev_f f_X12_isSmall (t1 := 16) (t2 := 12) rfl rfl rfl (t_ltF u308 (by decide : (122:Int) ≤ (122:Int32).toInt) (by decide)) ?_
            refine ev_ic f_X12_isSmall (nx := 13) (v := 1) rfl (by decide) rfl ?_
            refine ev_jmp f_X12_isSmall (nx := 17) rfl rfl rfl ?_
            refine ev_retK1 f_X12_isSmall rfl rfl rfl ?_
            refine ev_f f_X12_ahead (t1 := 108) (t2 := 95) rfl rfl rfl (by decide) ?_
            refine ev_loc f_X12_ahead (nx := 96) rfl rfl rfl rfl ?_
            refine ev_alu f_X12_ahead (nx := 97) rfl rfl rfl rfl ?_
            refine ev_gvI f_X12_ahead (nx := 100) (w := (gi4 69 14)) rfl (hI.wf.s rfl) rfl rfl ((by rw [e22]; exact x_up2_off (Or.inr (by decide)) : g22 69 14 = g8 69 14).trans ((by rw [e8]; exact x_up2_off (Or.inr (by decide)) : g8 69 14 = gi4 69 14).trans rfl)) rfl ?_
            refine ev_ic f_X12_ahead (nx := 101) (v := 1) rfl (by decide) rfl ?_
            refine ev_addC f_X12_ahead (nx := 102) (c := 1) (l := 1) (u := 900) rfl (by decide) l6 u18 rfl rfl (by decide) (by decide) rfl (fun z320 e320 l320 u320 => ?_)
            refine ev_putIT f_X12_ahead (nx := 105) rfl (hI.wf.s rfl) rfl rfl rfl (hI.putB (hI.wf.s rfl) rfl rfl l320 (by decide) u320 (by decide)) (hX.upI rfl) (fun g321 e321 hI hX => ?_)
            refine ev_jmp f_X12_ahead (nx := 81) rfl rfl rfl ?_
            have L322 : ∀ (m322 : Nat) (gi322 : Nat → Nat → Int32) (gl322 : Nat → Nat → Int64) (gr322 : Nat → Nat → Value), t_I sh gi322 gr322 → t_X wl_m_ahead2 sh gi gl gr gi322 gl322 gr322 → gi322 69 11 = (g8 69 11) → gi322 69 12 = (gi4 69 12) → gi322 69 13 = (gi4 69 14) → (gi 69 14).toInt < (gi322 69 14).toInt → (900 - (gi322 69 14).toInt).toNat = m322 → x_Ev X (d + 2) n_X12_ahead 81 [(1, .int z21), (0, .ref 69)] [] (sh, gi322, gl322, gr322) (t_PN wl_m_ahead2 sh gi gl gr (Q_m_ahead2 gi gl gr)) := by
              intro m322
              induction m322 using Nat.strongRecOn with
              | _ m322 ih322 =>
              intro gi322 gl322 gr322 hI hX c322_0 c322_1 c322_2 j322_0 hm322
              obtain ⟨l323, u323⟩ := hI.b (hI.wf.s (k := 69) rfl) (t_bdK rfl : t_bd 11 14 = some (0, 900))
              refine ev_loc f_X12_ahead (nx := 82) rfl rfl rfl rfl ?_
              refine ev_loc f_X12_ahead (nx := 83) rfl rfl rfl rfl ?_
              refine ev_gvI f_X12_ahead (nx := 86) (w := (gi322 69 14)) rfl (hI.wf.s rfl) rfl rfl rfl rfl ?_
              refine ev_inV2 f_X12_ahead (nx := 89) (lo2 := [(0, .ref 69), (1, .int (gi322 69 14))]) rfl rfl rfl rfl f_X12_byteAt (hI.wf.s rfl) rfl rfl rfl rfl rfl ?_
              refine ev_loc f_X12_byteAt (nx := 1) rfl rfl rfl rfl ?_
              refine ev_loc f_X12_byteAt (nx := 2) rfl rfl rfl rfl ?_
              refine ev_gvI f_X12_byteAt (nx := 5) (w := (g8 69 11)) rfl (hI.wf.s rfl) rfl rfl c322_0 rfl ?_
              refine ev_if f_X12_byteAt (t1 := 21) (t2 := 8) rfl rfl rfl (fun h325 => ?_) (fun h325 => ?_)
              · have r326 : (g8 69 11).toInt ≤ (gi322 69 14).toInt := Int32.le_iff_toInt_le.mp h325
                have l327 : 1 ≤ (gi322 69 14).toInt := t_lel h325 l19
                refine ev_ic f_X12_byteAt (nx := 22) (v := -1) rfl (by decide) rfl ?_
                refine ev_retK1 f_X12_byteAt rfl rfl rfl ?_
                refine ev_inS1 f_X12_ahead (nx := 92) (lo2 := [(0, .int (-1))]) rfl rfl rfl rfl f_X12_isSmall rfl rfl rfl rfl ?_
                refine ev_loc f_X12_isSmall (nx := 1) rfl rfl rfl rfl ?_
                refine ev_bp f_X12_isSmall (nx := 3) (v := 97) rfl (by decide) rfl ?_
                refine ev_t f_X12_isSmall (t1 := 16) (t2 := 6) rfl rfl rfl (by decide) ?_
                refine ev_ic f_X12_isSmall (nx := 17) (v := 0) rfl (by decide) rfl ?_
                refine ev_retK1 f_X12_isSmall rfl rfl rfl ?_
                refine ev_t f_X12_ahead (t1 := 108) (t2 := 95) rfl rfl rfl (by decide) ?_
                refine ev_loc f_X12_ahead (nx := 109) rfl rfl rfl rfl ?_
                refine ev_ic f_X12_ahead (nx := 110) (v := 2) rfl (by decide) rfl ?_
                refine ev_putIT f_X12_ahead (nx := 113) rfl (hI.wf.s rfl) rfl rfl rfl (hI.putB (hI.wf.s rfl) rfl rfl (by decide : (2:Int) ≤ (2:Int32).toInt) (by decide) (by decide : (2:Int32).toInt ≤ (2:Int)) (by decide)) (hX.upI rfl) (fun g328 e328 hI hX => ?_)
                refine ev_jmp f_X12_ahead (nx := 263) rfl rfl rfl ?_
                exact ev_ret f_X12_ahead rfl rfl rfl ⟨_, _, _, rfl, hI, hX, ⟨rfl, (show (gi 69 14).toInt ≤ (g328 69 14).toInt ∧ ((g328 69 12).toInt ≠ 0 → (gi 69 14).toInt < (g328 69 14).toInt) ∧ ((g328 69 12).toInt = 3 → 0 ≤ (g328 69 15).toInt) from (by have ff329 : (g328 69 14).toInt = (gi322 69 14).toInt := congrArg Int32.toInt ((by rw [e328]; exact x_up2_off (Or.inr (by decide)) : g328 69 14 = gi322 69 14).trans rfl); have ff330 : (g328 69 12).toInt = 2 := (congrArg Int32.toInt (by rw [e328]; exact x_up2_at _ _ _ _ : g328 69 12 = 2)).trans (by decide); have ff331 : (g328 69 15).toInt = (gi322 69 15).toInt := congrArg Int32.toInt ((by rw [e328]; exact x_up2_off (Or.inr (by decide)) : g328 69 15 = gi322 69 15).trans rfl); omega))⟩⟩
              · have r332 : (gi322 69 14).toInt < (g8 69 11).toInt := Int32.lt_iff_toInt_lt.mp (t_nle h325)
                have u333 : (gi322 69 14).toInt ≤ 899 := t_ltu (t_nle h325) u9 rfl
                refine ev_loc f_X12_byteAt (nx := 9) rfl rfl rfl rfl ?_
                refine ev_getR f_X12_byteAt (nx := 12) rfl (hI.wf.s rfl) rfl rfl (hI.wf.r rfl) rfl rfl ?_
                refine ev_loc f_X12_byteAt (nx := 13) rfl rfl rfl rfl ?_
                refine ev_baldT f_X12_byteAt (nx := 14) rfl (hI.wf.s rfl) rfl l323 (by decide) u333 (by decide) rfl (fun w334 e334 => ?_)
                refine ev_sp f_X12_byteAt (nx := 17) (v := 255) rfl (by decide) rfl ?_
                refine ev_andE f_X12_byteAt (nx := 18) (c := 255) rfl (by decide) (by decide) rfl (fun z335 e335 l335 u335 => ?_)
                refine ev_jmp f_X12_byteAt (nx := 22) rfl rfl rfl ?_
                refine ev_retK1 f_X12_byteAt rfl rfl rfl ?_
                refine ev_inS1 f_X12_ahead (nx := 92) (lo2 := [(0, .int z335)]) rfl rfl rfl rfl f_X12_isSmall rfl rfl rfl rfl ?_
                refine ev_loc f_X12_isSmall (nx := 1) rfl rfl rfl rfl ?_
                refine ev_bp f_X12_isSmall (nx := 3) (v := 97) rfl (by decide) rfl ?_
                refine ev_if f_X12_isSmall (t1 := 16) (t2 := 6) rfl rfl rfl (fun h336 => ?_) (fun h336 => ?_)
                · have u337 : z335.toInt ≤ 96 := t_ltu h336 (by decide : (97:Int32).toInt ≤ (97:Int)) rfl
                  refine ev_ic f_X12_isSmall (nx := 17) (v := 0) rfl (by decide) rfl ?_
                  refine ev_retK1 f_X12_isSmall rfl rfl rfl ?_
                  refine ev_t f_X12_ahead (t1 := 108) (t2 := 95) rfl rfl rfl (by decide) ?_
                  refine ev_loc f_X12_ahead (nx := 109) rfl rfl rfl rfl ?_
                  refine ev_ic f_X12_ahead (nx := 110) (v := 2) rfl (by decide) rfl ?_
                  refine ev_putIT f_X12_ahead (nx := 113) rfl (hI.wf.s rfl) rfl rfl rfl (hI.putB (hI.wf.s rfl) rfl rfl (by decide : (2:Int) ≤ (2:Int32).toInt) (by decide) (by decide : (2:Int32).toInt ≤ (2:Int)) (by decide)) (hX.upI rfl) (fun g338 e338 hI hX => ?_)
                  refine ev_jmp f_X12_ahead (nx := 263) rfl rfl rfl ?_
                  exact ev_ret f_X12_ahead rfl rfl rfl ⟨_, _, _, rfl, hI, hX, ⟨rfl, (show (gi 69 14).toInt ≤ (g338 69 14).toInt ∧ ((g338 69 12).toInt ≠ 0 → (gi 69 14).toInt < (g338 69 14).toInt) ∧ ((g338 69 12).toInt = 3 → 0 ≤ (g338 69 15).toInt) from (by have ff339 : (g338 69 14).toInt = (gi322 69 14).toInt := congrArg Int32.toInt ((by rw [e338]; exact x_up2_off (Or.inr (by decide)) : g338 69 14 = gi322 69 14).trans rfl); have ff340 : (g338 69 12).toInt = 2 := (congrArg Int32.toInt (by rw [e338]; exact x_up2_at _ _ _ _ : g338 69 12 = 2)).trans (by decide); have ff341 : (g338 69 15).toInt = (gi322 69 15).toInt := congrArg Int32.toInt ((by rw [e338]; exact x_up2_off (Or.inr (by decide)) : g338 69 15 = gi322 69 15).trans rfl); omega))⟩⟩
                · have l342 : 97 ≤ z335.toInt := t_lel (t_nlt h336) (by decide : (97:Int) ≤ (97:Int32).toInt)
                  refine ev_loc f_X12_isSmall (nx := 7) rfl rfl rfl rfl ?_
                  refine ev_bp f_X12_isSmall (nx := 9) (v := 122) rfl (by decide) rfl ?_
                  refine ev_if f_X12_isSmall (t1 := 16) (t2 := 12) rfl rfl rfl (fun h343 => ?_) (fun h343 => ?_)
                  · have l344 : 123 ≤ z335.toInt := t_ltl h343 (by decide : (122:Int) ≤ (122:Int32).toInt) rfl
                    refine ev_ic f_X12_isSmall (nx := 17) (v := 0) rfl (by decide) rfl ?_
                    refine ev_retK1 f_X12_isSmall rfl rfl rfl ?_
                    refine ev_t f_X12_ahead (t1 := 108) (t2 := 95) rfl rfl rfl (by decide) ?_
                    refine ev_loc f_X12_ahead (nx := 109) rfl rfl rfl rfl ?_
                    refine ev_ic f_X12_ahead (nx := 110) (v := 2) rfl (by decide) rfl ?_
                    refine ev_putIT f_X12_ahead (nx := 113) rfl (hI.wf.s rfl) rfl rfl rfl (hI.putB (hI.wf.s rfl) rfl rfl (by decide : (2:Int) ≤ (2:Int32).toInt) (by decide) (by decide : (2:Int32).toInt ≤ (2:Int)) (by decide)) (hX.upI rfl) (fun g345 e345 hI hX => ?_)
                    refine ev_jmp f_X12_ahead (nx := 263) rfl rfl rfl ?_
                    exact ev_ret f_X12_ahead rfl rfl rfl ⟨_, _, _, rfl, hI, hX, ⟨rfl, (show (gi 69 14).toInt ≤ (g345 69 14).toInt ∧ ((g345 69 12).toInt ≠ 0 → (gi 69 14).toInt < (g345 69 14).toInt) ∧ ((g345 69 12).toInt = 3 → 0 ≤ (g345 69 15).toInt) from (by have ff346 : (g345 69 14).toInt = (gi322 69 14).toInt := congrArg Int32.toInt ((by rw [e345]; exact x_up2_off (Or.inr (by decide)) : g345 69 14 = gi322 69 14).trans rfl); have ff347 : (g345 69 12).toInt = 2 := (congrArg Int32.toInt (by rw [e345]; exact x_up2_at _ _ _ _ : g345 69 12 = 2)).trans (by decide); have ff348 : (g345 69 15).toInt = (gi322 69 15).toInt := congrArg Int32.toInt ((by rw [e345]; exact x_up2_off (Or.inr (by decide)) : g345 69 15 = gi322 69 15).trans rfl); omega))⟩⟩
                  · have u349 : z335.toInt ≤ 122 := t_leu (t_nlt h343) (by decide : (122:Int32).toInt ≤ (122:Int))
                    refine ev_ic f_X12_isSmall (nx := 13) (v := 1) rfl (by decide) rfl ?_
                    refine ev_jmp f_X12_isSmall (nx := 17) rfl rfl rfl ?_
                    refine ev_retK1 f_X12_isSmall rfl rfl rfl ?_
                    refine ev_f f_X12_ahead (t1 := 108) (t2 := 95) rfl rfl rfl (by decide) ?_
                    refine ev_loc f_X12_ahead (nx := 96) rfl rfl rfl rfl ?_
                    refine ev_alu f_X12_ahead (nx := 97) rfl rfl rfl rfl ?_
                    refine ev_gvI f_X12_ahead (nx := 100) (w := (gi322 69 14)) rfl (hI.wf.s rfl) rfl rfl rfl rfl ?_
                    refine ev_ic f_X12_ahead (nx := 101) (v := 1) rfl (by decide) rfl ?_
                    refine ev_addC f_X12_ahead (nx := 102) (c := 1) (l := 1) (u := 900) rfl (by decide) l323 u333 rfl rfl (by decide) (by decide) rfl (fun z350 e350 l350 u350 => ?_)
                    refine ev_putIT f_X12_ahead (nx := 105) rfl (hI.wf.s rfl) rfl rfl rfl (hI.putB (hI.wf.s rfl) rfl rfl l350 (by decide) u350 (by decide)) (hX.upI rfl) (fun g351 e351 hI hX => ?_)
                    refine ev_jmp f_X12_ahead (nx := 81) rfl rfl rfl ?_
                    refine ev_sub (lo := [(1, .int z21), (0, .ref 69)]) rfl (t_sc rfl (t_sc rfl t_sn)) ?_
                    exact ih322 _ (by have ff353 : (g351 69 14).toInt = z350.toInt := congrArg Int32.toInt (by rw [e351]; exact x_up2_at _ _ _ _ : g351 69 14 = z350); omega) g351 gl322 gr322  hI hX  ((by rw [e351]; exact x_up2_off (Or.inr (by decide)) : g351 69 11 = gi322 69 11).trans c322_0) ((by rw [e351]; exact x_up2_off (Or.inr (by decide)) : g351 69 12 = gi322 69 12).trans c322_1) ((by rw [e351]; exact x_up2_off (Or.inr (by decide)) : g351 69 13 = gi322 69 13).trans c322_2) (by have ff352 : (g351 69 14).toInt = z350.toInt := congrArg Int32.toInt (by rw [e351]; exact x_up2_at _ _ _ _ : g351 69 14 = z350); omega) rfl
            refine ev_sub (lo := [(1, .int z21), (0, .ref 69)]) rfl (t_sc rfl (t_sc rfl t_sn)) ?_
            exact L322 _ g321 gl4 gr4  hI hX  ((by rw [e321]; exact x_up2_off (Or.inr (by decide)) : g321 69 11 = g22 69 11).trans ((by rw [e22]; exact x_up2_off (Or.inr (by decide)) : g22 69 11 = g8 69 11).trans rfl)) ((by rw [e321]; exact x_up2_off (Or.inr (by decide)) : g321 69 12 = g22 69 12).trans ((by rw [e22]; exact x_up2_off (Or.inr (by decide)) : g22 69 12 = g8 69 12).trans ((by rw [e8]; exact x_up2_off (Or.inr (by decide)) : g8 69 12 = gi4 69 12).trans rfl))) ((by rw [e321]; exact x_up2_off (Or.inr (by decide)) : g321 69 13 = g22 69 13).trans ((by rw [e22]; exact x_up2_off (Or.inr (by decide)) : g22 69 13 = g8 69 13).trans (by rw [e8]; exact x_up2_at _ _ _ _ : g8 69 13 = (gi4 69 14)))) (by have ff354 : (g321 69 14).toInt = z320.toInt := congrArg Int32.toInt (by rw [e321]; exact x_up2_at _ _ _ _ : g321 69 14 = z320); omega) rfl
  have L355 : ∀ (m355 : Nat) (gi355 : Nat → Nat → Int32) (gl355 : Nat → Nat → Int64) (gr355 : Nat → Nat → Value), t_I sh gi355 gr355 → t_X wl_m_ahead2 sh gi gl gr gi355 gl355 gr355 → gi355 69 12 = (gi 69 12) → gi355 69 15 = (gi 69 15) → (gi 69 14).toInt ≤ (gi355 69 14).toInt → (900 - (gi355 69 14).toInt).toNat = m355 → x_Ev X (d + 2) n_X12_ahead 0 [(0, .ref 69)] [] (sh, gi355, gl355, gr355) (t_PN wl_m_ahead2 sh gi gl gr (Q_m_ahead2 gi gl gr)) := by
    intro m355
    induction m355 using Nat.strongRecOn with
    | _ m355 ih355 =>
    intro gi355 gl355 gr355 hI hX c355_0 c355_1 j355_0 hm355
    obtain ⟨l356, u356⟩ := hI.b (hI.wf.s (k := 69) rfl) (t_bdK rfl : t_bd 11 14 = some (0, 900))
    refine ev_loc f_X12_ahead (nx := 1) rfl rfl rfl rfl ?_
    refine ev_loc f_X12_ahead (nx := 2) rfl rfl rfl rfl ?_
    refine ev_gvI f_X12_ahead (nx := 5) (w := (gi355 69 14)) rfl (hI.wf.s rfl) rfl rfl rfl rfl ?_
    refine ev_inV2 f_X12_ahead (nx := 8) (lo2 := [(0, .ref 69), (1, .int (gi355 69 14))]) rfl rfl rfl rfl f_X12_byteAt (hI.wf.s rfl) rfl rfl rfl rfl rfl ?_
    refine ev_loc f_X12_byteAt (nx := 1) rfl rfl rfl rfl ?_
    refine ev_loc f_X12_byteAt (nx := 2) rfl rfl rfl rfl ?_
    refine ev_getI f_X12_byteAt (nx := 5) rfl (hI.wf.s rfl) rfl rfl rfl ?_
    obtain ⟨l357, u357⟩ := hI.b (hI.wf.s (k := 69) rfl) (t_bdK rfl : t_bd 11 11 = some (0, 900))
    refine ev_if f_X12_byteAt (t1 := 21) (t2 := 8) rfl rfl rfl (fun h358 => ?_) (fun h358 => ?_)
    · have r359 : (gi355 69 11).toInt ≤ (gi355 69 14).toInt := Int32.le_iff_toInt_le.mp h358
      refine ev_ic f_X12_byteAt (nx := 22) (v := -1) rfl (by decide) rfl ?_
      refine ev_retK1 f_X12_byteAt rfl rfl rfl ?_
      refine ev_bp f_X12_ahead (nx := 10) (v := 32) rfl (by decide) rfl ?_
      refine ev_f f_X12_ahead (t1 := 26) (t2 := 13) rfl rfl rfl (by decide) ?_
      refine ev_loc f_X12_ahead (nx := 14) rfl rfl rfl rfl ?_
      refine ev_loc f_X12_ahead (nx := 15) rfl rfl rfl rfl ?_
      refine ev_gvI f_X12_ahead (nx := 18) (w := (gi355 69 14)) rfl (hI.wf.s rfl) rfl rfl rfl rfl ?_
      refine ev_inV2 f_X12_ahead (nx := 21) (lo2 := [(0, .ref 69), (1, .int (gi355 69 14))]) rfl rfl rfl rfl f_X12_byteAt (hI.wf.s rfl) rfl rfl rfl rfl rfl ?_
      refine ev_loc f_X12_byteAt (nx := 1) rfl rfl rfl rfl ?_
      refine ev_loc f_X12_byteAt (nx := 2) rfl rfl rfl rfl ?_
      refine ev_gvI f_X12_byteAt (nx := 5) (w := (gi355 69 11)) rfl (hI.wf.s rfl) rfl rfl rfl rfl ?_
      refine ev_if f_X12_byteAt (t1 := 21) (t2 := 8) rfl rfl rfl (fun h360 => ?_) (fun h360 => ?_)
      · have r361 : (gi355 69 11).toInt ≤ (gi355 69 14).toInt := Int32.le_iff_toInt_le.mp h360
        refine ev_ic f_X12_byteAt (nx := 22) (v := -1) rfl (by decide) rfl ?_
        refine ev_retK1 f_X12_byteAt rfl rfl rfl ?_
        refine ev_bp f_X12_ahead (nx := 23) (v := 10) rfl (by decide) rfl ?_
        refine ev_f f_X12_ahead (t1 := 26) (t2 := 39) rfl rfl rfl (by decide) ?_
        refine ev_sub (lo := [(0, .ref 69)]) rfl (t_sc rfl t_sn) ?_
        exact L4 gi355 gl355 gr355  hI hX  (by omega)
      · have r362 : (gi355 69 14).toInt < (gi355 69 11).toInt := Int32.lt_iff_toInt_lt.mp (t_nle h360)
        have u363 : (gi355 69 14).toInt ≤ 899 := t_ltu (t_nle h360) u357 rfl
        have l364 : 1 ≤ (gi355 69 11).toInt := t_ltl (t_nle h360) l356 rfl
        refine ev_loc f_X12_byteAt (nx := 9) rfl rfl rfl rfl ?_
        refine ev_getR f_X12_byteAt (nx := 12) rfl (hI.wf.s rfl) rfl rfl (hI.wf.r rfl) rfl rfl ?_
        refine ev_loc f_X12_byteAt (nx := 13) rfl rfl rfl rfl ?_
        refine ev_baldT f_X12_byteAt (nx := 14) rfl (hI.wf.s rfl) rfl l356 (by decide) u363 (by decide) rfl (fun w365 e365 => ?_)
        refine ev_sp f_X12_byteAt (nx := 17) (v := 255) rfl (by decide) rfl ?_
        refine ev_andE f_X12_byteAt (nx := 18) (c := 255) rfl (by decide) (by decide) rfl (fun z366 e366 l366 u366 => ?_)
        refine ev_jmp f_X12_byteAt (nx := 22) rfl rfl rfl ?_
        refine ev_retK1 f_X12_byteAt rfl rfl rfl ?_
        refine ev_bp f_X12_ahead (nx := 23) (v := 10) rfl (by decide) rfl ?_
        refine ev_if f_X12_ahead (t1 := 26) (t2 := 39) rfl rfl rfl (fun h367 => ?_) (fun h367 => ?_)
        · have u368 : z366.toInt ≤ 10 := t_equ h367 (by decide : (10:Int32).toInt ≤ (10:Int))
          have l369 : 10 ≤ z366.toInt := t_eql h367 (by decide : (10:Int) ≤ (10:Int32).toInt)
          refine ev_loc f_X12_ahead (nx := 27) rfl rfl rfl rfl ?_
          refine ev_alu f_X12_ahead (nx := 28) rfl rfl rfl rfl ?_
          refine ev_gvI f_X12_ahead (nx := 31) (w := (gi355 69 14)) rfl (hI.wf.s rfl) rfl rfl rfl rfl ?_
          refine ev_ic f_X12_ahead (nx := 32) (v := 1) rfl (by decide) rfl ?_
          refine ev_addC f_X12_ahead (nx := 33) (c := 1) (l := 1) (u := 900) rfl (by decide) l356 u363 rfl rfl (by decide) (by decide) rfl (fun z370 e370 l370 u370 => ?_)
          refine ev_putIT f_X12_ahead (nx := 36) rfl (hI.wf.s rfl) rfl rfl rfl (hI.putB (hI.wf.s rfl) rfl rfl l370 (by decide) u370 (by decide)) (hX.upI rfl) (fun g371 e371 hI hX => ?_)
          refine ev_jmp f_X12_ahead (nx := 0) rfl rfl rfl ?_
          refine ev_sub (lo := [(0, .ref 69)]) rfl (t_sc rfl t_sn) ?_
          exact ih355 _ (by have ff373 : (g371 69 14).toInt = z370.toInt := congrArg Int32.toInt (by rw [e371]; exact x_up2_at _ _ _ _ : g371 69 14 = z370); omega) g371 gl355 gr355  hI hX  ((by rw [e371]; exact x_up2_off (Or.inr (by decide)) : g371 69 12 = gi355 69 12).trans c355_0) ((by rw [e371]; exact x_up2_off (Or.inr (by decide)) : g371 69 15 = gi355 69 15).trans c355_1) (by have ff372 : (g371 69 14).toInt = z370.toInt := congrArg Int32.toInt (by rw [e371]; exact x_up2_at _ _ _ _ : g371 69 14 = z370); omega) rfl
        · have r374 : z366.toInt ≠ 10 := fun e => h367 (Int32.toInt_inj.mp (e.trans (by decide : (10:Int) = (10 : Int32).toInt)))
          refine ev_sub (lo := [(0, .ref 69)]) rfl (t_sc rfl t_sn) ?_
          exact L4 gi355 gl355 gr355  hI hX  (by omega)
    · have r375 : (gi355 69 14).toInt < (gi355 69 11).toInt := Int32.lt_iff_toInt_lt.mp (t_nle h358)
      have u376 : (gi355 69 14).toInt ≤ 899 := t_ltu (t_nle h358) u357 rfl
      have l377 : 1 ≤ (gi355 69 11).toInt := t_ltl (t_nle h358) l356 rfl
      refine ev_loc f_X12_byteAt (nx := 9) rfl rfl rfl rfl ?_
      refine ev_getR f_X12_byteAt (nx := 12) rfl (hI.wf.s rfl) rfl rfl (hI.wf.r rfl) rfl rfl ?_
      refine ev_loc f_X12_byteAt (nx := 13) rfl rfl rfl rfl ?_
      refine ev_baldT f_X12_byteAt (nx := 14) rfl (hI.wf.s rfl) rfl l356 (by decide) u376 (by decide) rfl (fun w378 e378 => ?_)
      refine ev_sp f_X12_byteAt (nx := 17) (v := 255) rfl (by decide) rfl ?_
      refine ev_andE f_X12_byteAt (nx := 18) (c := 255) rfl (by decide) (by decide) rfl (fun z379 e379 l379 u379 => ?_)
      refine ev_jmp f_X12_byteAt (nx := 22) rfl rfl rfl ?_
      refine ev_retK1 f_X12_byteAt rfl rfl rfl ?_
      refine ev_bp f_X12_ahead (nx := 10) (v := 32) rfl (by decide) rfl ?_
      refine ev_if f_X12_ahead (t1 := 26) (t2 := 13) rfl rfl rfl (fun h380 => ?_) (fun h380 => ?_)
      · have u381 : z379.toInt ≤ 32 := t_equ h380 (by decide : (32:Int32).toInt ≤ (32:Int))
        have l382 : 32 ≤ z379.toInt := t_eql h380 (by decide : (32:Int) ≤ (32:Int32).toInt)
        refine ev_loc f_X12_ahead (nx := 27) rfl rfl rfl rfl ?_
        refine ev_alu f_X12_ahead (nx := 28) rfl rfl rfl rfl ?_
        refine ev_gvI f_X12_ahead (nx := 31) (w := (gi355 69 14)) rfl (hI.wf.s rfl) rfl rfl rfl rfl ?_
        refine ev_ic f_X12_ahead (nx := 32) (v := 1) rfl (by decide) rfl ?_
        refine ev_addC f_X12_ahead (nx := 33) (c := 1) (l := 1) (u := 900) rfl (by decide) l356 u376 rfl rfl (by decide) (by decide) rfl (fun z383 e383 l383 u383 => ?_)
        refine ev_putIT f_X12_ahead (nx := 36) rfl (hI.wf.s rfl) rfl rfl rfl (hI.putB (hI.wf.s rfl) rfl rfl l383 (by decide) u383 (by decide)) (hX.upI rfl) (fun g384 e384 hI hX => ?_)
        refine ev_jmp f_X12_ahead (nx := 0) rfl rfl rfl ?_
        refine ev_sub (lo := [(0, .ref 69)]) rfl (t_sc rfl t_sn) ?_
        exact ih355 _ (by have ff386 : (g384 69 14).toInt = z383.toInt := congrArg Int32.toInt (by rw [e384]; exact x_up2_at _ _ _ _ : g384 69 14 = z383); omega) g384 gl355 gr355  hI hX  ((by rw [e384]; exact x_up2_off (Or.inr (by decide)) : g384 69 12 = gi355 69 12).trans c355_0) ((by rw [e384]; exact x_up2_off (Or.inr (by decide)) : g384 69 15 = gi355 69 15).trans c355_1) (by have ff385 : (g384 69 14).toInt = z383.toInt := congrArg Int32.toInt (by rw [e384]; exact x_up2_at _ _ _ _ : g384 69 14 = z383); omega) rfl
      · have r387 : z379.toInt ≠ 32 := fun e => h380 (Int32.toInt_inj.mp (e.trans (by decide : (32:Int) = (32 : Int32).toInt)))
        refine ev_loc f_X12_ahead (nx := 14) rfl rfl rfl rfl ?_
        refine ev_loc f_X12_ahead (nx := 15) rfl rfl rfl rfl ?_
        refine ev_gvI f_X12_ahead (nx := 18) (w := (gi355 69 14)) rfl (hI.wf.s rfl) rfl rfl rfl rfl ?_
        refine ev_inV2 f_X12_ahead (nx := 21) (lo2 := [(0, .ref 69), (1, .int (gi355 69 14))]) rfl rfl rfl rfl f_X12_byteAt (hI.wf.s rfl) rfl rfl rfl rfl rfl ?_
        refine ev_loc f_X12_byteAt (nx := 1) rfl rfl rfl rfl ?_
        refine ev_loc f_X12_byteAt (nx := 2) rfl rfl rfl rfl ?_
        refine ev_gvI f_X12_byteAt (nx := 5) (w := (gi355 69 11)) rfl (hI.wf.s rfl) rfl rfl rfl rfl ?_
        refine ev_if f_X12_byteAt (t1 := 21) (t2 := 8) rfl rfl rfl (fun h388 => ?_) (fun h388 => ?_)
        · have r389 : (gi355 69 11).toInt ≤ (gi355 69 14).toInt := Int32.le_iff_toInt_le.mp h388
          have u390 : (gi355 69 11).toInt ≤ 899 := t_leu h388 u376
          have l391 : 1 ≤ (gi355 69 14).toInt := t_lel h388 l377
          refine ev_ic f_X12_byteAt (nx := 22) (v := -1) rfl (by decide) rfl ?_
          refine ev_retK1 f_X12_byteAt rfl rfl rfl ?_
          refine ev_bp f_X12_ahead (nx := 23) (v := 10) rfl (by decide) rfl ?_
          refine ev_f f_X12_ahead (t1 := 26) (t2 := 39) rfl rfl rfl (by decide) ?_
          refine ev_sub (lo := [(0, .ref 69)]) rfl (t_sc rfl t_sn) ?_
          exact L4 gi355 gl355 gr355  hI hX  (by omega)
        · have r392 : (gi355 69 14).toInt < (gi355 69 11).toInt := Int32.lt_iff_toInt_lt.mp (t_nle h388)
          refine ev_loc f_X12_byteAt (nx := 9) rfl rfl rfl rfl ?_
          refine ev_getR f_X12_byteAt (nx := 12) rfl (hI.wf.s rfl) rfl rfl (hI.wf.r rfl) rfl rfl ?_
          refine ev_loc f_X12_byteAt (nx := 13) rfl rfl rfl rfl ?_
          refine ev_baldT f_X12_byteAt (nx := 14) rfl (hI.wf.s rfl) rfl l356 (by decide) u376 (by decide) rfl (fun w393 e393 => ?_)
          rw [e393.trans e378.symm]
          refine ev_sp f_X12_byteAt (nx := 17) (v := 255) rfl (by decide) rfl ?_
          refine ev_andE f_X12_byteAt (nx := 18) (c := 255) rfl (by decide) (by decide) rfl (fun z394 e394 l394 u394 => ?_)
          rw [e394.trans e379.symm]
          refine ev_jmp f_X12_byteAt (nx := 22) rfl rfl rfl ?_
          refine ev_retK1 f_X12_byteAt rfl rfl rfl ?_
          refine ev_bp f_X12_ahead (nx := 23) (v := 10) rfl (by decide) rfl ?_
          refine ev_if f_X12_ahead (t1 := 26) (t2 := 39) rfl rfl rfl (fun h395 => ?_) (fun h395 => ?_)
          · have u396 : z379.toInt ≤ 10 := t_equ h395 (by decide : (10:Int32).toInt ≤ (10:Int))
            have l397 : 10 ≤ z379.toInt := t_eql h395 (by decide : (10:Int) ≤ (10:Int32).toInt)
            refine ev_loc f_X12_ahead (nx := 27) rfl rfl rfl rfl ?_
            refine ev_alu f_X12_ahead (nx := 28) rfl rfl rfl rfl ?_
            refine ev_gvI f_X12_ahead (nx := 31) (w := (gi355 69 14)) rfl (hI.wf.s rfl) rfl rfl rfl rfl ?_
            refine ev_ic f_X12_ahead (nx := 32) (v := 1) rfl (by decide) rfl ?_
            refine ev_addC f_X12_ahead (nx := 33) (c := 1) (l := 1) (u := 900) rfl (by decide) l356 u376 rfl rfl (by decide) (by decide) rfl (fun z398 e398 l398 u398 => ?_)
            refine ev_putIT f_X12_ahead (nx := 36) rfl (hI.wf.s rfl) rfl rfl rfl (hI.putB (hI.wf.s rfl) rfl rfl l398 (by decide) u398 (by decide)) (hX.upI rfl) (fun g399 e399 hI hX => ?_)
            refine ev_jmp f_X12_ahead (nx := 0) rfl rfl rfl ?_
            refine ev_sub (lo := [(0, .ref 69)]) rfl (t_sc rfl t_sn) ?_
            exact ih355 _ (by have ff401 : (g399 69 14).toInt = z398.toInt := congrArg Int32.toInt (by rw [e399]; exact x_up2_at _ _ _ _ : g399 69 14 = z398); omega) g399 gl355 gr355  hI hX  ((by rw [e399]; exact x_up2_off (Or.inr (by decide)) : g399 69 12 = gi355 69 12).trans c355_0) ((by rw [e399]; exact x_up2_off (Or.inr (by decide)) : g399 69 15 = gi355 69 15).trans c355_1) (by have ff400 : (g399 69 14).toInt = z398.toInt := congrArg Int32.toInt (by rw [e399]; exact x_up2_at _ _ _ _ : g399 69 14 = z398); omega) rfl
          · have r402 : z379.toInt ≠ 10 := fun e => h395 (Int32.toInt_inj.mp (e.trans (by decide : (10:Int) = (10 : Int32).toInt)))
            refine ev_sub (lo := [(0, .ref 69)]) rfl (t_sc rfl t_sn) ?_
            exact L4 gi355 gl355 gr355  hI hX  (by omega)
  refine ev_sub (lo := [(0, .ref 69)]) rfl (t_sc rfl t_sn) ?_
  exact L355 _ gi gl gr  hI hX  rfl rfl (by omega) rfl
noncomputable def wl_m_wantSign2 : List (Nat × Nat) := [(69, 12), (69, 13), (69, 14), (69, 15), (69, 17), (69, 18)]
noncomputable def Q_m_wantSign2 (gi : Nat → Nat → Int32) (gl : Nat → Nat → Int64) (gr : Nat → Nat → Value) (ar1 : Int32) : Int32 → (Nat → Nat → Int32) → (Nat → Nat → Int64) → (Nat → Nat → Value) → Prop := fun (v : Int32) (gi2 : Nat → Nat → Int32) (gl2 : Nat → Nat → Int64) (gr2 : Nat → Nat → Value) => (gi 69 14).toInt ≤ (gi2 69 14).toInt ∧ (v.toInt = 1 → (gi2 69 12).toInt ≠ 0 → (gi 69 14).toInt < (gi2 69 14).toInt) ∧ (v.toInt = 0 → (gi2 69 18).toInt ≠ 0)
theorem c_m_wantSign2 {X : x_Ext} {d : Nat} {sh : List (Nat ⊕ (Nat × Nat))} {gi : Nat → Nat → Int32} {gl : Nat → Nat → Int64} {gr : Nat → Nat → Value} (hI : t_I sh gi gr) (ar1 : Int32) : x_Me X (d + 3) n_X12_wantSign [.ref 69, .int ar1] (sh, gi, gl, gr) (t_PI wl_m_wantSign2 sh gi gl gr 0 1 (Q_m_wantSign2 gi gl gr ar1)) := by
  have hX : t_X wl_m_wantSign2 sh gi gl gr gi gl gr := t_X.rf
  refine me_i f_X12_wantSign (hI.wf.s rfl) rfl rfl rfl ?_
  obtain ⟨l1, u1⟩ := hI.b (hI.wf.s (k := 69) rfl) (t_bdK rfl : t_bd 11 12 = some (0, 4))
  obtain ⟨l2, u2⟩ := hI.b (hI.wf.s (k := 69) rfl) (t_bdK rfl : t_bd 11 14 = some (0, 900))
  refine ev_loc f_X12_wantSign (nx := 1) rfl rfl rfl rfl ?_
  refine ev_loc f_X12_wantSign (nx := 2) rfl rfl rfl rfl ?_
  refine ev_inV2 f_X12_wantSign (nx := 5) (lo2 := [(0, .ref 69), (1, .int ar1)]) rfl rfl rfl rfl f_X12_isSign (hI.wf.s rfl) rfl rfl rfl rfl rfl ?_
  refine ev_loc f_X12_isSign (nx := 1) rfl rfl rfl rfl ?_
  refine ev_gvI f_X12_isSign (nx := 4) (w := (gi 69 12)) rfl (hI.wf.s rfl) rfl rfl rfl rfl ?_
  refine ev_ic f_X12_isSign (nx := 5) (v := 4) rfl (by decide) rfl ?_
  refine ev_if f_X12_isSign (t1 := 8) (t2 := 20) rfl rfl rfl (fun h4 => ?_) (fun h4 => ?_)
  · have l5 : 4 ≤ (gi 69 12).toInt := t_eql h4 (by decide : (4:Int) ≤ (4:Int32).toInt)
    refine ev_loc f_X12_isSign (nx := 9) rfl rfl rfl rfl ?_
    refine ev_getI f_X12_isSign (nx := 12) rfl (hI.wf.s rfl) rfl rfl rfl ?_
    refine ev_loc f_X12_isSign (nx := 13) rfl rfl rfl rfl ?_
    refine ev_if f_X12_isSign (t1 := 16) (t2 := 20) rfl rfl rfl (fun h6 => ?_) (fun h6 => ?_)
    · have r7 : (gi 69 15).toInt = ar1.toInt := t_eqi h6
      refine ev_ic f_X12_isSign (nx := 17) (v := 1) rfl (by decide) rfl ?_
      refine ev_jmp f_X12_isSign (nx := 21) rfl rfl rfl ?_
      refine ev_retK1 f_X12_isSign rfl rfl rfl ?_
      refine ev_f f_X12_wantSign (t1 := 8) (t2 := 14) rfl rfl rfl (by decide) ?_
      refine ev_loc f_X12_wantSign (nx := 15) rfl rfl rfl rfl ?_
      refine ev_qN f_X12_wantSign (nx := 18) (r := []) rfl rfl rfl rfl rfl rfl rfl (c_m_ahead2 hI ) rfl hX rfl (fun gi8 gl8 gr8 hI hX hC8 q8 => ?_)
      have q8 : (gi 69 14).toInt ≤ (gi8 69 14).toInt ∧ ((gi8 69 12).toInt ≠ 0 → (gi 69 14).toInt < (gi8 69 14).toInt) ∧ ((gi8 69 12).toInt = 3 → 0 ≤ (gi8 69 15).toInt) := q8
      obtain ⟨l9, u9⟩ := hI.b (hI.wf.s (k := 69) rfl) (t_bdK rfl : t_bd 11 12 = some (0, 4))
      obtain ⟨l10, u10⟩ := hI.b (hI.wf.s (k := 69) rfl) (t_bdK rfl : t_bd 11 14 = some (0, 900))
      refine ev_ic f_X12_wantSign (nx := 19) (v := 1) rfl (by decide) rfl ?_
      exact ev_ret f_X12_wantSign rfl rfl rfl ⟨_, _, _, rfl, hI, hX, ⟨_, rfl, (Int.le_trans (by decide : (0:Int) ≤ 1) (by decide : (1:Int) ≤ (1:Int32).toInt)), (by decide : (1:Int32).toInt ≤ (1:Int)), (show (gi 69 14).toInt ≤ (gi8 69 14).toInt ∧ (1 = 1 → (gi8 69 12).toInt ≠ 0 → (gi 69 14).toInt < (gi8 69 14).toInt) ∧ (1 = 0 → (gi8 69 18).toInt ≠ 0) from (by have ff11 : (gi8 69 18).toInt = (gi 69 18).toInt := congrArg Int32.toInt ((hC8.1 69 18 rfl).1.trans rfl); omega))⟩⟩
    · have r12 : (gi 69 15).toInt ≠ ar1.toInt := t_nei h6
      refine ev_ic f_X12_isSign (nx := 21) (v := 0) rfl (by decide) rfl ?_
      refine ev_retK1 f_X12_isSign rfl rfl rfl ?_
      refine ev_t f_X12_wantSign (t1 := 8) (t2 := 14) rfl rfl rfl (by decide) ?_
      refine ev_loc f_X12_wantSign (nx := 9) rfl rfl rfl rfl ?_
      refine ev_ic f_X12_wantSign (nx := 10) (v := 2) rfl (by decide) rfl ?_
      refine ev_inV2 f_X12_wantSign (nx := 13) (lo2 := [(0, .ref 69), (1, .int 2)]) rfl rfl rfl rfl f_X12_fails (hI.wf.s rfl) rfl rfl rfl rfl rfl ?_
      refine ev_loc f_X12_fails (nx := 1) rfl rfl rfl rfl ?_
      refine ev_gvI f_X12_fails (nx := 4) (w := (gi 69 18)) rfl (hI.wf.s rfl) rfl rfl rfl rfl ?_
      refine ev_if f_X12_fails (t1 := 7) (t2 := 32) rfl rfl rfl (fun h13 => ?_) (fun h13 => ?_)
      · have u14 : (gi 69 18).toInt ≤ 0 := t_equ h13 (by decide : (0:Int32).toInt ≤ (0:Int))
        have l15 : 0 ≤ (gi 69 18).toInt := t_eql h13 (by decide : (0:Int) ≤ (0:Int32).toInt)
        refine ev_loc f_X12_fails (nx := 8) rfl rfl rfl rfl ?_
        refine ev_loc f_X12_fails (nx := 9) rfl rfl rfl rfl ?_
        refine ev_gvI f_X12_fails (nx := 12) (w := (gi 69 12)) rfl (hI.wf.s rfl) rfl rfl rfl rfl ?_
        refine ev_ic f_X12_fails (nx := 13) (v := 1) rfl (by decide) rfl ?_
        refine ev_f f_X12_fails (t1 := 16) (t2 := 20) rfl rfl rfl (t_neT' (by decide : (1:Int32).toInt ≤ (1:Int)) l5 (by decide)) ?_
        refine ev_loc f_X12_fails (nx := 21) rfl rfl rfl rfl ?_
        refine ev_putIT f_X12_fails (nx := 24) rfl (hI.wf.s rfl) rfl rfl rfl (hI.put0 (hI.wf.s rfl) rfl rfl) (hX.upI rfl) (fun g16 e16 hI hX => ?_)
        refine ev_loc f_X12_fails (nx := 25) rfl rfl rfl rfl ?_
        refine ev_loc f_X12_fails (nx := 26) rfl rfl rfl rfl ?_
        refine ev_getI f_X12_fails (nx := 29) rfl (hI.wf.s rfl) rfl rfl rfl ?_
        obtain ⟨l17, u17⟩ := hI.b (hI.wf.s (k := 69) rfl) (t_bdK rfl : t_bd 11 13 = some (0, 900))
        refine ev_putIT f_X12_fails (nx := 32) rfl (hI.wf.s rfl) rfl rfl rfl (hI.put0 (hI.wf.s rfl) rfl rfl) (hX.upI rfl) (fun g18 e18 hI hX => ?_)
        refine ev_ic f_X12_fails (nx := 33) (v := 0) rfl (by decide) rfl ?_
        refine ev_retK1 f_X12_fails rfl rfl rfl ?_
        exact ev_ret f_X12_wantSign rfl rfl rfl ⟨_, _, _, rfl, hI, hX, ⟨_, rfl, (by decide : (0:Int) ≤ (0:Int32).toInt), (Int.le_trans (by decide : (0:Int32).toInt ≤ (0:Int)) (by decide : (0:Int) ≤ 1)), (show (gi 69 14).toInt ≤ (g18 69 14).toInt ∧ (0 = 1 → (g18 69 12).toInt ≠ 0 → (gi 69 14).toInt < (g18 69 14).toInt) ∧ (0 = 0 → (g18 69 18).toInt ≠ 0) from (by have ff19 : (g18 69 14).toInt = (gi 69 14).toInt := congrArg Int32.toInt ((by rw [e18]; exact x_up2_off (Or.inr (by decide)) : g18 69 14 = g16 69 14).trans ((by rw [e16]; exact x_up2_off (Or.inr (by decide)) : g16 69 14 = gi 69 14).trans rfl)); have ff20 : (g18 69 12).toInt = (gi 69 12).toInt := congrArg Int32.toInt ((by rw [e18]; exact x_up2_off (Or.inr (by decide)) : g18 69 12 = g16 69 12).trans ((by rw [e16]; exact x_up2_off (Or.inr (by decide)) : g16 69 12 = gi 69 12).trans rfl)); have ff21 : (g18 69 18).toInt = 2 := (congrArg Int32.toInt ((by rw [e18]; exact x_up2_off (Or.inr (by decide)) : g18 69 18 = g16 69 18).trans (by rw [e16]; exact x_up2_at _ _ _ _ : g16 69 18 = 2))).trans (by decide); omega))⟩⟩
      · have r22 : (gi 69 18).toInt ≠ 0 := fun e => h13 (Int32.toInt_inj.mp (e.trans (by decide : (0:Int) = (0 : Int32).toInt)))
        refine ev_ic f_X12_fails (nx := 33) (v := 0) rfl (by decide) rfl ?_
        refine ev_retK1 f_X12_fails rfl rfl rfl ?_
        exact ev_ret f_X12_wantSign rfl rfl rfl ⟨_, _, _, rfl, hI, hX, ⟨_, rfl, (by decide : (0:Int) ≤ (0:Int32).toInt), (Int.le_trans (by decide : (0:Int32).toInt ≤ (0:Int)) (by decide : (0:Int) ≤ 1)), (show (gi 69 14).toInt ≤ (gi 69 14).toInt ∧ (0 = 1 → (gi 69 12).toInt ≠ 0 → (gi 69 14).toInt < (gi 69 14).toInt) ∧ (0 = 0 → (gi 69 18).toInt ≠ 0) from (by omega))⟩⟩
  · have r23 : (gi 69 12).toInt ≠ 4 := fun e => h4 (Int32.toInt_inj.mp (e.trans (by decide : (4:Int) = (4 : Int32).toInt)))
    have u24 : (gi 69 12).toInt ≤ 3 := t_neu h4 u1 rfl rfl
    refine ev_ic f_X12_isSign (nx := 21) (v := 0) rfl (by decide) rfl ?_
    refine ev_retK1 f_X12_isSign rfl rfl rfl ?_
    refine ev_t f_X12_wantSign (t1 := 8) (t2 := 14) rfl rfl rfl (by decide) ?_
    refine ev_loc f_X12_wantSign (nx := 9) rfl rfl rfl rfl ?_
    refine ev_ic f_X12_wantSign (nx := 10) (v := 2) rfl (by decide) rfl ?_
    refine ev_inV2 f_X12_wantSign (nx := 13) (lo2 := [(0, .ref 69), (1, .int 2)]) rfl rfl rfl rfl f_X12_fails (hI.wf.s rfl) rfl rfl rfl rfl rfl ?_
    refine ev_loc f_X12_fails (nx := 1) rfl rfl rfl rfl ?_
    refine ev_gvI f_X12_fails (nx := 4) (w := (gi 69 18)) rfl (hI.wf.s rfl) rfl rfl rfl rfl ?_
    refine ev_if f_X12_fails (t1 := 7) (t2 := 32) rfl rfl rfl (fun h25 => ?_) (fun h25 => ?_)
    · have u26 : (gi 69 18).toInt ≤ 0 := t_equ h25 (by decide : (0:Int32).toInt ≤ (0:Int))
      have l27 : 0 ≤ (gi 69 18).toInt := t_eql h25 (by decide : (0:Int) ≤ (0:Int32).toInt)
      refine ev_loc f_X12_fails (nx := 8) rfl rfl rfl rfl ?_
      refine ev_loc f_X12_fails (nx := 9) rfl rfl rfl rfl ?_
      refine ev_gvI f_X12_fails (nx := 12) (w := (gi 69 12)) rfl (hI.wf.s rfl) rfl rfl rfl rfl ?_
      refine ev_ic f_X12_fails (nx := 13) (v := 1) rfl (by decide) rfl ?_
      refine ev_if f_X12_fails (t1 := 16) (t2 := 20) rfl rfl rfl (fun h28 => ?_) (fun h28 => ?_)
      · have u29 : (gi 69 12).toInt ≤ 1 := t_equ h28 (by decide : (1:Int32).toInt ≤ (1:Int))
        have l30 : 1 ≤ (gi 69 12).toInt := t_eql h28 (by decide : (1:Int) ≤ (1:Int32).toInt)
        refine ev_ic f_X12_fails (nx := 17) (v := 1) rfl (by decide) rfl ?_
        refine ev_jmp f_X12_fails (nx := 21) rfl rfl rfl ?_
        refine ev_putIT f_X12_fails (nx := 24) rfl (hI.wf.s rfl) rfl rfl rfl (hI.put0 (hI.wf.s rfl) rfl rfl) (hX.upI rfl) (fun g31 e31 hI hX => ?_)
        refine ev_loc f_X12_fails (nx := 25) rfl rfl rfl rfl ?_
        refine ev_loc f_X12_fails (nx := 26) rfl rfl rfl rfl ?_
        refine ev_getI f_X12_fails (nx := 29) rfl (hI.wf.s rfl) rfl rfl rfl ?_
        obtain ⟨l32, u32⟩ := hI.b (hI.wf.s (k := 69) rfl) (t_bdK rfl : t_bd 11 13 = some (0, 900))
        refine ev_putIT f_X12_fails (nx := 32) rfl (hI.wf.s rfl) rfl rfl rfl (hI.put0 (hI.wf.s rfl) rfl rfl) (hX.upI rfl) (fun g33 e33 hI hX => ?_)
        refine ev_ic f_X12_fails (nx := 33) (v := 0) rfl (by decide) rfl ?_
        refine ev_retK1 f_X12_fails rfl rfl rfl ?_
        exact ev_ret f_X12_wantSign rfl rfl rfl ⟨_, _, _, rfl, hI, hX, ⟨_, rfl, (by decide : (0:Int) ≤ (0:Int32).toInt), (Int.le_trans (by decide : (0:Int32).toInt ≤ (0:Int)) (by decide : (0:Int) ≤ 1)), (show (gi 69 14).toInt ≤ (g33 69 14).toInt ∧ (0 = 1 → (g33 69 12).toInt ≠ 0 → (gi 69 14).toInt < (g33 69 14).toInt) ∧ (0 = 0 → (g33 69 18).toInt ≠ 0) from (by have ff34 : (g33 69 14).toInt = (gi 69 14).toInt := congrArg Int32.toInt ((by rw [e33]; exact x_up2_off (Or.inr (by decide)) : g33 69 14 = g31 69 14).trans ((by rw [e31]; exact x_up2_off (Or.inr (by decide)) : g31 69 14 = gi 69 14).trans rfl)); have ff35 : (g33 69 12).toInt = (gi 69 12).toInt := congrArg Int32.toInt ((by rw [e33]; exact x_up2_off (Or.inr (by decide)) : g33 69 12 = g31 69 12).trans ((by rw [e31]; exact x_up2_off (Or.inr (by decide)) : g31 69 12 = gi 69 12).trans rfl)); have ff36 : (g33 69 18).toInt = 1 := (congrArg Int32.toInt ((by rw [e33]; exact x_up2_off (Or.inr (by decide)) : g33 69 18 = g31 69 18).trans (by rw [e31]; exact x_up2_at _ _ _ _ : g31 69 18 = 1))).trans (by decide); omega))⟩⟩
      · have r37 : (gi 69 12).toInt ≠ 1 := fun e => h28 (Int32.toInt_inj.mp (e.trans (by decide : (1:Int) = (1 : Int32).toInt)))
        refine ev_loc f_X12_fails (nx := 21) rfl rfl rfl rfl ?_
        refine ev_putIT f_X12_fails (nx := 24) rfl (hI.wf.s rfl) rfl rfl rfl (hI.put0 (hI.wf.s rfl) rfl rfl) (hX.upI rfl) (fun g38 e38 hI hX => ?_)
        refine ev_loc f_X12_fails (nx := 25) rfl rfl rfl rfl ?_
        refine ev_loc f_X12_fails (nx := 26) rfl rfl rfl rfl ?_
        refine ev_getI f_X12_fails (nx := 29) rfl (hI.wf.s rfl) rfl rfl rfl ?_
        obtain ⟨l39, u39⟩ := hI.b (hI.wf.s (k := 69) rfl) (t_bdK rfl : t_bd 11 13 = some (0, 900))
        refine ev_putIT f_X12_fails (nx := 32) rfl (hI.wf.s rfl) rfl rfl rfl (hI.put0 (hI.wf.s rfl) rfl rfl) (hX.upI rfl) (fun g40 e40 hI hX => ?_)
        refine ev_ic f_X12_fails (nx := 33) (v := 0) rfl (by decide) rfl ?_
        refine ev_retK1 f_X12_fails rfl rfl rfl ?_
        exact ev_ret f_X12_wantSign rfl rfl rfl ⟨_, _, _, rfl, hI, hX, ⟨_, rfl, (by decide : (0:Int) ≤ (0:Int32).toInt), (Int.le_trans (by decide : (0:Int32).toInt ≤ (0:Int)) (by decide : (0:Int) ≤ 1)), (show (gi 69 14).toInt ≤ (g40 69 14).toInt ∧ (0 = 1 → (g40 69 12).toInt ≠ 0 → (gi 69 14).toInt < (g40 69 14).toInt) ∧ (0 = 0 → (g40 69 18).toInt ≠ 0) from (by have ff41 : (g40 69 14).toInt = (gi 69 14).toInt := congrArg Int32.toInt ((by rw [e40]; exact x_up2_off (Or.inr (by decide)) : g40 69 14 = g38 69 14).trans ((by rw [e38]; exact x_up2_off (Or.inr (by decide)) : g38 69 14 = gi 69 14).trans rfl)); have ff42 : (g40 69 12).toInt = (gi 69 12).toInt := congrArg Int32.toInt ((by rw [e40]; exact x_up2_off (Or.inr (by decide)) : g40 69 12 = g38 69 12).trans ((by rw [e38]; exact x_up2_off (Or.inr (by decide)) : g38 69 12 = gi 69 12).trans rfl)); have ff43 : (g40 69 18).toInt = 2 := (congrArg Int32.toInt ((by rw [e40]; exact x_up2_off (Or.inr (by decide)) : g40 69 18 = g38 69 18).trans (by rw [e38]; exact x_up2_at _ _ _ _ : g38 69 18 = 2))).trans (by decide); omega))⟩⟩
    · have r44 : (gi 69 18).toInt ≠ 0 := fun e => h25 (Int32.toInt_inj.mp (e.trans (by decide : (0:Int) = (0 : Int32).toInt)))
      refine ev_ic f_X12_fails (nx := 33) (v := 0) rfl (by decide) rfl ?_
      refine ev_retK1 f_X12_fails rfl rfl rfl ?_
      exact ev_ret f_X12_wantSign rfl rfl rfl ⟨_, _, _, rfl, hI, hX, ⟨_, rfl, (by decide : (0:Int) ≤ (0:Int32).toInt), (Int.le_trans (by decide : (0:Int32).toInt ≤ (0:Int)) (by decide : (0:Int) ≤ 1)), (show (gi 69 14).toInt ≤ (gi 69 14).toInt ∧ (0 = 1 → (gi 69 12).toInt ≠ 0 → (gi 69 14).toInt < (gi 69 14).toInt) ∧ (0 = 0 → (gi 69 18).toInt ≠ 0) from (by omega))⟩⟩
noncomputable def wl_m_wantWord2 : List (Nat × Nat) := [(69, 12), (69, 13), (69, 14), (69, 15), (69, 17), (69, 18)]
noncomputable def Q_m_wantWord2 (gi : Nat → Nat → Int32) (gl : Nat → Nat → Int64) (gr : Nat → Nat → Value) (ar2 : Int32) : Int32 → (Nat → Nat → Int32) → (Nat → Nat → Int64) → (Nat → Nat → Value) → Prop := fun (v : Int32) (gi2 : Nat → Nat → Int32) (gl2 : Nat → Nat → Int64) (gr2 : Nat → Nat → Value) => (gi 69 14).toInt ≤ (gi2 69 14).toInt ∧ (v.toInt = 1 → (gi2 69 12).toInt ≠ 0 → (gi 69 14).toInt < (gi2 69 14).toInt) ∧ (v.toInt = 0 → (gi2 69 18).toInt ≠ 0)
theorem c_m_wantWord2 {X : x_Ext} {d : Nat} {sh : List (Nat ⊕ (Nat × Nat))} {gi : Nat → Nat → Int32} {gl : Nat → Nat → Int64} {gr : Nat → Nat → Value} (hI : t_I sh gi gr) (ar2 : Int32) : x_Me X (d + 6) n_X12_wantWord [.ref 69, .retAddr 28, .int ar2] (sh, gi, gl, gr) (t_PI wl_m_wantWord2 sh gi gl gr 0 1 (Q_m_wantWord2 gi gl gr ar2)) := by
  have hX : t_X wl_m_wantWord2 sh gi gl gr gi gl gr := t_X.rf
  refine me_i f_X12_wantWord (hI.wf.s rfl) rfl rfl rfl ?_
  obtain ⟨l1, u1⟩ := hI.b (hI.wf.s (k := 69) rfl) (t_bdK rfl : t_bd 11 12 = some (0, 4))
  obtain ⟨l2, u2⟩ := hI.b (hI.wf.s (k := 69) rfl) (t_bdK rfl : t_bd 11 14 = some (0, 900))
  refine ev_loc f_X12_wantWord (nx := 1) rfl rfl rfl rfl ?_
  refine ev_loc f_X12_wantWord (nx := 2) rfl rfl rfl rfl ?_
  refine ev_qI f_X12_wantWord (nx := 5) (r := []) rfl rfl rfl rfl rfl rfl rfl (c_m_inWords hI ) rfl hX rfl (fun w4 gi4 gl4 gr4 l4 u4 hI hX hC4 q4 => ?_)
  have q4 : 0 ≤ w4.toInt → (gi 69 12).toInt = 2 := q4
  refine ev_loc f_X12_wantWord (nx := 6) rfl rfl rfl rfl ?_
  refine ev_if f_X12_wantWord (t1 := 15) (t2 := 9) rfl rfl rfl (fun h5 => ?_) (fun h5 => ?_)
  · have r6 : w4.toInt = ar2.toInt := t_eqi h5
    refine ev_loc f_X12_wantWord (nx := 16) rfl rfl rfl rfl ?_
    refine ev_qN f_X12_wantWord (nx := 19) (r := []) rfl rfl rfl rfl rfl rfl rfl (c_m_ahead2 hI ) rfl hX rfl (fun gi7 gl7 gr7 hI hX hC7 q7 => ?_)
    have ff8 : (gi4 69 14).toInt = (gi 69 14).toInt := congrArg Int32.toInt ((hC4.1 69 14 rfl).1.trans rfl)
    have q7 : (gi4 69 14).toInt ≤ (gi7 69 14).toInt ∧ ((gi7 69 12).toInt ≠ 0 → (gi4 69 14).toInt < (gi7 69 14).toInt) ∧ ((gi7 69 12).toInt = 3 → 0 ≤ (gi7 69 15).toInt) := q7
    obtain ⟨l9, u9⟩ := hI.b (hI.wf.s (k := 69) rfl) (t_bdK rfl : t_bd 11 12 = some (0, 4))
    obtain ⟨l10, u10⟩ := hI.b (hI.wf.s (k := 69) rfl) (t_bdK rfl : t_bd 11 14 = some (0, 900))
    refine ev_ic f_X12_wantWord (nx := 20) (v := 1) rfl (by decide) rfl ?_
    exact ev_ret f_X12_wantWord rfl rfl rfl ⟨_, _, _, rfl, hI, hX, ⟨_, rfl, (Int.le_trans (by decide : (0:Int) ≤ 1) (by decide : (1:Int) ≤ (1:Int32).toInt)), (by decide : (1:Int32).toInt ≤ (1:Int)), (show (gi 69 14).toInt ≤ (gi7 69 14).toInt ∧ (1 = 1 → (gi7 69 12).toInt ≠ 0 → (gi 69 14).toInt < (gi7 69 14).toInt) ∧ (1 = 0 → (gi7 69 18).toInt ≠ 0) from (by have ff11 : (gi7 69 18).toInt = (gi 69 18).toInt := congrArg Int32.toInt ((hC7.1 69 18 rfl).1.trans ((hC4.1 69 18 rfl).1.trans rfl)); omega))⟩⟩
  · have r12 : w4.toInt ≠ ar2.toInt := t_nei h5
    refine ev_loc f_X12_wantWord (nx := 10) rfl rfl rfl rfl ?_
    refine ev_ic f_X12_wantWord (nx := 11) (v := 2) rfl (by decide) rfl ?_
    refine ev_inV2 f_X12_wantWord (nx := 14) (lo2 := [(0, .ref 69), (1, .int 2)]) rfl rfl rfl rfl f_X12_fails (hI.wf.s rfl) rfl rfl rfl rfl rfl ?_
    refine ev_loc f_X12_fails (nx := 1) rfl rfl rfl rfl ?_
    refine ev_gvI f_X12_fails (nx := 4) (w := (gi 69 18)) rfl (hI.wf.s rfl) rfl rfl ((hC4.1 69 18 rfl).1.trans rfl) rfl ?_
    refine ev_if f_X12_fails (t1 := 7) (t2 := 32) rfl rfl rfl (fun h13 => ?_) (fun h13 => ?_)
    · have u14 : (gi 69 18).toInt ≤ 0 := t_equ h13 (by decide : (0:Int32).toInt ≤ (0:Int))
      have l15 : 0 ≤ (gi 69 18).toInt := t_eql h13 (by decide : (0:Int) ≤ (0:Int32).toInt)
      refine ev_loc f_X12_fails (nx := 8) rfl rfl rfl rfl ?_
      refine ev_loc f_X12_fails (nx := 9) rfl rfl rfl rfl ?_
      refine ev_gvI f_X12_fails (nx := 12) (w := (gi 69 12)) rfl (hI.wf.s rfl) rfl rfl ((hC4.1 69 12 rfl).1.trans rfl) rfl ?_
      refine ev_ic f_X12_fails (nx := 13) (v := 1) rfl (by decide) rfl ?_
      refine ev_if f_X12_fails (t1 := 16) (t2 := 20) rfl rfl rfl (fun h16 => ?_) (fun h16 => ?_)
      · have u17 : (gi 69 12).toInt ≤ 1 := t_equ h16 (by decide : (1:Int32).toInt ≤ (1:Int))
        have l18 : 1 ≤ (gi 69 12).toInt := t_eql h16 (by decide : (1:Int) ≤ (1:Int32).toInt)
        refine ev_ic f_X12_fails (nx := 17) (v := 1) rfl (by decide) rfl ?_
        refine ev_jmp f_X12_fails (nx := 21) rfl rfl rfl ?_
        refine ev_putIT f_X12_fails (nx := 24) rfl (hI.wf.s rfl) rfl rfl rfl (hI.put0 (hI.wf.s rfl) rfl rfl) (hX.upI rfl) (fun g19 e19 hI hX => ?_)
        refine ev_loc f_X12_fails (nx := 25) rfl rfl rfl rfl ?_
        refine ev_loc f_X12_fails (nx := 26) rfl rfl rfl rfl ?_
        refine ev_getI f_X12_fails (nx := 29) rfl (hI.wf.s rfl) rfl rfl rfl ?_
        obtain ⟨l20, u20⟩ := hI.b (hI.wf.s (k := 69) rfl) (t_bdK rfl : t_bd 11 13 = some (0, 900))
        refine ev_putIT f_X12_fails (nx := 32) rfl (hI.wf.s rfl) rfl rfl rfl (hI.put0 (hI.wf.s rfl) rfl rfl) (hX.upI rfl) (fun g21 e21 hI hX => ?_)
        refine ev_ic f_X12_fails (nx := 33) (v := 0) rfl (by decide) rfl ?_
        refine ev_retK1 f_X12_fails rfl rfl rfl ?_
        exact ev_ret f_X12_wantWord rfl rfl rfl ⟨_, _, _, rfl, hI, hX, ⟨_, rfl, (by decide : (0:Int) ≤ (0:Int32).toInt), (Int.le_trans (by decide : (0:Int32).toInt ≤ (0:Int)) (by decide : (0:Int) ≤ 1)), (show (gi 69 14).toInt ≤ (g21 69 14).toInt ∧ (0 = 1 → (g21 69 12).toInt ≠ 0 → (gi 69 14).toInt < (g21 69 14).toInt) ∧ (0 = 0 → (g21 69 18).toInt ≠ 0) from (by have ff22 : (g21 69 14).toInt = (gi 69 14).toInt := congrArg Int32.toInt ((by rw [e21]; exact x_up2_off (Or.inr (by decide)) : g21 69 14 = g19 69 14).trans ((by rw [e19]; exact x_up2_off (Or.inr (by decide)) : g19 69 14 = gi4 69 14).trans ((hC4.1 69 14 rfl).1.trans rfl))); have ff23 : (g21 69 12).toInt = (gi 69 12).toInt := congrArg Int32.toInt ((by rw [e21]; exact x_up2_off (Or.inr (by decide)) : g21 69 12 = g19 69 12).trans ((by rw [e19]; exact x_up2_off (Or.inr (by decide)) : g19 69 12 = gi4 69 12).trans ((hC4.1 69 12 rfl).1.trans rfl))); have ff24 : (g21 69 18).toInt = 1 := (congrArg Int32.toInt ((by rw [e21]; exact x_up2_off (Or.inr (by decide)) : g21 69 18 = g19 69 18).trans (by rw [e19]; exact x_up2_at _ _ _ _ : g19 69 18 = 1))).trans (by decide); omega))⟩⟩
      · have r25 : (gi 69 12).toInt ≠ 1 := fun e => h16 (Int32.toInt_inj.mp (e.trans (by decide : (1:Int) = (1 : Int32).toInt)))
        refine ev_loc f_X12_fails (nx := 21) rfl rfl rfl rfl ?_
        refine ev_putIT f_X12_fails (nx := 24) rfl (hI.wf.s rfl) rfl rfl rfl (hI.put0 (hI.wf.s rfl) rfl rfl) (hX.upI rfl) (fun g26 e26 hI hX => ?_)
        refine ev_loc f_X12_fails (nx := 25) rfl rfl rfl rfl ?_
        refine ev_loc f_X12_fails (nx := 26) rfl rfl rfl rfl ?_
        refine ev_getI f_X12_fails (nx := 29) rfl (hI.wf.s rfl) rfl rfl rfl ?_
        obtain ⟨l27, u27⟩ := hI.b (hI.wf.s (k := 69) rfl) (t_bdK rfl : t_bd 11 13 = some (0, 900))
        refine ev_putIT f_X12_fails (nx := 32) rfl (hI.wf.s rfl) rfl rfl rfl (hI.put0 (hI.wf.s rfl) rfl rfl) (hX.upI rfl) (fun g28 e28 hI hX => ?_)
        refine ev_ic f_X12_fails (nx := 33) (v := 0) rfl (by decide) rfl ?_
        refine ev_retK1 f_X12_fails rfl rfl rfl ?_
        exact ev_ret f_X12_wantWord rfl rfl rfl ⟨_, _, _, rfl, hI, hX, ⟨_, rfl, (by decide : (0:Int) ≤ (0:Int32).toInt), (Int.le_trans (by decide : (0:Int32).toInt ≤ (0:Int)) (by decide : (0:Int) ≤ 1)), (show (gi 69 14).toInt ≤ (g28 69 14).toInt ∧ (0 = 1 → (g28 69 12).toInt ≠ 0 → (gi 69 14).toInt < (g28 69 14).toInt) ∧ (0 = 0 → (g28 69 18).toInt ≠ 0) from (by have ff29 : (g28 69 14).toInt = (gi 69 14).toInt := congrArg Int32.toInt ((by rw [e28]; exact x_up2_off (Or.inr (by decide)) : g28 69 14 = g26 69 14).trans ((by rw [e26]; exact x_up2_off (Or.inr (by decide)) : g26 69 14 = gi4 69 14).trans ((hC4.1 69 14 rfl).1.trans rfl))); have ff30 : (g28 69 12).toInt = (gi 69 12).toInt := congrArg Int32.toInt ((by rw [e28]; exact x_up2_off (Or.inr (by decide)) : g28 69 12 = g26 69 12).trans ((by rw [e26]; exact x_up2_off (Or.inr (by decide)) : g26 69 12 = gi4 69 12).trans ((hC4.1 69 12 rfl).1.trans rfl))); have ff31 : (g28 69 18).toInt = 2 := (congrArg Int32.toInt ((by rw [e28]; exact x_up2_off (Or.inr (by decide)) : g28 69 18 = g26 69 18).trans (by rw [e26]; exact x_up2_at _ _ _ _ : g26 69 18 = 2))).trans (by decide); omega))⟩⟩
    · have r32 : (gi 69 18).toInt ≠ 0 := fun e => h13 (Int32.toInt_inj.mp (e.trans (by decide : (0:Int) = (0 : Int32).toInt)))
      refine ev_ic f_X12_fails (nx := 33) (v := 0) rfl (by decide) rfl ?_
      refine ev_retK1 f_X12_fails rfl rfl rfl ?_
      exact ev_ret f_X12_wantWord rfl rfl rfl ⟨_, _, _, rfl, hI, hX, ⟨_, rfl, (by decide : (0:Int) ≤ (0:Int32).toInt), (Int.le_trans (by decide : (0:Int32).toInt ≤ (0:Int)) (by decide : (0:Int) ≤ 1)), (show (gi 69 14).toInt ≤ (gi4 69 14).toInt ∧ (0 = 1 → (gi4 69 12).toInt ≠ 0 → (gi 69 14).toInt < (gi4 69 14).toInt) ∧ (0 = 0 → (gi4 69 18).toInt ≠ 0) from (by have ff33 : (gi4 69 14).toInt = (gi 69 14).toInt := congrArg Int32.toInt ((hC4.1 69 14 rfl).1.trans rfl); have ff34 : (gi4 69 12).toInt = (gi 69 12).toInt := congrArg Int32.toInt ((hC4.1 69 12 rfl).1.trans rfl); have ff35 : (gi4 69 18).toInt = (gi 69 18).toInt := congrArg Int32.toInt ((hC4.1 69 18 rfl).1.trans rfl); omega))⟩⟩
noncomputable def wl_m_turnsRound : List (Nat × Nat) := [(69, 22), (69, 23), (69, 25), (70, 154011750)]
noncomputable def Q_m_turnsRound (gi : Nat → Nat → Int32) (gl : Nat → Nat → Int64) (gr : Nat → Nat → Value) (b : Nat → Int32) : (Nat → Nat → Int32) → (Nat → Nat → Int64) → (Nat → Nat → Value) → Prop := fun (gi2 : Nat → Nat → Int32) (gl2 : Nat → Nat → Int64) (gr2 : Nat → Nat → Value) => t_K b gi2 2
theorem c_m_turnsRound {X : x_Ext} {d : Nat} {sh : List (Nat ⊕ (Nat × Nat))} {gi : Nat → Nat → Int32} {gl : Nat → Nat → Int64} {gr : Nat → Nat → Value} (hI : t_I sh gi gr) {b : Nat → Int32} (e_p0 : t_K b gi 1) : x_Me X (d + 3) n_X12_turnsRound [.ref 69] (sh, gi, gl, gr) (t_PN wl_m_turnsRound sh gi gl gr (Q_m_turnsRound gi gl gr b)) := by
  have hX : t_X wl_m_turnsRound sh gi gl gr gi gl gr := t_X.rf
  refine me_i f_X12_turnsRound (hI.wf.s rfl) rfl rfl rfl ?_
  obtain ⟨l1, u1⟩ := hI.b (hI.wf.s (k := 69) rfl) (t_bdK rfl : t_bd 11 22 = some (0, 60))
  obtain ⟨l2, u2⟩ := hI.b (hI.wf.s (k := 69) rfl) (t_bdK rfl : t_bd 11 23 = some (0, 6))
  obtain ⟨l3, u3⟩ := hI.b (hI.wf.s (k := 69) rfl) (t_bdK rfl : t_bd 11 24 = some (0, 24))
  obtain ⟨l4, u4⟩ := hI.b (hI.wf.s (k := 69) rfl) (t_bdK rfl : t_bd 11 25 = some (0, 210))
  have L5 : ∀ (m5 : Nat) (gi5 : Nat → Nat → Int32) (gl5 : Nat → Nat → Int64) (gr5 : Nat → Nat → Value), t_I sh gi5 gr5 → t_X wl_m_turnsRound sh gi gl gr gi5 gl5 gr5 → gi5 69 24 = (gi 69 24) → t_K b gi5 1 → (gi5 69 22).toInt.toNat = m5 → x_Ev X (d + 3) n_X12_turnsRound 0 [(0, .ref 69)] [] (sh, gi5, gl5, gr5) (t_PN wl_m_turnsRound sh gi gl gr (Q_m_turnsRound gi gl gr b)) := by
    intro m5
    induction m5 using Nat.strongRecOn with
    | _ m5 ih5 =>
    intro gi5 gl5 gr5 hI hX c5_0 j5_0 hm5
    have cf5_0 : (gi5 69 24).toInt = (gi 69 24).toInt := congrArg Int32.toInt c5_0
    obtain ⟨l6, u6⟩ := hI.b (hI.wf.s (k := 69) rfl) (t_bdK rfl : t_bd 11 22 = some (0, 60))
    obtain ⟨l7, u7⟩ := hI.b (hI.wf.s (k := 69) rfl) (t_bdK rfl : t_bd 11 23 = some (0, 6))
    obtain ⟨l8, u8⟩ := hI.b (hI.wf.s (k := 69) rfl) (t_bdK rfl : t_bd 11 25 = some (0, 210))
    refine ev_loc f_X12_turnsRound (nx := 1) rfl rfl rfl rfl ?_
    refine ev_bp f_X12_turnsRound (nx := 3) (v := 20) rfl (by decide) rfl ?_
    refine ev_inV2 f_X12_turnsRound (nx := 6) (lo2 := [(0, .ref 69), (1, .int 20)]) rfl rfl rfl rfl f_X12_isDoing (hI.wf.s rfl) rfl rfl rfl rfl rfl ?_
    refine ev_loc f_X12_isDoing (nx := 1) rfl rfl rfl rfl ?_
    refine ev_gvI f_X12_isDoing (nx := 4) (w := (gi5 69 22)) rfl (hI.wf.s rfl) rfl rfl rfl rfl ?_
    refine ev_if f_X12_isDoing (t1 := 26) (t2 := 7) rfl rfl rfl (fun h9 => ?_) (fun h9 => ?_)
    · have u10 : (gi5 69 22).toInt ≤ 0 := t_leu h9 (by decide : (0:Int32).toInt ≤ (0:Int))
      refine ev_ic f_X12_isDoing (nx := 27) (v := 0) rfl (by decide) rfl ?_
      refine ev_retK1 f_X12_isDoing rfl rfl rfl ?_
      refine ev_t f_X12_turnsRound (t1 := 26) (t2 := 9) rfl rfl rfl (by decide) ?_
      exact ev_ret f_X12_turnsRound rfl rfl rfl ⟨_, _, _, rfl, hI, hX, ⟨rfl, (show t_K b gi5 2 from (t_K_12 j5_0 (fun j hj => absurd hj (by omega))))⟩⟩
    · have l11 : 1 ≤ (gi5 69 22).toInt := t_ltl (t_nle h9) (by decide : (0:Int) ≤ (0:Int32).toInt) rfl
      refine ev_loc f_X12_isDoing (nx := 8) rfl rfl rfl rfl ?_
      refine ev_getR f_X12_isDoing (nx := 11) rfl (hI.wf.s rfl) rfl rfl (hI.wf.r rfl) rfl rfl ?_
      refine ev_loc f_X12_isDoing (nx := 12) rfl rfl rfl rfl ?_
      refine ev_gvI f_X12_isDoing (nx := 15) (w := (gi5 69 22)) rfl (hI.wf.s rfl) rfl rfl rfl rfl ?_
      refine ev_ic f_X12_isDoing (nx := 16) (v := 1) rfl (by decide) rfl ?_
      refine ev_subC f_X12_isDoing (nx := 17) (c := 1) (l := 0) (u := 59) rfl (by decide) l11 u6 rfl rfl (by decide) (by decide) rfl (fun z12 e12 l12 u12 => ?_)
      refine ev_ialdT f_X12_isDoing (nx := 18) rfl (hI.wf.s rfl) l12 (by decide) u12 (by decide) rfl (fun w13 e13 => ?_)
      refine ev_loc f_X12_isDoing (nx := 19) rfl rfl rfl rfl ?_
      refine ev_if f_X12_isDoing (t1 := 22) (t2 := 26) rfl rfl rfl (fun h14 => ?_) (fun h14 => ?_)
      · have u15 : w13.toInt ≤ 20 := t_equ h14 (by decide : (20:Int32).toInt ≤ (20:Int))
        have l16 : 20 ≤ w13.toInt := t_eql h14 (by decide : (20:Int) ≤ (20:Int32).toInt)
        refine ev_ic f_X12_isDoing (nx := 23) (v := 1) rfl (by decide) rfl ?_
        refine ev_jmp f_X12_isDoing (nx := 27) rfl rfl rfl ?_
        refine ev_retK1 f_X12_isDoing rfl rfl rfl ?_
        refine ev_f f_X12_turnsRound (t1 := 26) (t2 := 9) rfl rfl rfl (by decide) ?_
        refine ev_loc f_X12_turnsRound (nx := 10) rfl rfl rfl rfl ?_
        refine ev_inV1 f_X12_turnsRound (nx := 13) (lo2 := [(0, .ref 69)]) rfl rfl rfl rfl f_X12_joins (hI.wf.s rfl) rfl rfl rfl rfl rfl ?_
        have kn17 := t_K_num j5_0
        refine ev_loc f_X12_joins (nx := 1) rfl rfl rfl rfl ?_
        refine ev_alu f_X12_joins (nx := 2) rfl rfl rfl rfl ?_
        refine ev_gvI f_X12_joins (nx := 5) (w := (gi5 69 22)) rfl (hI.wf.s rfl) rfl rfl rfl rfl ?_
        refine ev_ic f_X12_joins (nx := 6) (v := 1) rfl (by decide) rfl ?_
        refine ev_subC f_X12_joins (nx := 7) (c := 1) (l := 0) (u := 59) rfl (by decide) l11 u6 rfl rfl (by decide) (by decide) rfl (fun z18 e18 l18 u18 => ?_)
        refine ev_putIT f_X12_joins (nx := 10) rfl (hI.wf.s rfl) rfl rfl rfl (hI.putB (hI.wf.s rfl) rfl rfl l18 (by decide) u18 (by decide)) (hX.upI rfl) (fun g19 e19 hI hX => ?_)
        refine ev_loc f_X12_joins (nx := 11) rfl rfl rfl rfl ?_
        refine ev_loc f_X12_joins (nx := 12) rfl rfl rfl rfl ?_
        refine ev_getR f_X12_joins (nx := 15) rfl (hI.wf.s rfl) rfl rfl (hI.wf.r rfl) rfl rfl ?_
        refine ev_loc f_X12_joins (nx := 16) rfl rfl rfl rfl ?_
        refine ev_gvI f_X12_joins (nx := 19) (w := z18) rfl (hI.wf.s rfl) rfl rfl (by rw [e19]; exact x_up2_at _ _ _ _ : g19 69 22 = z18) rfl ?_
        refine ev_ialdT f_X12_joins (nx := 20) rfl (hI.wf.s rfl) l18 (by decide) u18 (by decide) rfl (fun w20 e20 => ?_)
        refine ev_inV2 f_X12_joins (nx := 23) (lo2 := [(0, .ref 69), (1, .int w20)]) rfl rfl rfl rfl f_X12_asksAlso (hI.wf.s rfl) rfl rfl rfl rfl rfl ?_
        have kn21 := t_K_num j5_0
        refine ev_loc f_X12_asksAlso (nx := 1) rfl rfl rfl rfl ?_
        refine ev_getR f_X12_asksAlso (nx := 4) rfl (hI.wf.s rfl) rfl rfl (hI.wf.r rfl) rfl rfl ?_
        refine ev_sp f_X12_asksAlso (nx := 7) (v := 1540) rfl (by decide) rfl ?_
        refine ev_loc f_X12_asksAlso (nx := 8) rfl rfl rfl rfl ?_
        refine ev_gvI f_X12_asksAlso (nx := 11) (w := (gi5 69 25)) rfl (hI.wf.s rfl) rfl rfl ((by rw [e19]; exact x_up2_off (Or.inr (by decide)) : g19 69 25 = gi5 69 25).trans rfl) rfl ?_
        refine ev_addK f_X12_asksAlso (nx := 12) (c := 1540) (l := 1540) (u := 1750) rfl (by decide) l8 u8 rfl rfl (by decide) (by decide) rfl (fun z22 e22 l22 u22 => ?_)
        refine ev_loc f_X12_asksAlso (nx := 13) rfl rfl rfl rfl ?_
        refine ev_iastT f_X12_asksAlso (nx := 14) rfl (hI.wf.s rfl) l22 (by decide) u22 (by decide) rfl (hI.astL (hI.wf.s rfl) (by decide +kernel : t_abw 70 1540 1750 (-2147483648) 2147483647 = true) (t_cl1 l22 (by decide)) (t_cl2 l22 u22 (by decide) (by decide)) (t_lo w20) (t_hi w20) rfl) (hX.upI (t_inR (p := 1540) (m := 1750) rfl l22 (by decide) u22 (by decide) (by decide))) (fun g23 e23 hI hX => ?_)
        refine ev_loc f_X12_asksAlso (nx := 15) rfl rfl rfl rfl ?_
        refine ev_alu f_X12_asksAlso (nx := 16) rfl rfl rfl rfl ?_
        refine ev_gvI f_X12_asksAlso (nx := 19) (w := (gi5 69 25)) rfl (hI.wf.s rfl) rfl rfl ((by rw [e23]; exact x_up2_off (Or.inl (by decide)) : g23 69 25 = g19 69 25).trans ((by rw [e19]; exact x_up2_off (Or.inr (by decide)) : g19 69 25 = gi5 69 25).trans rfl)) rfl ?_
        refine ev_ic f_X12_asksAlso (nx := 20) (v := 1) rfl (by decide) rfl ?_
        refine ev_addC f_X12_asksAlso (nx := 21) (c := 1) (l := 1) (u := 211) rfl (by decide) l8 u8 rfl rfl (by decide) (by decide) rfl (fun z24 e24 l24 u24 => ?_)
        have u26 : z24.toInt ≤ (210:Int) := (by omega)
        refine ev_putIT f_X12_asksAlso (nx := 24) rfl (hI.wf.s rfl) rfl rfl rfl (hI.putB (hI.wf.s rfl) rfl rfl l24 (by decide) u26 (by decide)) (hX.upI rfl) (fun g25 e25 hI hX => ?_)
        refine ev_retK0 f_X12_asksAlso rfl rfl rfl ?_
        refine ev_retK0 f_X12_joins rfl rfl rfl ?_
        refine ev_loc f_X12_turnsRound (nx := 14) rfl rfl rfl rfl ?_
        refine ev_alu f_X12_turnsRound (nx := 15) rfl rfl rfl rfl ?_
        refine ev_gvI f_X12_turnsRound (nx := 18) (w := (gi5 69 23)) rfl (hI.wf.s rfl) rfl rfl ((by rw [e25]; exact x_up2_off (Or.inr (by decide)) : g25 69 23 = g23 69 23).trans ((by rw [e23]; exact x_up2_off (Or.inl (by decide)) : g23 69 23 = g19 69 23).trans ((by rw [e19]; exact x_up2_off (Or.inr (by decide)) : g19 69 23 = gi5 69 23).trans rfl))) rfl ?_
        refine ev_ic f_X12_turnsRound (nx := 19) (v := 1) rfl (by decide) rfl ?_
        refine ev_subC f_X12_turnsRound (nx := 20) (c := 1) (l := (-1)) (u := 5) rfl (by decide) l7 u7 rfl rfl (by decide) (by decide) rfl (fun z27 e27 l27 u27 => ?_)
        have l29 : (0:Int) ≤ z27.toInt := (by have hw := t_K_w j5_0 (by omega) (by rw [← (by rw [e13]; have hc := t_clamp (i := z12) (by omega); have hx : z12.toNatClampNeg = (gi5 69 22).toInt.toNat - 1 := (by omega); rw [hx] : w13 = gi5 77 ((gi5 69 22).toInt.toNat - 1))]; omega); omega)
        refine ev_putIT f_X12_turnsRound (nx := 23) rfl (hI.wf.s rfl) rfl rfl rfl (hI.putB (hI.wf.s rfl) rfl rfl l29 (by decide) u27 (by decide)) (hX.upI rfl) (fun g28 e28 hI hX => ?_)
        refine ev_jmp f_X12_turnsRound (nx := 0) rfl rfl rfl ?_
        refine ev_sub (lo := [(0, .ref 69)]) rfl (t_sc rfl t_sn) ?_
        exact ih5 _ (by have ff34 : (g28 69 22).toInt = z18.toInt := congrArg Int32.toInt ((by rw [e28]; exact x_up2_off (Or.inr (by decide)) : g28 69 22 = g25 69 22).trans ((by rw [e25]; exact x_up2_off (Or.inr (by decide)) : g25 69 22 = g23 69 22).trans ((by rw [e23]; exact x_up2_off (Or.inl (by decide)) : g23 69 22 = g19 69 22).trans (by rw [e19]; exact x_up2_at _ _ _ _ : g19 69 22 = z18)))); omega) g28 gl5 gr5  hI hX  ((by rw [e28]; exact x_up2_off (Or.inr (by decide)) : g28 69 24 = g25 69 24).trans ((by rw [e25]; exact x_up2_off (Or.inr (by decide)) : g25 69 24 = g23 69 24).trans ((by rw [e23]; exact x_up2_off (Or.inl (by decide)) : g23 69 24 = g19 69 24).trans ((by rw [e19]; exact x_up2_off (Or.inr (by decide)) : g19 69 24 = gi5 69 24).trans c5_0)))) (by have ht := (by rw [e20]; have hc := t_clamp (i := z18) (by omega); have hx : z18.toNatClampNeg = (gi5 69 22).toInt.toNat - 1 := (by omega); rw [hx]; exact congrFun (((by rw [e19]; exact x_up2_ne (by decide) : g19 77 = gi5 77))) _ : w20 = gi5 77 ((gi5 69 22).toInt.toNat - 1)); have ho := (t_one (p := 1540 + (gi5 69 25).toInt.toNat) ((by rw [e19]; exact x_up2_ne (by decide) : g19 70 = gi5 70)) e23 ((by rw [e28]; exact x_up2_ne (by decide) : g28 70 = g25 70).trans ((by rw [e25]; exact x_up2_ne (by decide) : g25 70 = g23 70))) (by have hc := t_clamp (i := z22) (by omega); omega)); exact t_K_not j5_0 (by omega) (by rw [← (by rw [e13]; have hc := t_clamp (i := z12) (by omega); have hx : z12.toNatClampNeg = (gi5 69 22).toInt.toNat - 1 := (by omega); rw [hx] : w13 = gi5 77 ((gi5 69 22).toInt.toNat - 1))]; omega) (show (g28 69 22).toInt = (gi5 69 22).toInt - 1 from (by have ff30 : (g28 69 22).toInt = z18.toInt := congrArg Int32.toInt ((by rw [e28]; exact x_up2_off (Or.inr (by decide)) : g28 69 22 = g25 69 22).trans ((by rw [e25]; exact x_up2_off (Or.inr (by decide)) : g25 69 22 = g23 69 22).trans ((by rw [e23]; exact x_up2_off (Or.inl (by decide)) : g23 69 22 = g19 69 22).trans (by rw [e19]; exact x_up2_at _ _ _ _ : g19 69 22 = z18)))); omega)) (show (g28 69 23).toInt = (gi5 69 23).toInt - 1 from (by have ff31 : (g28 69 23).toInt = z27.toInt := congrArg Int32.toInt (by rw [e28]; exact x_up2_at _ _ _ _ : g28 69 23 = z27); omega)) (show (g28 69 24).toInt = (gi5 69 24).toInt from (by have ff32 : (g28 69 24).toInt = (gi 69 24).toInt := congrArg Int32.toInt ((by rw [e28]; exact x_up2_off (Or.inr (by decide)) : g28 69 24 = g25 69 24).trans ((by rw [e25]; exact x_up2_off (Or.inr (by decide)) : g25 69 24 = g23 69 24).trans ((by rw [e23]; exact x_up2_off (Or.inl (by decide)) : g23 69 24 = g19 69 24).trans ((by rw [e19]; exact x_up2_off (Or.inr (by decide)) : g19 69 24 = gi5 69 24).trans c5_0)))); omega)) (show (g28 69 25).toInt = (gi5 69 25).toInt + 1 from (by have ff33 : (g28 69 25).toInt = z24.toInt := congrArg Int32.toInt ((by rw [e28]; exact x_up2_off (Or.inr (by decide)) : g28 69 25 = g25 69 25).trans (by rw [e25]; exact x_up2_at _ _ _ _ : g25 69 25 = z24)); omega)) ((by rw [e28]; exact x_up2_ne (by decide) : g28 77 = g25 77).trans ((by rw [e25]; exact x_up2_ne (by decide) : g25 77 = g23 77).trans ((by rw [e23]; exact x_up2_ne (by decide) : g23 77 = g19 77).trans ((by rw [e19]; exact x_up2_ne (by decide) : g19 77 = gi5 77))))) ho.1 (ho.2.trans ht)) rfl
      · have r35 : w13.toInt ≠ 20 := fun e => h14 (Int32.toInt_inj.mp (e.trans (by decide : (20:Int) = (20 : Int32).toInt)))
        refine ev_ic f_X12_isDoing (nx := 27) (v := 0) rfl (by decide) rfl ?_
        refine ev_retK1 f_X12_isDoing rfl rfl rfl ?_
        refine ev_t f_X12_turnsRound (t1 := 26) (t2 := 9) rfl rfl rfl (by decide) ?_
        exact ev_ret f_X12_turnsRound rfl rfl rfl ⟨_, _, _, rfl, hI, hX, ⟨rfl, (show t_K b gi5 2 from (t_K_12 j5_0 (by have ht := (by rw [e13]; have hc := t_clamp (i := z12) (by omega); have hx : z12.toNatClampNeg = (gi5 69 22).toInt.toNat - 1 := (by omega); rw [hx] : w13 = gi5 77 ((gi5 69 22).toInt.toNat - 1)); intro j hj; rw [show j = (gi5 69 22).toInt.toNat - 1 by omega, ← ht]; omega)))⟩⟩
  refine ev_sub (lo := [(0, .ref 69)]) rfl (t_sc rfl t_sn) ?_
  exact L5 _ gi gl gr  hI hX  rfl e_p0 rfl
