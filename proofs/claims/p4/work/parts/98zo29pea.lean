/-! ===== printed by riv.py: what RULES come to, on the other side ===== -/
noncomputable def wl_e_waitingShips : List (Nat × Nat) := []
noncomputable def Q_e_waitingShips (gi : Nat → Nat → Int32) (gl : Nat → Nat → Int64) (gr : Nat → Nat → Value) : Int32 → (Nat → Nat → Int32) → (Nat → Nat → Int64) → (Nat → Nat → Value) → Prop := fun (v : Int32) (gi2 : Nat → Nat → Int32) (gl2 : Nat → Nat → Int64) (gr2 : Nat → Nat → Value) => ((gi 69 64).toInt ≤ (gi 69 44).toInt → v.toInt = s_mw gi)
theorem c_e_waitingShips {X : x_Ext} {d : Nat} {sh : List (Nat ⊕ (Nat × Nat))} {gi : Nat → Nat → Int32} {gl : Nat → Nat → Int64} {gr : Nat → Nat → Value} (hI : t_I sh gi gr) : x_Me X (d + 1) n_X12_waitingShips [.ref 69] (sh, gi, gl, gr) (t_PI wl_e_waitingShips sh gi gl gr 0 6 (Q_e_waitingShips gi gl gr)) := by
  have hX : t_X wl_e_waitingShips sh gi gl gr gi gl gr := t_X.rf
  refine me_i f_X12_waitingShips (hI.wf.s rfl) rfl rfl rfl ?_
  obtain ⟨l1, u1⟩ := hI.b (hI.wf.s (k := 69) rfl) (t_bdK rfl : t_bd 11 44 = some (0, 6))
  obtain ⟨l2, u2⟩ := hI.b (hI.wf.s (k := 69) rfl) (t_bdK rfl : t_bd 11 64 = some (0, 6))
  refine ev_ic f_X12_waitingShips (nx := 1) (v := 0) rfl (by decide) rfl ?_
  refine ev_loc f_X12_waitingShips (nx := 2) (lo' := [(1, .int 0), (0, .ref 69)]) rfl rfl rfl rfl ?_
  refine ev_loc f_X12_waitingShips (nx := 3) rfl rfl rfl rfl ?_
  refine ev_gvI f_X12_waitingShips (nx := 6) (w := (gi 69 64)) rfl (hI.wf.s rfl) rfl rfl rfl rfl ?_
  refine ev_loc f_X12_waitingShips (nx := 7) (lo' := [(2, .int (gi 69 64)), (1, .int 0), (0, .ref 69)]) rfl rfl rfl rfl ?_
  have L3 : ∀ (m3 : Nat) (gi3 : Nat → Nat → Int32) (gl3 : Nat → Nat → Int64) (gr3 : Nat → Nat → Value) (y3_2 : Int32) (y3_1 : Int32), t_I sh gi3 gr3 → t_X wl_e_waitingShips sh gi gl gr gi3 gl3 gr3 → 0 ≤ y3_2.toInt → y3_2.toInt ≤ 6 → 0 ≤ y3_1.toInt → y3_1.toInt ≤ 6 → gi3 69 44 = (gi 69 44) → gi3 69 64 = (gi 69 64) → y3_1.toInt ≤ y3_2.toInt → ((gi 69 64).toInt ≤ (gi 69 44).toInt → (gi 69 64).toInt ≤ y3_2.toInt ∧ y3_2.toInt ≤ (gi 69 44).toInt ∧ y3_1.toInt = s_cu (s_mwk gi) y3_2.toInt.toNat - s_cu (s_mwk gi) (gi 69 64).toInt.toNat) → (6 - y3_2.toInt).toNat = m3 → x_Ev X (d + 1) n_X12_waitingShips 7 [(2, .int y3_2), (1, .int y3_1), (0, .ref 69)] [] (sh, gi3, gl3, gr3) (t_PI wl_e_waitingShips sh gi gl gr 0 6 (Q_e_waitingShips gi gl gr)) := by
    intro m3
    induction m3 using Nat.strongRecOn with
    | _ m3 ih3 =>
    intro gi3 gl3 gr3 y3_2 y3_1 hI hX l3_2 u3_2 l3_1 u3_1 c3_0 c3_1 j3_0 j3_1 hm3
    refine ev_loc f_X12_waitingShips (nx := 8) rfl rfl rfl rfl ?_
    refine ev_loc f_X12_waitingShips (nx := 9) rfl rfl rfl rfl ?_
    refine ev_gvI f_X12_waitingShips (nx := 12) (w := (gi 69 44)) rfl (hI.wf.s rfl) rfl rfl c3_0 rfl ?_
    refine ev_if f_X12_waitingShips (t1 := 61) (t2 := 15) rfl rfl rfl (fun h4 => ?_) (fun h4 => ?_)
    · have r5 : (gi 69 44).toInt ≤ y3_2.toInt := Int32.le_iff_toInt_le.mp h4
      refine ev_loc f_X12_waitingShips (nx := 62) rfl rfl rfl rfl ?_
      exact ev_ret f_X12_waitingShips rfl rfl rfl ⟨_, _, _, rfl, hI, hX, ⟨_, rfl, l3_1, u3_1, (show ((gi 69 64).toInt ≤ (gi 69 44).toInt → y3_1.toInt = s_mw gi) from (fun hle => (by
                                                            obtain ⟨h1, h2, h3⟩ := j3_1 hle
                                                            have eg : gi3 = gi := funext fun c => funext fun j => (hX.1 c j rfl).1
                                                            have em : (gi3 69 44).toInt = (gi 69 44).toInt := by rw [eg]
                                                            have h4 : y3_2.toInt.toNat = (gi 69 44).toInt.toNat := by omega
                                                            rw [h4] at h3
                                                            exact h3)))⟩⟩
    · have r6 : y3_2.toInt < (gi 69 44).toInt := Int32.lt_iff_toInt_lt.mp (t_nle h4)
      have u7 : y3_2.toInt ≤ 5 := t_ltu (t_nle h4) u1 rfl
      have l8 : 1 ≤ (gi 69 44).toInt := t_ltl (t_nle h4) l3_2 rfl
      refine ev_loc f_X12_waitingShips (nx := 16) rfl rfl rfl rfl ?_
      refine ev_loc f_X12_waitingShips (nx := 17) rfl rfl rfl rfl ?_
      refine ev_getR f_X12_waitingShips (nx := 20) rfl (hI.wf.s rfl) rfl rfl (hI.wf.r rfl) rfl rfl ?_
      refine ev_loc f_X12_waitingShips (nx := 21) rfl rfl rfl rfl ?_
      refine ev_getR f_X12_waitingShips (nx := 24) rfl (hI.wf.s rfl) rfl rfl (hI.wf.r rfl) rfl rfl ?_
      refine ev_loc f_X12_waitingShips (nx := 25) rfl rfl rfl rfl ?_
      refine ev_ialdT f_X12_waitingShips (nx := 26) rfl (hI.wf.s rfl) l3_2 (by decide) u7 (by decide) rfl (fun w9 e9 => ?_)
      obtain ⟨l9, u9⟩ := hI.abi e9 (by decide +kernel : t_abr 90 0 5 0 5 = true) l3_2 (by decide) u7 (by decide)
      refine ev_baldT f_X12_waitingShips (nx := 27) rfl (hI.wf.s rfl) rfl l9 (by decide) u9 (by decide) rfl (fun w10 e10 => ?_)
      obtain ⟨l10, u10⟩ := hI.abi e10 (by decide +kernel : t_abr 99 0 5 0 1 = true) l9 (by decide) u9 (by decide)
      refine ev_if f_X12_waitingShips (t1 := 30) (t2 := 52) rfl rfl rfl (fun h11 => ?_) (fun h11 => ?_)
      · have u12 : w10.toInt ≤ 0 := t_equ h11 (by decide : (0:Int32).toInt ≤ (0:Int))
        refine ev_loc f_X12_waitingShips (nx := 31) rfl rfl rfl rfl ?_
        refine ev_getR f_X12_waitingShips (nx := 34) rfl (hI.wf.s rfl) rfl rfl (hI.wf.r rfl) rfl rfl ?_
        refine ev_loc f_X12_waitingShips (nx := 35) rfl rfl rfl rfl ?_
        refine ev_getR f_X12_waitingShips (nx := 38) rfl (hI.wf.s rfl) rfl rfl (hI.wf.r rfl) rfl rfl ?_
        refine ev_loc f_X12_waitingShips (nx := 39) rfl rfl rfl rfl ?_
        refine ev_ialdT f_X12_waitingShips (nx := 40) rfl (hI.wf.s rfl) l3_2 (by decide) u7 (by decide) rfl (fun w13 e13 => ?_)
        rw [e13.trans e9.symm]
        refine ev_ialdT f_X12_waitingShips (nx := 41) rfl (hI.wf.s rfl) l9 (by decide) u9 (by decide) rfl (fun w14 e14 => ?_)
        refine ev_loc f_X12_waitingShips (nx := 42) rfl rfl rfl rfl ?_
        refine ev_getI f_X12_waitingShips (nx := 45) rfl (hI.wf.s rfl) rfl rfl rfl ?_
        obtain ⟨l15, u15⟩ := hI.b (hI.wf.s (k := 69) rfl) (t_bdK rfl : t_bd 11 59 = some (0, 301))
        refine ev_if f_X12_waitingShips (t1 := 52) (t2 := 48) rfl rfl rfl (fun h16 => ?_) (fun h16 => ?_)
        · have r17 : (gi3 69 59).toInt < w14.toInt := Int32.lt_iff_toInt_lt.mp h16
          have l18 : 1 ≤ w14.toInt := t_ltl h16 l15 rfl
          refine ev_ic f_X12_waitingShips (nx := 53) (v := 0) rfl (by decide) rfl ?_
          refine ev_addC f_X12_waitingShips (nx := 54) (c := 0) (l := 0) (u := 6) rfl (by decide) l3_1 u3_1 rfl rfl (by decide) (by decide) rfl (fun z19 e19 l19 u19 => ?_)
          refine ev_loc f_X12_waitingShips (nx := 55) (lo' := [(1, .int z19), (2, .int y3_2), (0, .ref 69)]) rfl rfl rfl rfl ?_
          refine ev_incR f_X12_waitingShips (nx := 58) (c := 1) (l := 1) (u := 6) rfl rfl (by decide) (by decide) l3_2 u7 rfl rfl (by decide) (by decide) rfl (fun z20 e20 l20 u20 => ?_)
          refine ev_jmp f_X12_waitingShips (nx := 7) rfl rfl rfl ?_
          refine ev_sub (lo := [(2, .int z20), (1, .int z19), (0, .ref 69)]) rfl (t_sc rfl (t_sc rfl (t_sc rfl t_sn))) ?_
          exact ih3 _ (by omega) gi3 gl3 gr3 (z20) (z19) hI hX  (Int.le_trans (by decide : (0:Int) ≤ 1) l20) u20 l19 u19 c3_0 c3_1 (by omega) (fun hle => (by
                                                            obtain ⟨h1, h2, h3⟩ := j3_1 hle
                                                            have eg : gi3 = gi := funext fun c => funext fun j => (hX.1 c j rfl).1
                                                            have c_y3_2 := t_clamp (i := y3_2) (by omega)
                                                            have hs : t_si gi3 y3_2.toInt.toNat = w9.toInt.toNat := by unfold t_si; rw [e9, show y3_2.toNatClampNeg = y3_2.toInt.toNat by omega]
                                                            have c_w9 := t_clamp (i := w9) (by omega)
                                                            have hk : s_cu (s_mwk gi) z20.toInt.toNat = s_cu (s_mwk gi) y3_2.toInt.toNat + s_mwk gi y3_2.toInt.toNat := by rw [show z20.toInt.toNat = y3_2.toInt.toNat + 1 by omega]; rfl
                                                            have hg : (gi3 99 (t_si gi3 y3_2.toInt.toNat)).toInt = w10.toInt := by rw [hs, e10, show w9.toNatClampNeg = w9.toInt.toNat by omega]
                                                            have ha : t_sa gi3 y3_2.toInt.toNat = w14.toInt := by unfold t_sa; rw [hs, e14, show w9.toNatClampNeg = w9.toInt.toNat by omega]
                                                            have hf : s_mwk gi y3_2.toInt.toNat = 0 := by rw [← eg]; unfold s_mwk; rw [hg, ha, if_neg (fun hh => by have := hh.1; have h9 := hh.2; omega)]
                                                            rw [hf] at hk
                                                            exact ⟨by omega, by omega, by omega⟩)) rfl
        · have r21 : w14.toInt ≤ (gi3 69 59).toInt := Int32.le_iff_toInt_le.mp (t_nlt h16)
          have u22 : w14.toInt ≤ 301 := t_leu (t_nlt h16) u15
          refine ev_ic f_X12_waitingShips (nx := 49) (v := 1) rfl (by decide) rfl ?_
          refine ev_jmp f_X12_waitingShips (nx := 53) rfl rfl rfl ?_
          refine ev_addC f_X12_waitingShips (nx := 54) (c := 1) (l := 1) (u := 7) rfl (by decide) l3_1 u3_1 rfl rfl (by decide) (by decide) rfl (fun z23 e23 l23 u23 => ?_)
          refine ev_loc f_X12_waitingShips (nx := 55) (lo' := [(1, .int z23), (2, .int y3_2), (0, .ref 69)]) rfl rfl rfl rfl ?_
          refine ev_incR f_X12_waitingShips (nx := 58) (c := 1) (l := 1) (u := 6) rfl rfl (by decide) (by decide) l3_2 u7 rfl rfl (by decide) (by decide) rfl (fun z24 e24 l24 u24 => ?_)
          refine ev_jmp f_X12_waitingShips (nx := 7) rfl rfl rfl ?_
          refine ev_sub (lo := [(2, .int z24), (1, .int z23), (0, .ref 69)]) rfl (t_sc rfl (t_sc rfl (t_sc rfl t_sn))) ?_
          exact ih3 _ (by omega) gi3 gl3 gr3 (z24) (z23) hI hX  (Int.le_trans (by decide : (0:Int) ≤ 1) l24) u24 (Int.le_trans (by decide : (0:Int) ≤ 1) l23) (by omega : z23.toInt ≤ (6:Int)) c3_0 c3_1 (by omega) (fun hle => (by
                                                            obtain ⟨h1, h2, h3⟩ := j3_1 hle
                                                            have eg : gi3 = gi := funext fun c => funext fun j => (hX.1 c j rfl).1
                                                            have c_y3_2 := t_clamp (i := y3_2) (by omega)
                                                            have hs : t_si gi3 y3_2.toInt.toNat = w9.toInt.toNat := by unfold t_si; rw [e9, show y3_2.toNatClampNeg = y3_2.toInt.toNat by omega]
                                                            have c_w9 := t_clamp (i := w9) (by omega)
                                                            have hk : s_cu (s_mwk gi) z24.toInt.toNat = s_cu (s_mwk gi) y3_2.toInt.toNat + s_mwk gi y3_2.toInt.toNat := by rw [show z24.toInt.toNat = y3_2.toInt.toNat + 1 by omega]; rfl
                                                            have hg : (gi3 99 (t_si gi3 y3_2.toInt.toNat)).toInt = w10.toInt := by rw [hs, e10, show w9.toNatClampNeg = w9.toInt.toNat by omega]
                                                            have ha : t_sa gi3 y3_2.toInt.toNat = w14.toInt := by unfold t_sa; rw [hs, e14, show w9.toNatClampNeg = w9.toInt.toNat by omega]
                                                            have hf : s_mwk gi y3_2.toInt.toNat = 1 := by rw [← eg]; unfold s_mwk; rw [hg, ha, if_pos ⟨by omega, by omega⟩]
                                                            rw [hf] at hk
                                                            exact ⟨by omega, by omega, by omega⟩)) rfl
      · have r25 : w10.toInt ≠ 0 := fun e => h11 (Int32.toInt_inj.mp (e.trans (by decide : (0:Int) = (0 : Int32).toInt)))
        have l26 : 1 ≤ w10.toInt := t_nel h11 l10 rfl rfl
        refine ev_ic f_X12_waitingShips (nx := 53) (v := 0) rfl (by decide) rfl ?_
        refine ev_addC f_X12_waitingShips (nx := 54) (c := 0) (l := 0) (u := 6) rfl (by decide) l3_1 u3_1 rfl rfl (by decide) (by decide) rfl (fun z27 e27 l27 u27 => ?_)
        refine ev_loc f_X12_waitingShips (nx := 55) (lo' := [(1, .int z27), (2, .int y3_2), (0, .ref 69)]) rfl rfl rfl rfl ?_
        refine ev_incR f_X12_waitingShips (nx := 58) (c := 1) (l := 1) (u := 6) rfl rfl (by decide) (by decide) l3_2 u7 rfl rfl (by decide) (by decide) rfl (fun z28 e28 l28 u28 => ?_)
        refine ev_jmp f_X12_waitingShips (nx := 7) rfl rfl rfl ?_
        refine ev_sub (lo := [(2, .int z28), (1, .int z27), (0, .ref 69)]) rfl (t_sc rfl (t_sc rfl (t_sc rfl t_sn))) ?_
        exact ih3 _ (by omega) gi3 gl3 gr3 (z28) (z27) hI hX  (Int.le_trans (by decide : (0:Int) ≤ 1) l28) u28 l27 u27 c3_0 c3_1 (by omega) (fun hle => (by
                                                            obtain ⟨h1, h2, h3⟩ := j3_1 hle
                                                            have eg : gi3 = gi := funext fun c => funext fun j => (hX.1 c j rfl).1
                                                            have c_y3_2 := t_clamp (i := y3_2) (by omega)
                                                            have hs : t_si gi3 y3_2.toInt.toNat = w9.toInt.toNat := by unfold t_si; rw [e9, show y3_2.toNatClampNeg = y3_2.toInt.toNat by omega]
                                                            have c_w9 := t_clamp (i := w9) (by omega)
                                                            have hk : s_cu (s_mwk gi) z28.toInt.toNat = s_cu (s_mwk gi) y3_2.toInt.toNat + s_mwk gi y3_2.toInt.toNat := by rw [show z28.toInt.toNat = y3_2.toInt.toNat + 1 by omega]; rfl
                                                            have hg : (gi3 99 (t_si gi3 y3_2.toInt.toNat)).toInt = w10.toInt := by rw [hs, e10, show w9.toNatClampNeg = w9.toInt.toNat by omega]
                                                            have hf : s_mwk gi y3_2.toInt.toNat = 0 := by rw [← eg]; unfold s_mwk; rw [hg, if_neg (fun hh => by have := hh.1; omega)]
                                                            rw [hf] at hk
                                                            exact ⟨by omega, by omega, by omega⟩)) rfl
  refine ev_sub (lo := [(2, .int (gi 69 64)), (1, .int 0), (0, .ref 69)]) rfl (t_sc rfl (t_sc rfl (t_sc rfl t_sn))) ?_
  exact L3 _ gi gl gr ((gi 69 64)) (0) hI hX  l2 u2 (by decide : (0:Int) ≤ (0:Int32).toInt) (Int.le_trans (by decide : (0:Int32).toInt ≤ (0:Int)) (by decide : (0:Int) ≤ 6)) rfl rfl (by have kf29 : (0 : Int32).toInt = 0 := (by decide); omega) (fun hle => ⟨by omega, by omega, by have z0 : (0 : Int32).toInt = 0 := rfl; omega⟩) rfl
noncomputable def wl_e_waitingCarts : List (Nat × Nat) := []
noncomputable def Q_e_waitingCarts (gi : Nat → Nat → Int32) (gl : Nat → Nat → Int64) (gr : Nat → Nat → Value) : Int32 → (Nat → Nat → Int32) → (Nat → Nat → Int64) → (Nat → Nat → Value) → Prop := fun (v : Int32) (gi2 : Nat → Nat → Int32) (gl2 : Nat → Nat → Int64) (gr2 : Nat → Nat → Value) => ((gi 69 65).toInt ≤ (gi 69 45).toInt → v.toInt = s_mc gi)
theorem c_e_waitingCarts {X : x_Ext} {d : Nat} {sh : List (Nat ⊕ (Nat × Nat))} {gi : Nat → Nat → Int32} {gl : Nat → Nat → Int64} {gr : Nat → Nat → Value} (hI : t_I sh gi gr) : x_Me X (d + 1) n_X12_waitingCarts [.ref 69] (sh, gi, gl, gr) (t_PI wl_e_waitingCarts sh gi gl gr 0 6 (Q_e_waitingCarts gi gl gr)) := by
  have hX : t_X wl_e_waitingCarts sh gi gl gr gi gl gr := t_X.rf
  refine me_i f_X12_waitingCarts (hI.wf.s rfl) rfl rfl rfl ?_
  obtain ⟨l1, u1⟩ := hI.b (hI.wf.s (k := 69) rfl) (t_bdK rfl : t_bd 11 45 = some (0, 6))
  obtain ⟨l2, u2⟩ := hI.b (hI.wf.s (k := 69) rfl) (t_bdK rfl : t_bd 11 65 = some (0, 6))
  refine ev_ic f_X12_waitingCarts (nx := 1) (v := 0) rfl (by decide) rfl ?_
  refine ev_loc f_X12_waitingCarts (nx := 2) (lo' := [(1, .int 0), (0, .ref 69)]) rfl rfl rfl rfl ?_
  refine ev_loc f_X12_waitingCarts (nx := 3) rfl rfl rfl rfl ?_
  refine ev_gvI f_X12_waitingCarts (nx := 6) (w := (gi 69 65)) rfl (hI.wf.s rfl) rfl rfl rfl rfl ?_
  refine ev_loc f_X12_waitingCarts (nx := 7) (lo' := [(2, .int (gi 69 65)), (1, .int 0), (0, .ref 69)]) rfl rfl rfl rfl ?_
  have L3 : ∀ (m3 : Nat) (gi3 : Nat → Nat → Int32) (gl3 : Nat → Nat → Int64) (gr3 : Nat → Nat → Value) (y3_2 : Int32) (y3_1 : Int32), t_I sh gi3 gr3 → t_X wl_e_waitingCarts sh gi gl gr gi3 gl3 gr3 → 0 ≤ y3_2.toInt → y3_2.toInt ≤ 6 → 0 ≤ y3_1.toInt → y3_1.toInt ≤ 6 → gi3 69 45 = (gi 69 45) → gi3 69 65 = (gi 69 65) → y3_1.toInt ≤ y3_2.toInt → ((gi 69 65).toInt ≤ (gi 69 45).toInt → (gi 69 65).toInt ≤ y3_2.toInt ∧ y3_2.toInt ≤ (gi 69 45).toInt ∧ y3_1.toInt = s_cu (s_mck gi) y3_2.toInt.toNat - s_cu (s_mck gi) (gi 69 65).toInt.toNat) → (6 - y3_2.toInt).toNat = m3 → x_Ev X (d + 1) n_X12_waitingCarts 7 [(2, .int y3_2), (1, .int y3_1), (0, .ref 69)] [] (sh, gi3, gl3, gr3) (t_PI wl_e_waitingCarts sh gi gl gr 0 6 (Q_e_waitingCarts gi gl gr)) := by
    intro m3
    induction m3 using Nat.strongRecOn with
    | _ m3 ih3 =>
    intro gi3 gl3 gr3 y3_2 y3_1 hI hX l3_2 u3_2 l3_1 u3_1 c3_0 c3_1 j3_0 j3_1 hm3
    refine ev_loc f_X12_waitingCarts (nx := 8) rfl rfl rfl rfl ?_
    refine ev_loc f_X12_waitingCarts (nx := 9) rfl rfl rfl rfl ?_
    refine ev_gvI f_X12_waitingCarts (nx := 12) (w := (gi 69 45)) rfl (hI.wf.s rfl) rfl rfl c3_0 rfl ?_
    refine ev_if f_X12_waitingCarts (t1 := 50) (t2 := 15) rfl rfl rfl (fun h4 => ?_) (fun h4 => ?_)
    · have r5 : (gi 69 45).toInt ≤ y3_2.toInt := Int32.le_iff_toInt_le.mp h4
      refine ev_loc f_X12_waitingCarts (nx := 51) rfl rfl rfl rfl ?_
      exact ev_ret f_X12_waitingCarts rfl rfl rfl ⟨_, _, _, rfl, hI, hX, ⟨_, rfl, l3_1, u3_1, (show ((gi 69 65).toInt ≤ (gi 69 45).toInt → y3_1.toInt = s_mc gi) from (fun hle => (by
                                                            obtain ⟨h1, h2, h3⟩ := j3_1 hle
                                                            have eg : gi3 = gi := funext fun c => funext fun j => (hX.1 c j rfl).1
                                                            have em : (gi3 69 45).toInt = (gi 69 45).toInt := by rw [eg]
                                                            have h4 : y3_2.toInt.toNat = (gi 69 45).toInt.toNat := by omega
                                                            rw [h4] at h3
                                                            exact h3)))⟩⟩
    · have r6 : y3_2.toInt < (gi 69 45).toInt := Int32.lt_iff_toInt_lt.mp (t_nle h4)
      have u7 : y3_2.toInt ≤ 5 := t_ltu (t_nle h4) u1 rfl
      have l8 : 1 ≤ (gi 69 45).toInt := t_ltl (t_nle h4) l3_2 rfl
      refine ev_loc f_X12_waitingCarts (nx := 16) rfl rfl rfl rfl ?_
      refine ev_loc f_X12_waitingCarts (nx := 17) rfl rfl rfl rfl ?_
      refine ev_getR f_X12_waitingCarts (nx := 20) rfl (hI.wf.s rfl) rfl rfl (hI.wf.r rfl) rfl rfl ?_
      refine ev_bp f_X12_waitingCarts (nx := 22) (v := 6) rfl (by decide) rfl ?_
      refine ev_loc f_X12_waitingCarts (nx := 23) rfl rfl rfl rfl ?_
      refine ev_getR f_X12_waitingCarts (nx := 26) rfl (hI.wf.s rfl) rfl rfl (hI.wf.r rfl) rfl rfl ?_
      refine ev_loc f_X12_waitingCarts (nx := 27) rfl rfl rfl rfl ?_
      refine ev_ialdT f_X12_waitingCarts (nx := 28) rfl (hI.wf.s rfl) l3_2 (by decide) u7 (by decide) rfl (fun w9 e9 => ?_)
      obtain ⟨l9, u9⟩ := hI.abi e9 (by decide +kernel : t_abr 91 0 5 0 5 = true) l3_2 (by decide) u7 (by decide)
      refine ev_addK f_X12_waitingCarts (nx := 29) (c := 6) (l := 6) (u := 11) rfl (by decide) l9 u9 rfl rfl (by decide) (by decide) rfl (fun z10 e10 l10 u10 => ?_)
      refine ev_ialdT f_X12_waitingCarts (nx := 30) rfl (hI.wf.s rfl) l10 (by decide) u10 (by decide) rfl (fun w11 e11 => ?_)
      refine ev_loc f_X12_waitingCarts (nx := 31) rfl rfl rfl rfl ?_
      refine ev_getI f_X12_waitingCarts (nx := 34) rfl (hI.wf.s rfl) rfl rfl rfl ?_
      obtain ⟨l12, u12⟩ := hI.b (hI.wf.s (k := 69) rfl) (t_bdK rfl : t_bd 11 59 = some (0, 301))
      refine ev_if f_X12_waitingCarts (t1 := 41) (t2 := 37) rfl rfl rfl (fun h13 => ?_) (fun h13 => ?_)
      · have r14 : (gi3 69 59).toInt < w11.toInt := Int32.lt_iff_toInt_lt.mp h13
        have l15 : 1 ≤ w11.toInt := t_ltl h13 l12 rfl
        refine ev_ic f_X12_waitingCarts (nx := 42) (v := 0) rfl (by decide) rfl ?_
        refine ev_addC f_X12_waitingCarts (nx := 43) (c := 0) (l := 0) (u := 6) rfl (by decide) l3_1 u3_1 rfl rfl (by decide) (by decide) rfl (fun z16 e16 l16 u16 => ?_)
        refine ev_loc f_X12_waitingCarts (nx := 44) (lo' := [(1, .int z16), (2, .int y3_2), (0, .ref 69)]) rfl rfl rfl rfl ?_
        refine ev_incR f_X12_waitingCarts (nx := 47) (c := 1) (l := 1) (u := 6) rfl rfl (by decide) (by decide) l3_2 u7 rfl rfl (by decide) (by decide) rfl (fun z17 e17 l17 u17 => ?_)
        refine ev_jmp f_X12_waitingCarts (nx := 7) rfl rfl rfl ?_
        refine ev_sub (lo := [(2, .int z17), (1, .int z16), (0, .ref 69)]) rfl (t_sc rfl (t_sc rfl (t_sc rfl t_sn))) ?_
        exact ih3 _ (by omega) gi3 gl3 gr3 (z17) (z16) hI hX  (Int.le_trans (by decide : (0:Int) ≤ 1) l17) u17 l16 u16 c3_0 c3_1 (by omega) (fun hle => (by
                                                            obtain ⟨h1, h2, h3⟩ := j3_1 hle
                                                            have eg : gi3 = gi := funext fun c => funext fun j => (hX.1 c j rfl).1
                                                            have c_y3_2 := t_clamp (i := y3_2) (by omega)
                                                            have hs : t_ci gi3 y3_2.toInt.toNat = w9.toInt.toNat := by unfold t_ci; rw [e9, show y3_2.toNatClampNeg = y3_2.toInt.toNat by omega]
                                                            have c_w9 := t_clamp (i := w9) (by omega)
                                                            have hk : s_cu (s_mck gi) z17.toInt.toNat = s_cu (s_mck gi) y3_2.toInt.toNat + s_mck gi y3_2.toInt.toNat := by rw [show z17.toInt.toNat = y3_2.toInt.toNat + 1 by omega]; rfl
                                                            have c_z10 := t_clamp (i := z10) (by omega)
                                                            have ha : t_ca gi3 y3_2.toInt.toNat = w11.toInt := by unfold t_ca; rw [hs, e11, show z10.toNatClampNeg = 6 + w9.toInt.toNat by omega]
                                                            have hf : s_mck gi y3_2.toInt.toNat = 0 := by rw [← eg]; unfold s_mck; rw [ha, if_neg (by omega)]
                                                            rw [hf] at hk
                                                            exact ⟨by omega, by omega, by omega⟩)) rfl
      · have r18 : w11.toInt ≤ (gi3 69 59).toInt := Int32.le_iff_toInt_le.mp (t_nlt h13)
        have u19 : w11.toInt ≤ 301 := t_leu (t_nlt h13) u12
        refine ev_ic f_X12_waitingCarts (nx := 38) (v := 1) rfl (by decide) rfl ?_
        refine ev_jmp f_X12_waitingCarts (nx := 42) rfl rfl rfl ?_
        refine ev_addC f_X12_waitingCarts (nx := 43) (c := 1) (l := 1) (u := 7) rfl (by decide) l3_1 u3_1 rfl rfl (by decide) (by decide) rfl (fun z20 e20 l20 u20 => ?_)
        refine ev_loc f_X12_waitingCarts (nx := 44) (lo' := [(1, .int z20), (2, .int y3_2), (0, .ref 69)]) rfl rfl rfl rfl ?_
        refine ev_incR f_X12_waitingCarts (nx := 47) (c := 1) (l := 1) (u := 6) rfl rfl (by decide) (by decide) l3_2 u7 rfl rfl (by decide) (by decide) rfl (fun z21 e21 l21 u21 => ?_)
        refine ev_jmp f_X12_waitingCarts (nx := 7) rfl rfl rfl ?_
        refine ev_sub (lo := [(2, .int z21), (1, .int z20), (0, .ref 69)]) rfl (t_sc rfl (t_sc rfl (t_sc rfl t_sn))) ?_
        exact ih3 _ (by omega) gi3 gl3 gr3 (z21) (z20) hI hX  (Int.le_trans (by decide : (0:Int) ≤ 1) l21) u21 (Int.le_trans (by decide : (0:Int) ≤ 1) l20) (by omega : z20.toInt ≤ (6:Int)) c3_0 c3_1 (by omega) (fun hle => (by
                                                            obtain ⟨h1, h2, h3⟩ := j3_1 hle
                                                            have eg : gi3 = gi := funext fun c => funext fun j => (hX.1 c j rfl).1
                                                            have c_y3_2 := t_clamp (i := y3_2) (by omega)
                                                            have hs : t_ci gi3 y3_2.toInt.toNat = w9.toInt.toNat := by unfold t_ci; rw [e9, show y3_2.toNatClampNeg = y3_2.toInt.toNat by omega]
                                                            have c_w9 := t_clamp (i := w9) (by omega)
                                                            have hk : s_cu (s_mck gi) z21.toInt.toNat = s_cu (s_mck gi) y3_2.toInt.toNat + s_mck gi y3_2.toInt.toNat := by rw [show z21.toInt.toNat = y3_2.toInt.toNat + 1 by omega]; rfl
                                                            have c_z10 := t_clamp (i := z10) (by omega)
                                                            have ha : t_ca gi3 y3_2.toInt.toNat = w11.toInt := by unfold t_ca; rw [hs, e11, show z10.toNatClampNeg = 6 + w9.toInt.toNat by omega]
                                                            have hf : s_mck gi y3_2.toInt.toNat = 1 := by rw [← eg]; unfold s_mck; rw [ha, if_pos (by omega)]
                                                            rw [hf] at hk
                                                            exact ⟨by omega, by omega, by omega⟩)) rfl
  refine ev_sub (lo := [(2, .int (gi 69 65)), (1, .int 0), (0, .ref 69)]) rfl (t_sc rfl (t_sc rfl (t_sc rfl t_sn))) ?_
  exact L3 _ gi gl gr ((gi 69 65)) (0) hI hX  l2 u2 (by decide : (0:Int) ≤ (0:Int32).toInt) (Int.le_trans (by decide : (0:Int32).toInt ≤ (0:Int)) (by decide : (0:Int) ≤ 6)) rfl rfl (by have kf22 : (0 : Int32).toInt = 0 := (by decide); omega) (fun hle => ⟨by omega, by omega, by have z0 : (0 : Int32).toInt = 0 := rfl; omega⟩) rfl
noncomputable def wl_e_nextIn : List (Nat × Nat) := []
noncomputable def Q_e_nextIn (gi : Nat → Nat → Int32) (gl : Nat → Nat → Int64) (gr : Nat → Nat → Value) : Int32 → (Nat → Nat → Int32) → (Nat → Nat → Int64) → (Nat → Nat → Value) → Prop := fun (v : Int32) (gi2 : Nat → Nat → Int32) (gl2 : Nat → Nat → Int64) (gr2 : Nat → Nat → Value) => v.toInt = s_mx gi
theorem c_e_nextIn {X : x_Ext} {d : Nat} {sh : List (Nat ⊕ (Nat × Nat))} {gi : Nat → Nat → Int32} {gl : Nat → Nat → Int64} {gr : Nat → Nat → Value} (hI : t_I sh gi gr) : x_Me X (d + 1) n_X12_nextIn [.ref 69] (sh, gi, gl, gr) (t_PI wl_e_nextIn sh gi gl gr (-300) 2147483647 (Q_e_nextIn gi gl gr)) := by
  have hX : t_X wl_e_nextIn sh gi gl gr gi gl gr := t_X.rf
  refine me_i f_X12_nextIn (hI.wf.s rfl) rfl rfl rfl ?_
  obtain ⟨l1, u1⟩ := hI.b (hI.wf.s (k := 69) rfl) (t_bdK rfl : t_bd 11 44 = some (0, 6))
  obtain ⟨l2, u2⟩ := hI.b (hI.wf.s (k := 69) rfl) (t_bdK rfl : t_bd 11 59 = some (0, 301))
  refine ev_ic f_X12_nextIn (nx := 1) (v := 0) rfl (by decide) rfl ?_
  refine ev_loc f_X12_nextIn (nx := 2) (lo' := [(1, .int 0), (0, .ref 69)]) rfl rfl rfl rfl ?_
  have L3 : ∀ (m3 : Nat) (gi3 : Nat → Nat → Int32) (gl3 : Nat → Nat → Int64) (gr3 : Nat → Nat → Value) (y3_1 : Int32), t_I sh gi3 gr3 → t_X wl_e_nextIn sh gi gl gr gi3 gl3 gr3 → 0 ≤ y3_1.toInt → y3_1.toInt ≤ 6 → gi3 69 44 = (gi 69 44) → gi3 69 59 = (gi 69 59) → (y3_1.toInt ≤ (gi 69 44).toInt ∧ s_nx (t_sa gi) (gi 69 59).toInt (t_S gi) 0 = s_nx (t_sa gi) (gi 69 59).toInt (t_S gi - y3_1.toInt.toNat) y3_1.toInt.toNat) → (6 - y3_1.toInt).toNat = m3 → x_Ev X (d + 1) n_X12_nextIn 2 [(1, .int y3_1), (0, .ref 69)] [] (sh, gi3, gl3, gr3) (t_PI wl_e_nextIn sh gi gl gr (-300) 2147483647 (Q_e_nextIn gi gl gr)) := by
    intro m3
    induction m3 using Nat.strongRecOn with
    | _ m3 ih3 =>
    intro gi3 gl3 gr3 y3_1 hI hX l3_1 u3_1 c3_0 c3_1 j3_0 hm3
    refine ev_loc f_X12_nextIn (nx := 3) rfl rfl rfl rfl ?_
    refine ev_loc f_X12_nextIn (nx := 4) rfl rfl rfl rfl ?_
    refine ev_gvI f_X12_nextIn (nx := 7) (w := (gi 69 44)) rfl (hI.wf.s rfl) rfl rfl c3_0 rfl ?_
    refine ev_if f_X12_nextIn (t1 := 51) (t2 := 10) rfl rfl rfl (fun h4 => ?_) (fun h4 => ?_)
    · have r5 : (gi 69 44).toInt ≤ y3_1.toInt := Int32.le_iff_toInt_le.mp h4
      refine ev_sp f_X12_nextIn (nx := 54) (v := 300) rfl (by decide) rfl ?_
      exact ev_ret f_X12_nextIn rfl rfl rfl ⟨_, _, _, rfl, hI, hX, ⟨_, rfl, (Int.le_trans (by decide : ((-300):Int) ≤ 300) (by decide : (300:Int) ≤ (300:Int32).toInt)), (Int.le_trans (by decide : (300:Int32).toInt ≤ (300:Int)) (by decide : (300:Int) ≤ 2147483647)), (show (300 : Int) = s_mx gi from (by
                                                            obtain ⟨h1, h2⟩ := j3_0
                                                            have eg : gi3 = gi := funext fun c => funext fun j => (hX.1 c j rfl).1
                                                            have em : (gi3 69 44).toInt = (gi 69 44).toInt ∧ (gi3 69 59).toInt = (gi 69 59).toInt := by rw [eg]; exact ⟨rfl, rfl⟩
                                                            show _ = s_nx _ _ _ _
                                                            rw [h2, show t_S gi - y3_1.toInt.toNat = 0 by unfold t_S; omega]; rfl))⟩⟩
    · have r6 : y3_1.toInt < (gi 69 44).toInt := Int32.lt_iff_toInt_lt.mp (t_nle h4)
      have u7 : y3_1.toInt ≤ 5 := t_ltu (t_nle h4) u1 rfl
      have l8 : 1 ≤ (gi 69 44).toInt := t_ltl (t_nle h4) l3_1 rfl
      refine ev_loc f_X12_nextIn (nx := 11) rfl rfl rfl rfl ?_
      refine ev_getR f_X12_nextIn (nx := 14) rfl (hI.wf.s rfl) rfl rfl (hI.wf.r rfl) rfl rfl ?_
      refine ev_loc f_X12_nextIn (nx := 15) rfl rfl rfl rfl ?_
      refine ev_getR f_X12_nextIn (nx := 18) rfl (hI.wf.s rfl) rfl rfl (hI.wf.r rfl) rfl rfl ?_
      refine ev_loc f_X12_nextIn (nx := 19) rfl rfl rfl rfl ?_
      refine ev_ialdT f_X12_nextIn (nx := 20) rfl (hI.wf.s rfl) l3_1 (by decide) u7 (by decide) rfl (fun w9 e9 => ?_)
      obtain ⟨l9, u9⟩ := hI.abi e9 (by decide +kernel : t_abr 90 0 5 0 5 = true) l3_1 (by decide) u7 (by decide)
      refine ev_ialdT f_X12_nextIn (nx := 21) rfl (hI.wf.s rfl) l9 (by decide) u9 (by decide) rfl (fun w10 e10 => ?_)
      refine ev_loc f_X12_nextIn (nx := 22) rfl rfl rfl rfl ?_
      refine ev_gvI f_X12_nextIn (nx := 25) (w := (gi 69 59)) rfl (hI.wf.s rfl) rfl rfl c3_1 rfl ?_
      refine ev_if f_X12_nextIn (t1 := 45) (t2 := 28) rfl rfl rfl (fun h11 => ?_) (fun h11 => ?_)
      · have r12 : w10.toInt ≤ (gi 69 59).toInt := Int32.le_iff_toInt_le.mp h11
        have u13 : w10.toInt ≤ 301 := t_leu h11 u2
        refine ev_incR f_X12_nextIn (nx := 48) (c := 1) (l := 1) (u := 6) rfl rfl (by decide) (by decide) l3_1 u7 rfl rfl (by decide) (by decide) rfl (fun z14 e14 l14 u14 => ?_)
        refine ev_jmp f_X12_nextIn (nx := 2) rfl rfl rfl ?_
        refine ev_sub (lo := [(1, .int z14), (0, .ref 69)]) rfl (t_sc rfl (t_sc rfl t_sn)) ?_
        exact ih3 _ (by omega) gi3 gl3 gr3 (z14) hI hX  (Int.le_trans (by decide : (0:Int) ≤ 1) l14) u14 c3_0 c3_1 (by
                                                            obtain ⟨h1, h2⟩ := j3_0
                                                            have eg : gi3 = gi := funext fun c => funext fun j => (hX.1 c j rfl).1
                                                            have c_y3_1 := t_clamp (i := y3_1) (by omega)
                                                            have hs : t_si gi3 y3_1.toInt.toNat = w9.toInt.toNat := by unfold t_si; rw [e9, show y3_1.toNatClampNeg = y3_1.toInt.toNat by omega]
                                                            have c_w9 := t_clamp (i := w9) (by omega)
                                                            have ha : t_sa gi y3_1.toInt.toNat = w10.toInt := by rw [← eg]; unfold t_sa; rw [hs, e10, show w9.toNatClampNeg = w9.toInt.toNat by omega]
                                                            have em : (gi3 69 44).toInt = (gi 69 44).toInt ∧ (gi3 69 59).toInt = (gi 69 59).toInt := by rw [eg]; exact ⟨rfl, rfl⟩
                                                            refine ⟨by omega, h2.trans ?_⟩
                                                            rw [show t_S gi - y3_1.toInt.toNat = (t_S gi - z14.toInt.toNat) + 1 by unfold t_S; omega, show z14.toInt.toNat = y3_1.toInt.toNat + 1 by omega]
                                                            exact s_nx_n (by rw [ha]; omega)) rfl
      · have r15 : (gi 69 59).toInt < w10.toInt := Int32.lt_iff_toInt_lt.mp (t_nle h11)
        have l16 : 1 ≤ w10.toInt := t_ltl (t_nle h11) l2 rfl
        refine ev_loc f_X12_nextIn (nx := 29) rfl rfl rfl rfl ?_
        refine ev_getR f_X12_nextIn (nx := 32) rfl (hI.wf.s rfl) rfl rfl (hI.wf.r rfl) rfl rfl ?_
        refine ev_loc f_X12_nextIn (nx := 33) rfl rfl rfl rfl ?_
        refine ev_getR f_X12_nextIn (nx := 36) rfl (hI.wf.s rfl) rfl rfl (hI.wf.r rfl) rfl rfl ?_
        refine ev_loc f_X12_nextIn (nx := 37) rfl rfl rfl rfl ?_
        refine ev_ialdT f_X12_nextIn (nx := 38) rfl (hI.wf.s rfl) l3_1 (by decide) u7 (by decide) rfl (fun w17 e17 => ?_)
        rw [e17.trans e9.symm]
        refine ev_ialdT f_X12_nextIn (nx := 39) rfl (hI.wf.s rfl) l9 (by decide) u9 (by decide) rfl (fun w18 e18 => ?_)
        rw [e18.trans e10.symm]
        refine ev_loc f_X12_nextIn (nx := 40) rfl rfl rfl rfl ?_
        refine ev_gvI f_X12_nextIn (nx := 43) (w := (gi 69 59)) rfl (hI.wf.s rfl) rfl rfl c3_1 rfl ?_
        refine ev_subR f_X12_nextIn (nx := 44) (l := (-300)) (u := 2147483647) rfl l16 (t_hi w10) l2 u2 rfl rfl (by decide) (by decide) rfl (fun z19 e19 l19 u19 => ?_)
        exact ev_ret f_X12_nextIn rfl rfl rfl ⟨_, _, _, rfl, hI, hX, ⟨_, rfl, l19, u19, (show z19.toInt = s_mx gi from (by
                                                            obtain ⟨h1, h2⟩ := j3_0
                                                            have eg : gi3 = gi := funext fun c => funext fun j => (hX.1 c j rfl).1
                                                            have em : (gi3 69 44).toInt = (gi 69 44).toInt ∧ (gi3 69 59).toInt = (gi 69 59).toInt := by rw [eg]; exact ⟨rfl, rfl⟩
                                                            have c_y3_1 := t_clamp (i := y3_1) (by omega)
                                                            have hs : t_si gi3 y3_1.toInt.toNat = w9.toInt.toNat := by unfold t_si; rw [e9, show y3_1.toNatClampNeg = y3_1.toInt.toNat by omega]
                                                            have c_w9 := t_clamp (i := w9) (by omega)
                                                            have ha : t_sa gi y3_1.toInt.toNat = w10.toInt := by rw [← eg]; unfold t_sa; rw [hs, e10, show w9.toNatClampNeg = w9.toInt.toNat by omega]
                                                            show _ = s_nx _ _ _ _
                                                            rw [h2, show t_S gi - y3_1.toInt.toNat = (t_S gi - (y3_1.toInt.toNat + 1)) + 1 by unfold t_S; omega, s_nx_s (by rw [ha]; omega), ha]; omega))⟩⟩
  refine ev_sub (lo := [(1, .int 0), (0, .ref 69)]) rfl (t_sc rfl (t_sc rfl t_sn)) ?_
  exact L3 _ gi gl gr (0) hI hX  (by decide : (0:Int) ≤ (0:Int32).toInt) (Int.le_trans (by decide : (0:Int32).toInt ≤ (0:Int)) (by decide : (0:Int) ≤ 6)) rfl rfl ⟨by have z0 : (0 : Int32).toInt = 0 := rfl; have hb := hI.b (hI.wf.s (k := 69) rfl) (t_bdK rfl : t_bd 11 44 = some (0, 6)); omega, rfl⟩ rfl
