/-! ===== printed by riv.py: SOUND and HEARD ===== -/
noncomputable def wl_d_heardOf : List (Nat × Nat) := []
noncomputable def Q_d_heardOf (gi : Nat → Nat → Int32) (gl : Nat → Nat → Int64) (gr : Nat → Nat → Value) (ar0 : Nat) (ar1 : Int32) : Int64 → (Nat → Nat → Int32) → (Nat → Nat → Int64) → (Nat → Nat → Value) → Prop := fun (v : Int64) (gi2 : Nat → Nat → Int32) (gl2 : Nat → Nat → Int64) (gr2 : Nat → Nat → Value) => ∀ D : s_D, t_VL gr ar0 → t_CV gi gl ar0 D → v = s_hd D ar1.toInt
theorem c_d_heardOf {X : x_Ext} {d : Nat} {sh : List (Nat ⊕ (Nat × Nat))} {gi : Nat → Nat → Int32} {gl : Nat → Nat → Int64} {gr : Nat → Nat → Value} (hI : t_I sh gi gr) (ar0 : Nat) (p_a0 : t_Rv sh gr ar0) (ar1 : Int32) : x_Me X (d + 2) n_X5_heardOf [.ref ar0, .int ar1] (sh, gi, gl, gr) (t_PL wl_d_heardOf sh gi gl gr (Q_d_heardOf gi gl gr ar0 ar1)) := by
  have hX : t_X wl_d_heardOf sh gi gl gr gi gl gr := t_X.rf
  refine me_i f_X5_heardOf p_a0.1 rfl rfl rfl ?_
  refine ev_loc f_X5_heardOf (nx := 1) rfl rfl rfl rfl ?_
  refine ev_if f_X5_heardOf (t1 := 28) (t2 := 4) rfl rfl rfl (fun h1 => ?_) (fun h1 => ?_)
  · have u2 : ar1.toInt ≤ (-1) := t_ltu h1 (by decide : (0:Int32).toInt ≤ (0:Int)) rfl
    refine ev_lc f_X5_heardOf (nx := 29) (v := 0) rfl (by decide) rfl ?_
    exact ev_ret f_X5_heardOf rfl rfl rfl ⟨_, _, _, rfl, hI, hX, ⟨_, rfl, (show ∀ D : s_D, t_VL gr ar0 → t_CV gi gl ar0 D → (0 : Int64) = s_hd D ar1.toInt from (by
                                                            intro D hl hc
                                                            have hm := hc.1.1
                                                            exact (s_hd_o (fun hh => by omega)).symm))⟩⟩
  · have l3 : 0 ≤ ar1.toInt := t_lel (t_nlt h1) (by decide : (0:Int) ≤ (0:Int32).toInt)
    refine ev_loc f_X5_heardOf (nx := 5) rfl rfl rfl rfl ?_
    refine ev_loc f_X5_heardOf (nx := 6) rfl rfl rfl rfl ?_
    refine ev_getI f_X5_heardOf (nx := 9) rfl p_a0.1 rfl rfl rfl ?_
    obtain ⟨l4, u4⟩ := hI.b p_a0.1 (t_bdK rfl : t_bd 4 0 = some (0, 6))
    refine ev_if f_X5_heardOf (t1 := 28) (t2 := 12) rfl rfl rfl (fun h5 => ?_) (fun h5 => ?_)
    · have r6 : (gi ar0 0).toInt ≤ ar1.toInt := Int32.le_iff_toInt_le.mp h5
      refine ev_lc f_X5_heardOf (nx := 29) (v := 0) rfl (by decide) rfl ?_
      exact ev_ret f_X5_heardOf rfl rfl rfl ⟨_, _, _, rfl, hI, hX, ⟨_, rfl, (show ∀ D : s_D, t_VL gr ar0 → t_CV gi gl ar0 D → (0 : Int64) = s_hd D ar1.toInt from (by
                                                            intro D hl hc
                                                            have hm := hc.1.1
                                                            exact (s_hd_o (fun hh => by omega)).symm))⟩⟩
    · have r7 : ar1.toInt < (gi ar0 0).toInt := Int32.lt_iff_toInt_lt.mp (t_nle h5)
      have u8 : ar1.toInt ≤ 5 := t_ltu (t_nle h5) u4 rfl
      have l9 : 1 ≤ (gi ar0 0).toInt := t_ltl (t_nle h5) l3 rfl
      refine ev_loc f_X5_heardOf (nx := 13) rfl rfl rfl rfl ?_
      obtain ⟨a10, e10, s10, o10⟩ := p_a0.2.2.1
      refine ev_getR f_X5_heardOf (nx := 16) rfl p_a0.1 rfl rfl e10 rfl rfl ?_
      refine ev_loc f_X5_heardOf (nx := 17) rfl rfl rfl rfl ?_
      refine ev_laldT f_X5_heardOf (nx := 18) rfl s10 l3 (by decide) u8 (by decide) rfl (fun w11 e11 => ?_)
      refine ev_loc f_X5_heardOf (nx := 19) rfl rfl rfl rfl ?_
      refine ev_getI f_X5_heardOf (nx := 22) rfl p_a0.1 rfl rfl rfl ?_
      refine ev_inS2 f_X5_heardOf (nx := 25) (lo2 := [(0, .long w11), (2, .int (gi ar0 6))]) rfl rfl rfl rfl f_X5_withEcho rfl rfl rfl rfl ?_
      refine ev_loc f_X5_withEcho (nx := 1) rfl rfl rfl rfl ?_
      refine ev_loc f_X5_withEcho (nx := 2) rfl rfl rfl rfl ?_
      refine ev_loc f_X5_withEcho (nx := 3) rfl rfl rfl rfl ?_
      refine ev_anyLE f_X5_withEcho (nx := 4) rfl rfl rfl rfl (fun z12 e12 => ?_)
      refine ev_anyLE f_X5_withEcho (nx := 5) rfl rfl rfl rfl (fun z13 e13 => ?_)
      refine ev_retK1 f_X5_withEcho rfl rfl rfl ?_
      refine ev_jmp f_X5_heardOf (nx := 29) rfl rfl rfl ?_
      exact ev_ret f_X5_heardOf rfl rfl rfl ⟨_, _, _, rfl, hI, hX, ⟨_, rfl, (show ∀ D : s_D, t_VL gr ar0 → t_CV gi gl ar0 D → z13 = s_hd D ar1.toInt from (by
                                                            intro D hl hc
                                                            have hb0 : a10 = (ar0 + 2) := (Value.ref.inj ((hl.1.2.1).symm.trans e10)).symm
                                                            subst hb0
                                                            have hm := hc.1.1
                                                            have ka := t_clamp (i := ar1) (by omega)
                                                            rw [s_hd_i (by omega) (by omega), show ar1.toInt.toNat = ar1.toNatClampNeg from (by omega)]
                                                            have hw : w11 = s_so D ar1.toNatClampNeg := by rw [e11]; exact s_so_h (hc.1.2 ar1.toNatClampNeg (by omega))
                                                            rw [← hw]
                                                            exact s_ec_e e12 e13 hc.2.1.2.2.2))⟩⟩
noncomputable def wl_d_sound : List (Nat × Nat) := [(0, 0)]
noncomputable def Q_d_sound (gi : Nat → Nat → Int32) (gl : Nat → Nat → Int64) (gr : Nat → Nat → Value) (ar1 : Int32) : Int64 → (Nat → Nat → Int32) → (Nat → Nat → Int64) → (Nat → Nat → Value) → Prop := fun (v : Int64) (gi2 : Nat → Nat → Int32) (gl2 : Nat → Nat → Int64) (gr2 : Nat → Nat → Value) => ∀ (u : Nat) (D : s_D), gr 0 6 = .ref u → t_VL gr u → t_CV gi gl u D → t_Cb D → ((0 ≤ ar1.toInt ∧ ar1.toInt < D 0) → v = s_so D ar1.toNatClampNeg) ∧ (¬ (0 ≤ ar1.toInt ∧ ar1.toInt < D 0) → v.toInt = -1)
theorem c_d_sound {X : x_Ext} {d : Nat} {sh : List (Nat ⊕ (Nat × Nat))} {gi : Nat → Nat → Int32} {gl : Nat → Nat → Int64} {gr : Nat → Nat → Value} (hI : t_I sh gi gr) (ar1 : Int32) : x_Me X (d + 2) n_X11_sound [.ref 0, .int ar1] (sh, gi, gl, gr) (t_PL wl_d_sound sh gi gl gr (Q_d_sound gi gl gr ar1)) := by
  have hX : t_X wl_d_sound sh gi gl gr gi gl gr := t_X.rf
  refine me_i f_X11_sound (hI.wf.s rfl) rfl rfl rfl ?_
  refine ev_loc f_X11_sound (nx := 1) rfl rfl rfl rfl ?_
  refine ev_loc f_X11_sound (nx := 2) rfl rfl rfl rfl ?_
  refine ev_inV2 f_X11_sound (nx := 5) (lo2 := [(0, .ref 0), (1, .int ar1)]) rfl rfl rfl rfl f_X11_isPort (hI.wf.s rfl) rfl rfl rfl rfl rfl ?_
  refine ev_loc f_X11_isPort (nx := 1) rfl rfl rfl rfl ?_
  refine ev_if f_X11_isPort (t1 := 19) (t2 := 4) rfl rfl rfl (fun h1 => ?_) (fun h1 => ?_)
  · have u2 : ar1.toInt ≤ (-1) := t_ltu h1 (by decide : (0:Int32).toInt ≤ (0:Int)) rfl
    refine ev_ic f_X11_isPort (nx := 20) (v := 0) rfl (by decide) rfl ?_
    refine ev_retK1 f_X11_isPort rfl rfl rfl ?_
    refine ev_t f_X11_sound (t1 := 24) (t2 := 8) rfl rfl rfl (by decide) ?_
    refine ev_loc f_X11_sound (nx := 25) rfl rfl rfl rfl ?_
    refine ev_ic f_X11_sound (nx := 26) (v := 1) rfl (by decide) rfl ?_
    refine ev_inV2 f_X11_sound (nx := 29) (lo2 := [(0, .ref 0), (1, .int 1)]) rfl rfl rfl rfl f_X11_refuse (hI.wf.s rfl) rfl rfl rfl rfl rfl ?_
    refine ev_loc f_X11_refuse (nx := 1) rfl rfl rfl rfl ?_
    refine ev_loc f_X11_refuse (nx := 2) rfl rfl rfl rfl ?_
    refine ev_putIT f_X11_refuse (nx := 5) rfl (hI.wf.s rfl) rfl rfl rfl (hI.put0 (hI.wf.s rfl) rfl rfl) (hX.upI rfl) (fun g3 e3 hI hX => ?_)
    refine ev_ic f_X11_refuse (nx := 6) (v := -1) rfl (by decide) rfl ?_
    refine ev_retK1 f_X11_refuse rfl rfl rfl ?_
    refine ev_aluvL f_X11_sound (nx := 30) (w := -1) rfl rfl rfl (by decide) rfl ?_
    exact ev_ret f_X11_sound rfl rfl rfl ⟨_, _, _, rfl, hI, hX, ⟨_, rfl, (show ∀ (u : Nat) (D : s_D), gr 0 6 = .ref u → t_VL gr u → t_CV gi gl u D → t_Cb D → ((0 ≤ ar1.toInt ∧ ar1.toInt < D 0) → ((-1) : Int64) = s_so D ar1.toNatClampNeg) ∧ (¬ (0 ≤ ar1.toInt ∧ ar1.toInt < D 0) → ((-1) : Int64).toInt = -1) from (by
                                                            intro u D hu hl hc hb
                                                            have hm := hc.1.1
                                                            exact ⟨fun h => absurd h (by omega), fun _ => (by decide)⟩))⟩⟩
  · have l4 : 0 ≤ ar1.toInt := t_lel (t_nlt h1) (by decide : (0:Int) ≤ (0:Int32).toInt)
    refine ev_loc f_X11_isPort (nx := 5) rfl rfl rfl rfl ?_
    refine ev_loc f_X11_isPort (nx := 6) rfl rfl rfl rfl ?_
    obtain ⟨a5, e5, p5⟩ := hI.2.2.2.1.1
    refine ev_getR f_X11_isPort (nx := 9) rfl (hI.wf.s rfl) rfl rfl e5 rfl rfl ?_
    refine ev_getI f_X11_isPort (nx := 12) rfl p5.1 rfl rfl rfl ?_
    obtain ⟨l6, u6⟩ := hI.b p5.1 (t_bdK rfl : t_bd 4 0 = some (0, 6))
    refine ev_if f_X11_isPort (t1 := 19) (t2 := 15) rfl rfl rfl (fun h7 => ?_) (fun h7 => ?_)
    · have r8 : (gi a5 0).toInt ≤ ar1.toInt := Int32.le_iff_toInt_le.mp h7
      refine ev_ic f_X11_isPort (nx := 20) (v := 0) rfl (by decide) rfl ?_
      refine ev_retK1 f_X11_isPort rfl rfl rfl ?_
      refine ev_t f_X11_sound (t1 := 24) (t2 := 8) rfl rfl rfl (by decide) ?_
      refine ev_loc f_X11_sound (nx := 25) rfl rfl rfl rfl ?_
      refine ev_ic f_X11_sound (nx := 26) (v := 1) rfl (by decide) rfl ?_
      refine ev_inV2 f_X11_sound (nx := 29) (lo2 := [(0, .ref 0), (1, .int 1)]) rfl rfl rfl rfl f_X11_refuse (hI.wf.s rfl) rfl rfl rfl rfl rfl ?_
      refine ev_loc f_X11_refuse (nx := 1) rfl rfl rfl rfl ?_
      refine ev_loc f_X11_refuse (nx := 2) rfl rfl rfl rfl ?_
      refine ev_putIT f_X11_refuse (nx := 5) rfl (hI.wf.s rfl) rfl rfl rfl (hI.put0 (hI.wf.s rfl) rfl rfl) (hX.upI rfl) (fun g9 e9 hI hX => ?_)
      refine ev_ic f_X11_refuse (nx := 6) (v := -1) rfl (by decide) rfl ?_
      refine ev_retK1 f_X11_refuse rfl rfl rfl ?_
      refine ev_aluvL f_X11_sound (nx := 30) (w := -1) rfl rfl rfl (by decide) rfl ?_
      exact ev_ret f_X11_sound rfl rfl rfl ⟨_, _, _, rfl, hI, hX, ⟨_, rfl, (show ∀ (u : Nat) (D : s_D), gr 0 6 = .ref u → t_VL gr u → t_CV gi gl u D → t_Cb D → ((0 ≤ ar1.toInt ∧ ar1.toInt < D 0) → ((-1) : Int64) = s_so D ar1.toNatClampNeg) ∧ (¬ (0 ≤ ar1.toInt ∧ ar1.toInt < D 0) → ((-1) : Int64).toInt = -1) from (by
                                                            intro u D hu hl hc hb
                                                            have ha : a5 = u := Value.ref.inj (e5.symm.trans hu)
                                                            subst ha
                                                            have hm := hc.1.1
                                                            exact ⟨fun h => absurd h (by omega), fun _ => (by decide)⟩))⟩⟩
    · have r10 : ar1.toInt < (gi a5 0).toInt := Int32.lt_iff_toInt_lt.mp (t_nle h7)
      have u11 : ar1.toInt ≤ 5 := t_ltu (t_nle h7) u6 rfl
      have l12 : 1 ≤ (gi a5 0).toInt := t_ltl (t_nle h7) l4 rfl
      refine ev_ic f_X11_isPort (nx := 16) (v := 1) rfl (by decide) rfl ?_
      refine ev_jmp f_X11_isPort (nx := 20) rfl rfl rfl ?_
      refine ev_retK1 f_X11_isPort rfl rfl rfl ?_
      refine ev_f f_X11_sound (t1 := 24) (t2 := 8) rfl rfl rfl (by decide) ?_
      refine ev_loc f_X11_sound (nx := 9) rfl rfl rfl rfl ?_
      refine ev_loc f_X11_sound (nx := 10) rfl rfl rfl rfl ?_
      refine ev_getR f_X11_sound (nx := 13) (v := .ref a5) rfl (hI.wf.s rfl) rfl rfl e5 rfl rfl ?_
      obtain ⟨a13, e13, s13, o13⟩ := p5.2.2.1
      refine ev_getR f_X11_sound (nx := 16) rfl p5.1 rfl rfl e13 rfl rfl ?_
      refine ev_loc f_X11_sound (nx := 17) rfl rfl rfl rfl ?_
      refine ev_laldT f_X11_sound (nx := 18) rfl s13 l4 (by decide) u11 (by decide) rfl (fun w14 e14 => ?_)
      refine ev_inV2 f_X11_sound (nx := 21) (lo2 := [(0, .ref 0), (1, .long w14)]) rfl rfl rfl rfl f_X11_answerLong (hI.wf.s rfl) rfl rfl rfl rfl rfl ?_
      refine ev_loc f_X11_answerLong (nx := 1) rfl rfl rfl rfl ?_
      refine ev_ic f_X11_answerLong (nx := 2) (v := 0) rfl (by decide) rfl ?_
      refine ev_putIT f_X11_answerLong (nx := 5) rfl (hI.wf.s rfl) rfl rfl rfl (hI.put0 (hI.wf.s rfl) rfl rfl) (hX.upI rfl) (fun g15 e15 hI hX => ?_)
      refine ev_loc f_X11_answerLong (nx := 6) rfl rfl rfl rfl ?_
      refine ev_retK1 f_X11_answerLong rfl rfl rfl ?_
      refine ev_jmp f_X11_sound (nx := 30) rfl rfl rfl ?_
      exact ev_ret f_X11_sound rfl rfl rfl ⟨_, _, _, rfl, hI, hX, ⟨_, rfl, (show ∀ (u : Nat) (D : s_D), gr 0 6 = .ref u → t_VL gr u → t_CV gi gl u D → t_Cb D → ((0 ≤ ar1.toInt ∧ ar1.toInt < D 0) → w14 = s_so D ar1.toNatClampNeg) ∧ (¬ (0 ≤ ar1.toInt ∧ ar1.toInt < D 0) → w14.toInt = -1) from (by
                                                            intro u D hu hl hc hb
                                                            have ha : a5 = u := Value.ref.inj (e5.symm.trans hu)
                                                            subst ha
                                                            have hb1 : (a5 + 2) = a13 := Value.ref.inj ((hl.1.2.1).symm.trans e13)
                                                            subst hb1
                                                            have hm := hc.1.1
                                                            have ka := t_clamp (i := ar1) (by omega)
                                                            refine ⟨fun _ => ?_, fun h => absurd (show _ from ⟨by omega, by omega⟩) h⟩
                                                            rw [e14]; exact s_so_h (hc.1.2 ar1.toNatClampNeg (by omega))))⟩⟩
noncomputable def wl_d_heard : List (Nat × Nat) := [(0, 0)]
noncomputable def Q_d_heard (gi : Nat → Nat → Int32) (gl : Nat → Nat → Int64) (gr : Nat → Nat → Value) (ar1 : Int32) : Int64 → (Nat → Nat → Int32) → (Nat → Nat → Int64) → (Nat → Nat → Value) → Prop := fun (v : Int64) (gi2 : Nat → Nat → Int32) (gl2 : Nat → Nat → Int64) (gr2 : Nat → Nat → Value) => ∀ (u : Nat) (D : s_D), gr 0 6 = .ref u → t_VL gr u → t_CV gi gl u D → t_Cb D → ((0 ≤ ar1.toInt ∧ ar1.toInt < D 0) → v = s_hd D ar1.toInt) ∧ (¬ (0 ≤ ar1.toInt ∧ ar1.toInt < D 0) → v.toInt = -1)
theorem c_d_heard {X : x_Ext} {d : Nat} {sh : List (Nat ⊕ (Nat × Nat))} {gi : Nat → Nat → Int32} {gl : Nat → Nat → Int64} {gr : Nat → Nat → Value} (hI : t_I sh gi gr) (ar1 : Int32) : x_Me X (d + 3) n_X11_heard [.ref 0, .int ar1] (sh, gi, gl, gr) (t_PL wl_d_heard sh gi gl gr (Q_d_heard gi gl gr ar1)) := by
  have hX : t_X wl_d_heard sh gi gl gr gi gl gr := t_X.rf
  refine me_i f_X11_heard (hI.wf.s rfl) rfl rfl rfl ?_
  refine ev_loc f_X11_heard (nx := 1) rfl rfl rfl rfl ?_
  refine ev_loc f_X11_heard (nx := 2) rfl rfl rfl rfl ?_
  refine ev_inV2 f_X11_heard (nx := 5) (lo2 := [(0, .ref 0), (1, .int ar1)]) rfl rfl rfl rfl f_X11_isPort (hI.wf.s rfl) rfl rfl rfl rfl rfl ?_
  refine ev_loc f_X11_isPort (nx := 1) rfl rfl rfl rfl ?_
  refine ev_if f_X11_isPort (t1 := 19) (t2 := 4) rfl rfl rfl (fun h1 => ?_) (fun h1 => ?_)
  · have u2 : ar1.toInt ≤ (-1) := t_ltu h1 (by decide : (0:Int32).toInt ≤ (0:Int)) rfl
    refine ev_ic f_X11_isPort (nx := 20) (v := 0) rfl (by decide) rfl ?_
    refine ev_retK1 f_X11_isPort rfl rfl rfl ?_
    refine ev_t f_X11_heard (t1 := 23) (t2 := 8) rfl rfl rfl (by decide) ?_
    refine ev_loc f_X11_heard (nx := 24) rfl rfl rfl rfl ?_
    refine ev_ic f_X11_heard (nx := 25) (v := 1) rfl (by decide) rfl ?_
    refine ev_inV2 f_X11_heard (nx := 28) (lo2 := [(0, .ref 0), (1, .int 1)]) rfl rfl rfl rfl f_X11_refuse (hI.wf.s rfl) rfl rfl rfl rfl rfl ?_
    refine ev_loc f_X11_refuse (nx := 1) rfl rfl rfl rfl ?_
    refine ev_loc f_X11_refuse (nx := 2) rfl rfl rfl rfl ?_
    refine ev_putIT f_X11_refuse (nx := 5) rfl (hI.wf.s rfl) rfl rfl rfl (hI.put0 (hI.wf.s rfl) rfl rfl) (hX.upI rfl) (fun g3 e3 hI hX => ?_)
    refine ev_ic f_X11_refuse (nx := 6) (v := -1) rfl (by decide) rfl ?_
    refine ev_retK1 f_X11_refuse rfl rfl rfl ?_
    refine ev_aluvL f_X11_heard (nx := 29) (w := -1) rfl rfl rfl (by decide) rfl ?_
    exact ev_ret f_X11_heard rfl rfl rfl ⟨_, _, _, rfl, hI, hX, ⟨_, rfl, (show ∀ (u : Nat) (D : s_D), gr 0 6 = .ref u → t_VL gr u → t_CV gi gl u D → t_Cb D → ((0 ≤ ar1.toInt ∧ ar1.toInt < D 0) → ((-1) : Int64) = s_hd D ar1.toInt) ∧ (¬ (0 ≤ ar1.toInt ∧ ar1.toInt < D 0) → ((-1) : Int64).toInt = -1) from (by
                                                            intro u D hu hl hc hb
                                                            have hm := hc.1.1
                                                            exact ⟨fun h => absurd h (by omega), fun _ => (by decide)⟩))⟩⟩
  · have l4 : 0 ≤ ar1.toInt := t_lel (t_nlt h1) (by decide : (0:Int) ≤ (0:Int32).toInt)
    refine ev_loc f_X11_isPort (nx := 5) rfl rfl rfl rfl ?_
    refine ev_loc f_X11_isPort (nx := 6) rfl rfl rfl rfl ?_
    obtain ⟨a5, e5, p5⟩ := hI.2.2.2.1.1
    refine ev_getR f_X11_isPort (nx := 9) rfl (hI.wf.s rfl) rfl rfl e5 rfl rfl ?_
    refine ev_getI f_X11_isPort (nx := 12) rfl p5.1 rfl rfl rfl ?_
    obtain ⟨l6, u6⟩ := hI.b p5.1 (t_bdK rfl : t_bd 4 0 = some (0, 6))
    refine ev_if f_X11_isPort (t1 := 19) (t2 := 15) rfl rfl rfl (fun h7 => ?_) (fun h7 => ?_)
    · have r8 : (gi a5 0).toInt ≤ ar1.toInt := Int32.le_iff_toInt_le.mp h7
      refine ev_ic f_X11_isPort (nx := 20) (v := 0) rfl (by decide) rfl ?_
      refine ev_retK1 f_X11_isPort rfl rfl rfl ?_
      refine ev_t f_X11_heard (t1 := 23) (t2 := 8) rfl rfl rfl (by decide) ?_
      refine ev_loc f_X11_heard (nx := 24) rfl rfl rfl rfl ?_
      refine ev_ic f_X11_heard (nx := 25) (v := 1) rfl (by decide) rfl ?_
      refine ev_inV2 f_X11_heard (nx := 28) (lo2 := [(0, .ref 0), (1, .int 1)]) rfl rfl rfl rfl f_X11_refuse (hI.wf.s rfl) rfl rfl rfl rfl rfl ?_
      refine ev_loc f_X11_refuse (nx := 1) rfl rfl rfl rfl ?_
      refine ev_loc f_X11_refuse (nx := 2) rfl rfl rfl rfl ?_
      refine ev_putIT f_X11_refuse (nx := 5) rfl (hI.wf.s rfl) rfl rfl rfl (hI.put0 (hI.wf.s rfl) rfl rfl) (hX.upI rfl) (fun g9 e9 hI hX => ?_)
      refine ev_ic f_X11_refuse (nx := 6) (v := -1) rfl (by decide) rfl ?_
      refine ev_retK1 f_X11_refuse rfl rfl rfl ?_
      refine ev_aluvL f_X11_heard (nx := 29) (w := -1) rfl rfl rfl (by decide) rfl ?_
      exact ev_ret f_X11_heard rfl rfl rfl ⟨_, _, _, rfl, hI, hX, ⟨_, rfl, (show ∀ (u : Nat) (D : s_D), gr 0 6 = .ref u → t_VL gr u → t_CV gi gl u D → t_Cb D → ((0 ≤ ar1.toInt ∧ ar1.toInt < D 0) → ((-1) : Int64) = s_hd D ar1.toInt) ∧ (¬ (0 ≤ ar1.toInt ∧ ar1.toInt < D 0) → ((-1) : Int64).toInt = -1) from (by
                                                            intro u D hu hl hc hb
                                                            have ha : a5 = u := Value.ref.inj (e5.symm.trans hu)
                                                            subst ha
                                                            have hm := hc.1.1
                                                            exact ⟨fun h => absurd h (by omega), fun _ => (by decide)⟩))⟩⟩
    · have r10 : ar1.toInt < (gi a5 0).toInt := Int32.lt_iff_toInt_lt.mp (t_nle h7)
      have u11 : ar1.toInt ≤ 5 := t_ltu (t_nle h7) u6 rfl
      have l12 : 1 ≤ (gi a5 0).toInt := t_ltl (t_nle h7) l4 rfl
      refine ev_ic f_X11_isPort (nx := 16) (v := 1) rfl (by decide) rfl ?_
      refine ev_jmp f_X11_isPort (nx := 20) rfl rfl rfl ?_
      refine ev_retK1 f_X11_isPort rfl rfl rfl ?_
      refine ev_f f_X11_heard (t1 := 23) (t2 := 8) rfl rfl rfl (by decide) ?_
      refine ev_loc f_X11_heard (nx := 9) rfl rfl rfl rfl ?_
      refine ev_loc f_X11_heard (nx := 10) rfl rfl rfl rfl ?_
      refine ev_getR f_X11_heard (nx := 13) (v := .ref a5) rfl (hI.wf.s rfl) rfl rfl e5 rfl rfl ?_
      refine ev_loc f_X11_heard (nx := 14) rfl rfl rfl rfl ?_
      refine ev_qL0 f_X11_heard (nx := 17) (r := [.ref 0]) rfl rfl rfl rfl rfl rfl rfl (c_d_heardOf hI (a5) p5 (ar1)) rfl (fun w13 q13 => ?_)
      have q13 : ∀ D : s_D, t_VL gr a5 → t_CV gi gl a5 D → w13 = s_hd D ar1.toInt := q13
      refine ev_inV2 f_X11_heard (nx := 20) (lo2 := [(0, .ref 0), (1, .long w13)]) rfl rfl rfl rfl f_X11_answerLong (hI.wf.s rfl) rfl rfl rfl rfl rfl ?_
      refine ev_loc f_X11_answerLong (nx := 1) rfl rfl rfl rfl ?_
      refine ev_ic f_X11_answerLong (nx := 2) (v := 0) rfl (by decide) rfl ?_
      refine ev_putIT f_X11_answerLong (nx := 5) rfl (hI.wf.s rfl) rfl rfl rfl (hI.put0 (hI.wf.s rfl) rfl rfl) (hX.upI rfl) (fun g14 e14 hI hX => ?_)
      refine ev_loc f_X11_answerLong (nx := 6) rfl rfl rfl rfl ?_
      refine ev_retK1 f_X11_answerLong rfl rfl rfl ?_
      refine ev_jmp f_X11_heard (nx := 29) rfl rfl rfl ?_
      exact ev_ret f_X11_heard rfl rfl rfl ⟨_, _, _, rfl, hI, hX, ⟨_, rfl, (show ∀ (u : Nat) (D : s_D), gr 0 6 = .ref u → t_VL gr u → t_CV gi gl u D → t_Cb D → ((0 ≤ ar1.toInt ∧ ar1.toInt < D 0) → w13 = s_hd D ar1.toInt) ∧ (¬ (0 ≤ ar1.toInt ∧ ar1.toInt < D 0) → w13.toInt = -1) from (by
                                                            intro u D hu hl hc hb
                                                            have ha : a5 = u := Value.ref.inj (e5.symm.trans hu)
                                                            subst ha
                                                            have hm := hc.1.1
                                                            refine ⟨fun _ => ?_, fun h => absurd (show _ from ⟨by omega, by omega⟩) h⟩
                                                            exact q13 D hl hc))⟩⟩
noncomputable def wl_d_together : List (Nat × Nat) := [(0, 0)]
noncomputable def Q_d_together (gi : Nat → Nat → Int32) (gl : Nat → Nat → Int64) (gr : Nat → Nat → Value) (ar1 : Int32) (ar2 : Int32) (ar3 : Int32) : Int64 → (Nat → Nat → Int32) → (Nat → Nat → Int64) → (Nat → Nat → Value) → Prop := fun (v : Int64) (gi2 : Nat → Nat → Int32) (gl2 : Nat → Nat → Int64) (gr2 : Nat → Nat → Value) => ∀ (u : Nat) (D : s_D), gr 0 6 = .ref u → t_VL gr u → t_CV gi gl u D → t_Cb D → ((0 ≤ ar1.toInt ∧ ar1.toInt < D 0 ∧ 0 ≤ ar2.toInt ∧ ar2.toInt < D 0 ∧ 0 ≤ ar3.toInt ∧ ar3.toInt ≤ 12) → v = s_hd D ar1.toInt ||| (s_hd D ar2.toInt <<< (ar3.toInt64 &&& 63))) ∧ (¬ (0 ≤ ar1.toInt ∧ ar1.toInt < D 0 ∧ 0 ≤ ar2.toInt ∧ ar2.toInt < D 0 ∧ 0 ≤ ar3.toInt ∧ ar3.toInt ≤ 12) → v.toInt = -1)
theorem c_d_together {X : x_Ext} {d : Nat} {sh : List (Nat ⊕ (Nat × Nat))} {gi : Nat → Nat → Int32} {gl : Nat → Nat → Int64} {gr : Nat → Nat → Value} (hI : t_I sh gi gr) (ar1 : Int32) (ar2 : Int32) (ar3 : Int32) : x_Me X (d + 4) n_X11_together [.ref 0, .int ar1, .int ar2, .int ar3] (sh, gi, gl, gr) (t_PL wl_d_together sh gi gl gr (Q_d_together gi gl gr ar1 ar2 ar3)) := by
  have hX : t_X wl_d_together sh gi gl gr gi gl gr := t_X.rf
  refine me_i f_X11_together (hI.wf.s rfl) rfl rfl rfl ?_
  refine ev_loc f_X11_together (nx := 1) rfl rfl rfl rfl ?_
  refine ev_loc f_X11_together (nx := 2) rfl rfl rfl rfl ?_
  refine ev_inV2 f_X11_together (nx := 5) (lo2 := [(0, .ref 0), (1, .int ar1)]) rfl rfl rfl rfl f_X11_isPort (hI.wf.s rfl) rfl rfl rfl rfl rfl ?_
  refine ev_loc f_X11_isPort (nx := 1) rfl rfl rfl rfl ?_
  refine ev_if f_X11_isPort (t1 := 19) (t2 := 4) rfl rfl rfl (fun h1 => ?_) (fun h1 => ?_)
  · have u2 : ar1.toInt ≤ (-1) := t_ltu h1 (by decide : (0:Int32).toInt ≤ (0:Int)) rfl
    refine ev_ic f_X11_isPort (nx := 20) (v := 0) rfl (by decide) rfl ?_
    refine ev_retK1 f_X11_isPort rfl rfl rfl ?_
    refine ev_t f_X11_together (t1 := 26) (t2 := 8) rfl rfl rfl (by decide) ?_
    refine ev_loc f_X11_together (nx := 27) rfl rfl rfl rfl ?_
    refine ev_ic f_X11_together (nx := 28) (v := 1) rfl (by decide) rfl ?_
    refine ev_inV2 f_X11_together (nx := 31) (lo2 := [(0, .ref 0), (1, .int 1)]) rfl rfl rfl rfl f_X11_refuse (hI.wf.s rfl) rfl rfl rfl rfl rfl ?_
    refine ev_loc f_X11_refuse (nx := 1) rfl rfl rfl rfl ?_
    refine ev_loc f_X11_refuse (nx := 2) rfl rfl rfl rfl ?_
    refine ev_putIT f_X11_refuse (nx := 5) rfl (hI.wf.s rfl) rfl rfl rfl (hI.put0 (hI.wf.s rfl) rfl rfl) (hX.upI rfl) (fun g3 e3 hI hX => ?_)
    refine ev_ic f_X11_refuse (nx := 6) (v := -1) rfl (by decide) rfl ?_
    refine ev_retK1 f_X11_refuse rfl rfl rfl ?_
    refine ev_aluvL f_X11_together (nx := 32) (w := -1) rfl rfl rfl (by decide) rfl ?_
    exact ev_ret f_X11_together rfl rfl rfl ⟨_, _, _, rfl, hI, hX, ⟨_, rfl, (show ∀ (u : Nat) (D : s_D), gr 0 6 = .ref u → t_VL gr u → t_CV gi gl u D → t_Cb D → ((0 ≤ ar1.toInt ∧ ar1.toInt < D 0 ∧ 0 ≤ ar2.toInt ∧ ar2.toInt < D 0 ∧ 0 ≤ ar3.toInt ∧ ar3.toInt ≤ 12) → ((-1) : Int64) = s_hd D ar1.toInt ||| (s_hd D ar2.toInt <<< (ar3.toInt64 &&& 63))) ∧ (¬ (0 ≤ ar1.toInt ∧ ar1.toInt < D 0 ∧ 0 ≤ ar2.toInt ∧ ar2.toInt < D 0 ∧ 0 ≤ ar3.toInt ∧ ar3.toInt ≤ 12) → ((-1) : Int64).toInt = -1) from (by
                                                            intro u D hu hl hc hb
                                                            have hm := hc.1.1
                                                            exact ⟨fun h => absurd h (by omega), fun _ => (by decide)⟩))⟩⟩
  · have l4 : 0 ≤ ar1.toInt := t_lel (t_nlt h1) (by decide : (0:Int) ≤ (0:Int32).toInt)
    refine ev_loc f_X11_isPort (nx := 5) rfl rfl rfl rfl ?_
    refine ev_loc f_X11_isPort (nx := 6) rfl rfl rfl rfl ?_
    obtain ⟨a5, e5, p5⟩ := hI.2.2.2.1.1
    refine ev_getR f_X11_isPort (nx := 9) rfl (hI.wf.s rfl) rfl rfl e5 rfl rfl ?_
    refine ev_getI f_X11_isPort (nx := 12) rfl p5.1 rfl rfl rfl ?_
    obtain ⟨l6, u6⟩ := hI.b p5.1 (t_bdK rfl : t_bd 4 0 = some (0, 6))
    refine ev_if f_X11_isPort (t1 := 19) (t2 := 15) rfl rfl rfl (fun h7 => ?_) (fun h7 => ?_)
    · have r8 : (gi a5 0).toInt ≤ ar1.toInt := Int32.le_iff_toInt_le.mp h7
      refine ev_ic f_X11_isPort (nx := 20) (v := 0) rfl (by decide) rfl ?_
      refine ev_retK1 f_X11_isPort rfl rfl rfl ?_
      refine ev_t f_X11_together (t1 := 26) (t2 := 8) rfl rfl rfl (by decide) ?_
      refine ev_loc f_X11_together (nx := 27) rfl rfl rfl rfl ?_
      refine ev_ic f_X11_together (nx := 28) (v := 1) rfl (by decide) rfl ?_
      refine ev_inV2 f_X11_together (nx := 31) (lo2 := [(0, .ref 0), (1, .int 1)]) rfl rfl rfl rfl f_X11_refuse (hI.wf.s rfl) rfl rfl rfl rfl rfl ?_
      refine ev_loc f_X11_refuse (nx := 1) rfl rfl rfl rfl ?_
      refine ev_loc f_X11_refuse (nx := 2) rfl rfl rfl rfl ?_
      refine ev_putIT f_X11_refuse (nx := 5) rfl (hI.wf.s rfl) rfl rfl rfl (hI.put0 (hI.wf.s rfl) rfl rfl) (hX.upI rfl) (fun g9 e9 hI hX => ?_)
      refine ev_ic f_X11_refuse (nx := 6) (v := -1) rfl (by decide) rfl ?_
      refine ev_retK1 f_X11_refuse rfl rfl rfl ?_
      refine ev_aluvL f_X11_together (nx := 32) (w := -1) rfl rfl rfl (by decide) rfl ?_
      exact ev_ret f_X11_together rfl rfl rfl ⟨_, _, _, rfl, hI, hX, ⟨_, rfl, (show ∀ (u : Nat) (D : s_D), gr 0 6 = .ref u → t_VL gr u → t_CV gi gl u D → t_Cb D → ((0 ≤ ar1.toInt ∧ ar1.toInt < D 0 ∧ 0 ≤ ar2.toInt ∧ ar2.toInt < D 0 ∧ 0 ≤ ar3.toInt ∧ ar3.toInt ≤ 12) → ((-1) : Int64) = s_hd D ar1.toInt ||| (s_hd D ar2.toInt <<< (ar3.toInt64 &&& 63))) ∧ (¬ (0 ≤ ar1.toInt ∧ ar1.toInt < D 0 ∧ 0 ≤ ar2.toInt ∧ ar2.toInt < D 0 ∧ 0 ≤ ar3.toInt ∧ ar3.toInt ≤ 12) → ((-1) : Int64).toInt = -1) from (by
                                                            intro u D hu hl hc hb
                                                            have ha : a5 = u := Value.ref.inj (e5.symm.trans hu)
                                                            subst ha
                                                            have hm := hc.1.1
                                                            exact ⟨fun h => absurd h (by omega), fun _ => (by decide)⟩))⟩⟩
    · have r10 : ar1.toInt < (gi a5 0).toInt := Int32.lt_iff_toInt_lt.mp (t_nle h7)
      have u11 : ar1.toInt ≤ 5 := t_ltu (t_nle h7) u6 rfl
      have l12 : 1 ≤ (gi a5 0).toInt := t_ltl (t_nle h7) l4 rfl
      refine ev_ic f_X11_isPort (nx := 16) (v := 1) rfl (by decide) rfl ?_
      refine ev_jmp f_X11_isPort (nx := 20) rfl rfl rfl ?_
      refine ev_retK1 f_X11_isPort rfl rfl rfl ?_
      refine ev_f f_X11_together (t1 := 26) (t2 := 8) rfl rfl rfl (by decide) ?_
      refine ev_loc f_X11_together (nx := 9) rfl rfl rfl rfl ?_
      refine ev_loc f_X11_together (nx := 10) rfl rfl rfl rfl ?_
      refine ev_inV2 f_X11_together (nx := 13) (lo2 := [(0, .ref 0), (1, .int ar2)]) rfl rfl rfl rfl f_X11_isPort (hI.wf.s rfl) rfl rfl rfl rfl rfl ?_
      refine ev_loc f_X11_isPort (nx := 1) rfl rfl rfl rfl ?_
      refine ev_if f_X11_isPort (t1 := 19) (t2 := 4) rfl rfl rfl (fun h13 => ?_) (fun h13 => ?_)
      · have u14 : ar2.toInt ≤ (-1) := t_ltu h13 (by decide : (0:Int32).toInt ≤ (0:Int)) rfl
        refine ev_ic f_X11_isPort (nx := 20) (v := 0) rfl (by decide) rfl ?_
        refine ev_retK1 f_X11_isPort rfl rfl rfl ?_
        refine ev_t f_X11_together (t1 := 26) (t2 := 16) rfl rfl rfl (by decide) ?_
        refine ev_loc f_X11_together (nx := 27) rfl rfl rfl rfl ?_
        refine ev_ic f_X11_together (nx := 28) (v := 1) rfl (by decide) rfl ?_
        refine ev_inV2 f_X11_together (nx := 31) (lo2 := [(0, .ref 0), (1, .int 1)]) rfl rfl rfl rfl f_X11_refuse (hI.wf.s rfl) rfl rfl rfl rfl rfl ?_
        refine ev_loc f_X11_refuse (nx := 1) rfl rfl rfl rfl ?_
        refine ev_loc f_X11_refuse (nx := 2) rfl rfl rfl rfl ?_
        refine ev_putIT f_X11_refuse (nx := 5) rfl (hI.wf.s rfl) rfl rfl rfl (hI.put0 (hI.wf.s rfl) rfl rfl) (hX.upI rfl) (fun g15 e15 hI hX => ?_)
        refine ev_ic f_X11_refuse (nx := 6) (v := -1) rfl (by decide) rfl ?_
        refine ev_retK1 f_X11_refuse rfl rfl rfl ?_
        refine ev_aluvL f_X11_together (nx := 32) (w := -1) rfl rfl rfl (by decide) rfl ?_
        exact ev_ret f_X11_together rfl rfl rfl ⟨_, _, _, rfl, hI, hX, ⟨_, rfl, (show ∀ (u : Nat) (D : s_D), gr 0 6 = .ref u → t_VL gr u → t_CV gi gl u D → t_Cb D → ((0 ≤ ar1.toInt ∧ ar1.toInt < D 0 ∧ 0 ≤ ar2.toInt ∧ ar2.toInt < D 0 ∧ 0 ≤ ar3.toInt ∧ ar3.toInt ≤ 12) → ((-1) : Int64) = s_hd D ar1.toInt ||| (s_hd D ar2.toInt <<< (ar3.toInt64 &&& 63))) ∧ (¬ (0 ≤ ar1.toInt ∧ ar1.toInt < D 0 ∧ 0 ≤ ar2.toInt ∧ ar2.toInt < D 0 ∧ 0 ≤ ar3.toInt ∧ ar3.toInt ≤ 12) → ((-1) : Int64).toInt = -1) from (by
                                                            intro u D hu hl hc hb
                                                            have ha : a5 = u := Value.ref.inj (e5.symm.trans hu)
                                                            subst ha
                                                            have hm := hc.1.1
                                                            exact ⟨fun h => absurd h (by omega), fun _ => (by decide)⟩))⟩⟩
      · have l16 : 0 ≤ ar2.toInt := t_lel (t_nlt h13) (by decide : (0:Int) ≤ (0:Int32).toInt)
        refine ev_loc f_X11_isPort (nx := 5) rfl rfl rfl rfl ?_
        refine ev_loc f_X11_isPort (nx := 6) rfl rfl rfl rfl ?_
        refine ev_getR f_X11_isPort (nx := 9) (v := .ref a5) rfl (hI.wf.s rfl) rfl rfl e5 rfl rfl ?_
        refine ev_gvI f_X11_isPort (nx := 12) (w := (gi a5 0)) rfl p5.1 rfl rfl rfl rfl ?_
        refine ev_if f_X11_isPort (t1 := 19) (t2 := 15) rfl rfl rfl (fun h17 => ?_) (fun h17 => ?_)
        · have r18 : (gi a5 0).toInt ≤ ar2.toInt := Int32.le_iff_toInt_le.mp h17
          have l19 : 1 ≤ ar2.toInt := t_lel h17 l12
          refine ev_ic f_X11_isPort (nx := 20) (v := 0) rfl (by decide) rfl ?_
          refine ev_retK1 f_X11_isPort rfl rfl rfl ?_
          refine ev_t f_X11_together (t1 := 26) (t2 := 16) rfl rfl rfl (by decide) ?_
          refine ev_loc f_X11_together (nx := 27) rfl rfl rfl rfl ?_
          refine ev_ic f_X11_together (nx := 28) (v := 1) rfl (by decide) rfl ?_
          refine ev_inV2 f_X11_together (nx := 31) (lo2 := [(0, .ref 0), (1, .int 1)]) rfl rfl rfl rfl f_X11_refuse (hI.wf.s rfl) rfl rfl rfl rfl rfl ?_
          refine ev_loc f_X11_refuse (nx := 1) rfl rfl rfl rfl ?_
          refine ev_loc f_X11_refuse (nx := 2) rfl rfl rfl rfl ?_
          refine ev_putIT f_X11_refuse (nx := 5) rfl (hI.wf.s rfl) rfl rfl rfl (hI.put0 (hI.wf.s rfl) rfl rfl) (hX.upI rfl) (fun g20 e20 hI hX => ?_)
          refine ev_ic f_X11_refuse (nx := 6) (v := -1) rfl (by decide) rfl ?_
          refine ev_retK1 f_X11_refuse rfl rfl rfl ?_
          refine ev_aluvL f_X11_together (nx := 32) (w := -1) rfl rfl rfl (by decide) rfl ?_
          exact ev_ret f_X11_together rfl rfl rfl ⟨_, _, _, rfl, hI, hX, ⟨_, rfl, (show ∀ (u : Nat) (D : s_D), gr 0 6 = .ref u → t_VL gr u → t_CV gi gl u D → t_Cb D → ((0 ≤ ar1.toInt ∧ ar1.toInt < D 0 ∧ 0 ≤ ar2.toInt ∧ ar2.toInt < D 0 ∧ 0 ≤ ar3.toInt ∧ ar3.toInt ≤ 12) → ((-1) : Int64) = s_hd D ar1.toInt ||| (s_hd D ar2.toInt <<< (ar3.toInt64 &&& 63))) ∧ (¬ (0 ≤ ar1.toInt ∧ ar1.toInt < D 0 ∧ 0 ≤ ar2.toInt ∧ ar2.toInt < D 0 ∧ 0 ≤ ar3.toInt ∧ ar3.toInt ≤ 12) → ((-1) : Int64).toInt = -1) from (by
                                                            intro u D hu hl hc hb
                                                            have ha : a5 = u := Value.ref.inj (e5.symm.trans hu)
                                                            subst ha
                                                            have hm := hc.1.1
                                                            exact ⟨fun h => absurd h (by omega), fun _ => (by decide)⟩))⟩⟩
        · have r21 : ar2.toInt < (gi a5 0).toInt := Int32.lt_iff_toInt_lt.mp (t_nle h17)
          have u22 : ar2.toInt ≤ 5 := t_ltu (t_nle h17) u6 rfl
          refine ev_ic f_X11_isPort (nx := 16) (v := 1) rfl (by decide) rfl ?_
          refine ev_jmp f_X11_isPort (nx := 20) rfl rfl rfl ?_
          refine ev_retK1 f_X11_isPort rfl rfl rfl ?_
          refine ev_f f_X11_together (t1 := 26) (t2 := 16) rfl rfl rfl (by decide) ?_
          refine ev_loc f_X11_together (nx := 17) rfl rfl rfl rfl ?_
          refine ev_if f_X11_together (t1 := 26) (t2 := 20) rfl rfl rfl (fun h23 => ?_) (fun h23 => ?_)
          · have u24 : ar3.toInt ≤ (-1) := t_ltu h23 (by decide : (0:Int32).toInt ≤ (0:Int)) rfl
            refine ev_loc f_X11_together (nx := 27) rfl rfl rfl rfl ?_
            refine ev_ic f_X11_together (nx := 28) (v := 1) rfl (by decide) rfl ?_
            refine ev_inV2 f_X11_together (nx := 31) (lo2 := [(0, .ref 0), (1, .int 1)]) rfl rfl rfl rfl f_X11_refuse (hI.wf.s rfl) rfl rfl rfl rfl rfl ?_
            refine ev_loc f_X11_refuse (nx := 1) rfl rfl rfl rfl ?_
            refine ev_loc f_X11_refuse (nx := 2) rfl rfl rfl rfl ?_
            refine ev_putIT f_X11_refuse (nx := 5) rfl (hI.wf.s rfl) rfl rfl rfl (hI.put0 (hI.wf.s rfl) rfl rfl) (hX.upI rfl) (fun g25 e25 hI hX => ?_)
            refine ev_ic f_X11_refuse (nx := 6) (v := -1) rfl (by decide) rfl ?_
            refine ev_retK1 f_X11_refuse rfl rfl rfl ?_
            refine ev_aluvL f_X11_together (nx := 32) (w := -1) rfl rfl rfl (by decide) rfl ?_
            exact ev_ret f_X11_together rfl rfl rfl ⟨_, _, _, rfl, hI, hX, ⟨_, rfl, (show ∀ (u : Nat) (D : s_D), gr 0 6 = .ref u → t_VL gr u → t_CV gi gl u D → t_Cb D → ((0 ≤ ar1.toInt ∧ ar1.toInt < D 0 ∧ 0 ≤ ar2.toInt ∧ ar2.toInt < D 0 ∧ 0 ≤ ar3.toInt ∧ ar3.toInt ≤ 12) → ((-1) : Int64) = s_hd D ar1.toInt ||| (s_hd D ar2.toInt <<< (ar3.toInt64 &&& 63))) ∧ (¬ (0 ≤ ar1.toInt ∧ ar1.toInt < D 0 ∧ 0 ≤ ar2.toInt ∧ ar2.toInt < D 0 ∧ 0 ≤ ar3.toInt ∧ ar3.toInt ≤ 12) → ((-1) : Int64).toInt = -1) from (by
                                                            intro u D hu hl hc hb
                                                            have ha : a5 = u := Value.ref.inj (e5.symm.trans hu)
                                                            subst ha
                                                            have hm := hc.1.1
                                                            exact ⟨fun h => absurd h (by omega), fun _ => (by decide)⟩))⟩⟩
          · have l26 : 0 ≤ ar3.toInt := t_lel (t_nlt h23) (by decide : (0:Int) ≤ (0:Int32).toInt)
            refine ev_loc f_X11_together (nx := 21) rfl rfl rfl rfl ?_
            refine ev_bp f_X11_together (nx := 23) (v := 12) rfl (by decide) rfl ?_
            refine ev_if f_X11_together (t1 := 33) (t2 := 26) rfl rfl rfl (fun h27 => ?_) (fun h27 => ?_)
            · have u28 : ar3.toInt ≤ 12 := t_leu h27 (by decide : (12:Int32).toInt ≤ (12:Int))
              refine ev_loc f_X11_together (nx := 34) rfl rfl rfl rfl ?_
              refine ev_loc f_X11_together (nx := 35) rfl rfl rfl rfl ?_
              refine ev_getR f_X11_together (nx := 38) (v := .ref a5) rfl (hI.wf.s rfl) rfl rfl e5 rfl rfl ?_
              refine ev_loc f_X11_together (nx := 39) rfl rfl rfl rfl ?_
              refine ev_loc f_X11_together (nx := 40) rfl rfl rfl rfl ?_
              refine ev_loc f_X11_together (nx := 41) rfl rfl rfl rfl ?_
              refine ev_inV4 f_X11_together (nx := 44) (lo2 := [(0, .ref a5), (1, .int ar1), (2, .int ar2), (3, .int ar3)]) rfl rfl rfl rfl f_X5_bothHeard p5.1 rfl rfl rfl rfl rfl ?_
              refine ev_loc f_X5_bothHeard (nx := 1) rfl rfl rfl rfl ?_
              refine ev_loc f_X5_bothHeard (nx := 2) rfl rfl rfl rfl ?_
              refine ev_qL0 f_X5_bothHeard (nx := 5) (r := []) rfl rfl rfl rfl rfl rfl rfl (c_d_heardOf hI (a5) p5 (ar1)) rfl (fun w29 q29 => ?_)
              have q29 : ∀ D : s_D, t_VL gr a5 → t_CV gi gl a5 D → w29 = s_hd D ar1.toInt := q29
              refine ev_loc f_X5_bothHeard (nx := 6) rfl rfl rfl rfl ?_
              refine ev_loc f_X5_bothHeard (nx := 7) rfl rfl rfl rfl ?_
              refine ev_qL0 f_X5_bothHeard (nx := 10) (r := [.long w29]) rfl rfl rfl rfl rfl rfl rfl (c_d_heardOf hI (a5) p5 (ar2)) rfl (fun w30 q30 => ?_)
              have q30 : ∀ D : s_D, t_VL gr a5 → t_CV gi gl a5 D → w30 = s_hd D ar2.toInt := q30
              refine ev_loc f_X5_bothHeard (nx := 11) rfl rfl rfl rfl ?_
              refine ev_anyLE f_X5_bothHeard (nx := 12) rfl rfl rfl rfl (fun z31 e31 => ?_)
              refine ev_anyLE f_X5_bothHeard (nx := 13) rfl rfl rfl rfl (fun z32 e32 => ?_)
              refine ev_retK1 f_X5_bothHeard rfl rfl rfl ?_
              refine ev_inV2 f_X11_together (nx := 47) (lo2 := [(0, .ref 0), (1, .long z32)]) rfl rfl rfl rfl f_X11_answerLong (hI.wf.s rfl) rfl rfl rfl rfl rfl ?_
              refine ev_loc f_X11_answerLong (nx := 1) rfl rfl rfl rfl ?_
              refine ev_ic f_X11_answerLong (nx := 2) (v := 0) rfl (by decide) rfl ?_
              refine ev_putIT f_X11_answerLong (nx := 5) rfl (hI.wf.s rfl) rfl rfl rfl (hI.put0 (hI.wf.s rfl) rfl rfl) (hX.upI rfl) (fun g33 e33 hI hX => ?_)
              refine ev_loc f_X11_answerLong (nx := 6) rfl rfl rfl rfl ?_
              refine ev_retK1 f_X11_answerLong rfl rfl rfl ?_
              exact ev_ret f_X11_together rfl rfl rfl ⟨_, _, _, rfl, hI, hX, ⟨_, rfl, (show ∀ (u : Nat) (D : s_D), gr 0 6 = .ref u → t_VL gr u → t_CV gi gl u D → t_Cb D → ((0 ≤ ar1.toInt ∧ ar1.toInt < D 0 ∧ 0 ≤ ar2.toInt ∧ ar2.toInt < D 0 ∧ 0 ≤ ar3.toInt ∧ ar3.toInt ≤ 12) → z32 = s_hd D ar1.toInt ||| (s_hd D ar2.toInt <<< (ar3.toInt64 &&& 63))) ∧ (¬ (0 ≤ ar1.toInt ∧ ar1.toInt < D 0 ∧ 0 ≤ ar2.toInt ∧ ar2.toInt < D 0 ∧ 0 ≤ ar3.toInt ∧ ar3.toInt ≤ 12) → z32.toInt = -1) from (by
                                                            intro u D hu hl hc hb
                                                            have ha : a5 = u := Value.ref.inj (e5.symm.trans hu)
                                                            subst ha
                                                            have hm := hc.1.1
                                                            refine ⟨fun _ => ?_, fun h => absurd (show _ from ⟨by omega, by omega, by omega, by omega, by omega, by omega⟩) h⟩
                                                            rw [e32, e31, q29 D hl hc, q30 D hl hc]))⟩⟩
            · have l34 : 13 ≤ ar3.toInt := t_ltl (t_nle h27) (by decide : (12:Int) ≤ (12:Int32).toInt) rfl
              refine ev_loc f_X11_together (nx := 27) rfl rfl rfl rfl ?_
              refine ev_ic f_X11_together (nx := 28) (v := 1) rfl (by decide) rfl ?_
              refine ev_inV2 f_X11_together (nx := 31) (lo2 := [(0, .ref 0), (1, .int 1)]) rfl rfl rfl rfl f_X11_refuse (hI.wf.s rfl) rfl rfl rfl rfl rfl ?_
              refine ev_loc f_X11_refuse (nx := 1) rfl rfl rfl rfl ?_
              refine ev_loc f_X11_refuse (nx := 2) rfl rfl rfl rfl ?_
              refine ev_putIT f_X11_refuse (nx := 5) rfl (hI.wf.s rfl) rfl rfl rfl (hI.put0 (hI.wf.s rfl) rfl rfl) (hX.upI rfl) (fun g35 e35 hI hX => ?_)
              refine ev_ic f_X11_refuse (nx := 6) (v := -1) rfl (by decide) rfl ?_
              refine ev_retK1 f_X11_refuse rfl rfl rfl ?_
              refine ev_aluvL f_X11_together (nx := 32) (w := -1) rfl rfl rfl (by decide) rfl ?_
              exact ev_ret f_X11_together rfl rfl rfl ⟨_, _, _, rfl, hI, hX, ⟨_, rfl, (show ∀ (u : Nat) (D : s_D), gr 0 6 = .ref u → t_VL gr u → t_CV gi gl u D → t_Cb D → ((0 ≤ ar1.toInt ∧ ar1.toInt < D 0 ∧ 0 ≤ ar2.toInt ∧ ar2.toInt < D 0 ∧ 0 ≤ ar3.toInt ∧ ar3.toInt ≤ 12) → ((-1) : Int64) = s_hd D ar1.toInt ||| (s_hd D ar2.toInt <<< (ar3.toInt64 &&& 63))) ∧ (¬ (0 ≤ ar1.toInt ∧ ar1.toInt < D 0 ∧ 0 ≤ ar2.toInt ∧ ar2.toInt < D 0 ∧ 0 ≤ ar3.toInt ∧ ar3.toInt ≤ 12) → ((-1) : Int64).toInt = -1) from (by
                                                            intro u D hu hl hc hb
                                                            have ha : a5 = u := Value.ref.inj (e5.symm.trans hu)
                                                            subst ha
                                                            have hm := hc.1.1
                                                            exact ⟨fun h => absurd h (by omega), fun _ => (by decide)⟩))⟩⟩
noncomputable def wl_n_beatsOf : List (Nat × Nat) := []
noncomputable def Q_n_beatsOf (gi : Nat → Nat → Int32) (gl : Nat → Nat → Int64) (gr : Nat → Nat → Value) (ar1 : Int32) (ar2 : Int32) : Int64 → (Nat → Nat → Int32) → (Nat → Nat → Int64) → (Nat → Nat → Value) → Prop := fun (v : Int64) (gi2 : Nat → Nat → Int32) (gl2 : Nat → Nat → Int64) (gr2 : Nat → Nat → Value) => (0 ≤ v.toInt ∧ v.toInt < 16777216) ∧ (0 ≤ ar2.toInt → v = (s_bt (fun t => gi 70 (ar1.toNatClampNeg + t)) ar2.toNatClampNeg).1)
theorem c_n_beatsOf {X : x_Ext} {d : Nat} {sh : List (Nat ⊕ (Nat × Nat))} {gi : Nat → Nat → Int32} {gl : Nat → Nat → Int64} {gr : Nat → Nat → Value} (hI : t_I sh gi gr) (ar1 : Int32) (l_a1 : 11 ≤ ar1.toInt) (u_a1 : ar1.toInt ≤ 1752) (ar2 : Int32) (u_a2 : ar2.toInt ≤ 6) : x_Me X (d + 1) n_X12_beatsOf [.ref 69, .int ar1, .int ar2] (sh, gi, gl, gr) (t_PL wl_n_beatsOf sh gi gl gr (Q_n_beatsOf gi gl gr ar1 ar2)) := by
  have hX : t_X wl_n_beatsOf sh gi gl gr gi gl gr := t_X.rf
  refine me_i f_X12_beatsOf (hI.wf.s rfl) rfl rfl rfl ?_
  refine ev_lc f_X12_beatsOf (nx := 1) (v := 0) rfl (by decide) rfl ?_
  refine ev_loc f_X12_beatsOf (nx := 2) (lo' := [(3, .long 0), (0, .ref 69), (1, .int ar1), (2, .int ar2)]) rfl rfl rfl rfl ?_
  refine ev_ic f_X12_beatsOf (nx := 3) (v := 0) rfl (by decide) rfl ?_
  refine ev_loc f_X12_beatsOf (nx := 5) (lo' := [(5, .int 0), (3, .long 0), (0, .ref 69), (1, .int ar1), (2, .int ar2)]) rfl rfl rfl rfl ?_
  refine ev_ic f_X12_beatsOf (nx := 6) (v := 0) rfl (by decide) rfl ?_
  refine ev_loc f_X12_beatsOf (nx := 8) (lo' := [(6, .int 0), (5, .int 0), (3, .long 0), (0, .ref 69), (1, .int ar1), (2, .int ar2)]) rfl rfl rfl rfl ?_
  have L1 : ∀ (m1 : Nat) (y1_6 : Int32) (y1_5 : Int32) (y1_3 : Int64), 0 ≤ y1_6.toInt → y1_6.toInt ≤ 6 → 0 ≤ y1_5.toInt → y1_5.toInt ≤ 28 → 0 ≤ y1_3.toInt ∧ y1_3.toInt < 16777216 → y1_5.toInt ≤ 4 * y1_6.toInt → (0 ≤ ar2.toInt → y1_3 = (s_bt (fun t => gi 70 (ar1.toNatClampNeg + t)) y1_6.toNatClampNeg).1 ∧ y1_5.toInt = (s_bt (fun t => gi 70 (ar1.toNatClampNeg + t)) y1_6.toNatClampNeg).2 ∧ y1_6.toInt ≤ ar2.toInt) → (6 - y1_6.toInt).toNat = m1 → x_Ev X (d + 1) n_X12_beatsOf 8 [(6, .int y1_6), (5, .int y1_5), (3, .long y1_3), (0, .ref 69), (1, .int ar1), (2, .int ar2)] [] (sh, gi, gl, gr) (t_PL wl_n_beatsOf sh gi gl gr (Q_n_beatsOf gi gl gr ar1 ar2)) := by
    intro m1
    induction m1 using Nat.strongRecOn with
    | _ m1 ih1 =>
    intro y1_6 y1_5 y1_3 l1_6 u1_6 l1_5 u1_5 j1_0 j1_1 j1_2 hm1
    refine ev_loc f_X12_beatsOf (nx := 10) rfl rfl rfl rfl ?_
    refine ev_loc f_X12_beatsOf (nx := 11) rfl rfl rfl rfl ?_
    refine ev_if f_X12_beatsOf (t1 := 76) (t2 := 14) rfl rfl rfl (fun h2 => ?_) (fun h2 => ?_)
    · have r3 : ar2.toInt ≤ y1_6.toInt := Int32.le_iff_toInt_le.mp h2
      refine ev_loc f_X12_beatsOf (nx := 77) rfl rfl rfl rfl ?_
      exact ev_ret f_X12_beatsOf rfl rfl rfl ⟨_, _, _, rfl, hI, hX, ⟨_, rfl, (show (0 ≤ y1_3.toInt ∧ y1_3.toInt < 16777216) ∧ (0 ≤ ar2.toInt → y1_3 = (s_bt (fun t => gi 70 (ar1.toNatClampNeg + t)) ar2.toNatClampNeg).1) from ⟨by omega, (fun h => (by
                                                            obtain ⟨h1, h2, h3⟩ := j1_2 h
                                                            have c1 := t_clamp (i := y1_6) (by omega)
                                                            have c2 := t_clamp (i := ar2) h
                                                            rw [show ar2.toNatClampNeg = y1_6.toNatClampNeg from (by omega)]; exact h1))⟩)⟩⟩
    · have r4 : y1_6.toInt < ar2.toInt := Int32.lt_iff_toInt_lt.mp (t_nle h2)
      have u5 : y1_6.toInt ≤ 5 := t_ltu (t_nle h2) u_a2 rfl
      have l6 : 1 ≤ ar2.toInt := t_ltl (t_nle h2) l1_6 rfl
      refine ev_loc f_X12_beatsOf (nx := 15) rfl rfl rfl rfl ?_
      refine ev_getR f_X12_beatsOf (nx := 18) rfl (hI.wf.s rfl) rfl rfl (hI.wf.r rfl) rfl rfl ?_
      refine ev_loc f_X12_beatsOf (nx := 19) rfl rfl rfl rfl ?_
      refine ev_loc f_X12_beatsOf (nx := 21) rfl rfl rfl rfl ?_
      refine ev_addR f_X12_beatsOf (nx := 22) (l := 11) (u := 1757) rfl l_a1 u_a1 l1_6 u5 rfl rfl (by decide) (by decide) rfl (fun z7 e7 l7 u7 => ?_)
      refine ev_ialdT f_X12_beatsOf (nx := 23) rfl (hI.wf.s rfl) l7 (by decide) u7 (by decide) rfl (fun w8 e8 => ?_)
      refine ev_bp f_X12_beatsOf (nx := 25) (v := 108) rfl (by decide) rfl ?_
      refine ev_if f_X12_beatsOf (t1 := 28) (t2 := 32) rfl rfl rfl (fun h9 => ?_) (fun h9 => ?_)
      · have u10 : w8.toInt ≤ 108 := t_equ h9 (by decide : (108:Int32).toInt ≤ (108:Int))
        have l11 : 108 ≤ w8.toInt := t_eql h9 (by decide : (108:Int) ≤ (108:Int32).toInt)
        refine ev_ic f_X12_beatsOf (nx := 29) (v := 3) rfl (by decide) rfl ?_
        refine ev_jmp f_X12_beatsOf (nx := 33) rfl rfl rfl ?_
        refine ev_loc f_X12_beatsOf (nx := 35) (lo' := [(7, .int 3), (6, .int y1_6), (5, .int y1_5), (3, .long y1_3), (0, .ref 69), (1, .int ar1), (2, .int ar2)]) rfl rfl rfl rfl ?_
        refine ev_ic f_X12_beatsOf (nx := 36) (v := 0) rfl (by decide) rfl ?_
        refine ev_loc f_X12_beatsOf (nx := 38) (lo' := [(8, .int 0), (7, .int 3), (6, .int y1_6), (5, .int y1_5), (3, .long y1_3), (0, .ref 69), (1, .int ar1), (2, .int ar2)]) rfl rfl rfl rfl ?_
        have L12 : ∀ (m12 : Nat) (y12_8 : Int32) (y12_7 : Int32) (y12_3 : Int64), 0 ≤ y12_8.toInt → y12_8.toInt ≤ 3 → 1 ≤ y12_7.toInt → y12_7.toInt ≤ 3 → 0 ≤ y12_3.toInt ∧ y12_3.toInt < 16777216 → (0 ≤ ar2.toInt → y12_3 = s_bi (s_bt (fun t => gi 70 (ar1.toNatClampNeg + t)) y1_6.toNatClampNeg).1 (s_bt (fun t => gi 70 (ar1.toNatClampNeg + t)) y1_6.toNatClampNeg).2 y12_8.toNatClampNeg ∧ y12_8.toInt ≤ y12_7.toInt ∧ y12_7.toInt = (s_bn ((fun t => gi 70 (ar1.toNatClampNeg + t)) y1_6.toNatClampNeg) : Nat)) → (3 - y12_8.toInt).toNat = m12 → x_Ev X (d + 1) n_X12_beatsOf 38 [(8, .int y12_8), (7, .int y12_7), (6, .int y1_6), (5, .int y1_5), (3, .long y12_3), (0, .ref 69), (1, .int ar1), (2, .int ar2)] [] (sh, gi, gl, gr) (t_PL wl_n_beatsOf sh gi gl gr (Q_n_beatsOf gi gl gr ar1 ar2)) := by
          intro m12
          induction m12 using Nat.strongRecOn with
          | _ m12 ih12 =>
          intro y12_8 y12_7 y12_3 l12_8 u12_8 l12_7 u12_7 j12_0 j12_1 hm12
          refine ev_loc f_X12_beatsOf (nx := 40) rfl rfl rfl rfl ?_
          refine ev_loc f_X12_beatsOf (nx := 42) rfl rfl rfl rfl ?_
          refine ev_if f_X12_beatsOf (t1 := 61) (t2 := 45) rfl rfl rfl (fun h13 => ?_) (fun h13 => ?_)
          · have r14 : y12_7.toInt ≤ y12_8.toInt := Int32.le_iff_toInt_le.mp h13
            have l15 : 1 ≤ y12_8.toInt := t_lel h13 l12_7
            refine ev_loc f_X12_beatsOf (nx := 63) rfl rfl rfl rfl ?_
            refine ev_loc f_X12_beatsOf (nx := 65) rfl rfl rfl rfl ?_
            refine ev_ic f_X12_beatsOf (nx := 66) (v := 1) rfl (by decide) rfl ?_
            refine ev_addC f_X12_beatsOf (nx := 67) (c := 1) (l := 2) (u := 4) rfl (by decide) l12_7 u12_7 rfl rfl (by decide) (by decide) rfl (fun z16 e16 l16 u16 => ?_)
            refine ev_addR f_X12_beatsOf (nx := 68) (l := 2) (u := 32) rfl l1_5 u1_5 l16 u16 rfl rfl (by decide) (by decide) rfl (fun z17 e17 l17 u17 => ?_)
            refine ev_loc f_X12_beatsOf (nx := 70) (lo' := [(5, .int z17), (8, .int y12_8), (7, .int y12_7), (6, .int y1_6), (3, .long y12_3), (0, .ref 69), (1, .int ar1), (2, .int ar2)]) rfl rfl rfl rfl ?_
            refine ev_incR f_X12_beatsOf (nx := 73) (c := 1) (l := 1) (u := 6) rfl rfl (by decide) (by decide) l1_6 u5 rfl rfl (by decide) (by decide) rfl (fun z18 e18 l18 u18 => ?_)
            refine ev_jmp f_X12_beatsOf (nx := 8) rfl rfl rfl ?_
            refine ev_sub (lo := [(6, .int z18), (5, .int z17), (3, .long y12_3), (0, .ref 69), (1, .int ar1), (2, .int ar2)]) rfl (t_sc rfl (t_sc rfl (t_sc rfl (t_sc rfl (t_sc rfl (t_sc rfl t_sn)))))) ?_
            exact ih1 _ (by omega) (z18) (z17) (y12_3) (Int.le_trans (by decide : (0:Int) ≤ 1) l18) u18 (Int.le_trans (by decide : (0:Int) ≤ 2) l17) (by omega : z17.toInt ≤ (28:Int)) (by omega) (by omega) (fun h => (by
                                                            obtain ⟨h1, h2, h3⟩ := j1_2 h
                                                            obtain ⟨h4, h5, h6⟩ := j12_1 h
                                                            have h7 := s_bt_s (f := (fun t => gi 70 (ar1.toNatClampNeg + t))) (k := y1_6) (z := z18) (n := y12_7) (i := y12_8) (b := y1_5) (b' := z17) h4 h2 h6 (by omega) (by omega) (by omega) (by omega)
                                                            exact ⟨h7.1, h7.2, by omega⟩)) rfl
          · have r19 : y12_8.toInt < y12_7.toInt := Int32.lt_iff_toInt_lt.mp (t_nle h13)
            have u20 : y12_8.toInt ≤ 2 := t_ltu (t_nle h13) u12_7 rfl
            refine ev_loc f_X12_beatsOf (nx := 46) rfl rfl rfl rfl ?_
            refine ev_lc f_X12_beatsOf (nx := 47) (v := 1) rfl (by decide) rfl ?_
            refine ev_loc f_X12_beatsOf (nx := 49) rfl rfl rfl rfl ?_
            refine ev_loc f_X12_beatsOf (nx := 51) rfl rfl rfl rfl ?_
            refine ev_addR f_X12_beatsOf (nx := 52) (l := 0) (u := 30) rfl l1_5 u1_5 l12_8 u20 rfl rfl (by decide) (by decide) rfl (fun z21 e21 l21 u21 => ?_)
            refine ev_anyLE f_X12_beatsOf (nx := 53) rfl rfl rfl rfl (fun z22 e22 => ?_)
            refine ev_anyLE f_X12_beatsOf (nx := 54) rfl rfl rfl rfl (fun z23 e23 => ?_)
            refine ev_loc f_X12_beatsOf (nx := 55) (lo' := [(3, .long z23), (8, .int y12_8), (7, .int y12_7), (6, .int y1_6), (5, .int y1_5), (0, .ref 69), (1, .int ar1), (2, .int ar2)]) rfl rfl rfl rfl ?_
            refine ev_incR f_X12_beatsOf (nx := 58) (c := 1) (l := 1) (u := 3) rfl rfl (by decide) (by decide) l12_8 u20 rfl rfl (by decide) (by decide) rfl (fun z24 e24 l24 u24 => ?_)
            refine ev_jmp f_X12_beatsOf (nx := 38) rfl rfl rfl ?_
            refine ev_sub (lo := [(8, .int z24), (7, .int y12_7), (6, .int y1_6), (5, .int y1_5), (3, .long z23), (0, .ref 69), (1, .int ar1), (2, .int ar2)]) rfl (t_sc rfl (t_sc rfl (t_sc rfl (t_sc rfl (t_sc rfl (t_sc rfl (t_sc rfl (t_sc rfl t_sn)))))))) ?_
            exact ih12 _ (by omega) (z24) (y12_7) (z23) (Int.le_trans (by decide : (0:Int) ≤ 1) l24) u24 l12_7 u12_7 (t_lor1 e22 e23 (by omega) (by omega) (by omega)) (fun h => (by
                                                            obtain ⟨h4, h5, h6⟩ := j12_1 h
                                                            obtain ⟨h1, h2, h3⟩ := j1_2 h
                                                            exact ⟨s_bi_s h4 (by omega) (y := z21) (by omega) e22 e23 (by omega), by omega, h6⟩)) rfl
        refine ev_sub (lo := [(8, .int 0), (7, .int 3), (6, .int y1_6), (5, .int y1_5), (3, .long y1_3), (0, .ref 69), (1, .int ar1), (2, .int ar2)]) rfl (t_sc rfl (t_sc rfl (t_sc rfl (t_sc rfl (t_sc rfl (t_sc rfl (t_sc rfl (t_sc rfl t_sn)))))))) ?_
        exact L12 _ (0) (3) (y1_3) (by decide : (0:Int) ≤ (0:Int32).toInt) (Int.le_trans (by decide : (0:Int32).toInt ≤ (0:Int)) (by decide : (0:Int) ≤ 3)) (Int.le_trans (by decide : (1:Int) ≤ 3) (by decide : (3:Int) ≤ (3:Int32).toInt)) (by decide : (3:Int32).toInt ≤ (3:Int)) (by omega) (fun h => (by
                                                            obtain ⟨h1, h2, h3⟩ := j1_2 h
                                                            have hk : w8 = gi 70 (ar1.toNatClampNeg + y1_6.toNatClampNeg) := by rw [e8, show z7.toNatClampNeg = ar1.toNatClampNeg + y1_6.toNatClampNeg from (by have c1 := t_clamp (i := z7) (by omega); have c2 := t_clamp (i := ar1) (by omega); have c3 := t_clamp (i := y1_6) (by omega); omega)]
                                                            refine ⟨h1, by first | omega | decide, ?_⟩
                                                            have h6 : s_bn (gi 70 (ar1.toNatClampNeg + y1_6.toNatClampNeg)) = 3 := by unfold s_bn; rw [← hk, if_pos (by omega)]
                                                            exact (congrArg (fun x : Nat => (x : Int)) h6).symm)) rfl
      · have r25 : w8.toInt ≠ 108 := fun e => h9 (Int32.toInt_inj.mp (e.trans (by decide : (108:Int) = (108 : Int32).toInt)))
        refine ev_ic f_X12_beatsOf (nx := 33) (v := 1) rfl (by decide) rfl ?_
        refine ev_loc f_X12_beatsOf (nx := 35) (lo' := [(7, .int 1), (6, .int y1_6), (5, .int y1_5), (3, .long y1_3), (0, .ref 69), (1, .int ar1), (2, .int ar2)]) rfl rfl rfl rfl ?_
        refine ev_ic f_X12_beatsOf (nx := 36) (v := 0) rfl (by decide) rfl ?_
        refine ev_loc f_X12_beatsOf (nx := 38) (lo' := [(8, .int 0), (7, .int 1), (6, .int y1_6), (5, .int y1_5), (3, .long y1_3), (0, .ref 69), (1, .int ar1), (2, .int ar2)]) rfl rfl rfl rfl ?_
        have L26 : ∀ (m26 : Nat) (y26_8 : Int32) (y26_7 : Int32) (y26_3 : Int64), 0 ≤ y26_8.toInt → y26_8.toInt ≤ 3 → 1 ≤ y26_7.toInt → y26_7.toInt ≤ 3 → 0 ≤ y26_3.toInt ∧ y26_3.toInt < 16777216 → (0 ≤ ar2.toInt → y26_3 = s_bi (s_bt (fun t => gi 70 (ar1.toNatClampNeg + t)) y1_6.toNatClampNeg).1 (s_bt (fun t => gi 70 (ar1.toNatClampNeg + t)) y1_6.toNatClampNeg).2 y26_8.toNatClampNeg ∧ y26_8.toInt ≤ y26_7.toInt ∧ y26_7.toInt = (s_bn ((fun t => gi 70 (ar1.toNatClampNeg + t)) y1_6.toNatClampNeg) : Nat)) → (3 - y26_8.toInt).toNat = m26 → x_Ev X (d + 1) n_X12_beatsOf 38 [(8, .int y26_8), (7, .int y26_7), (6, .int y1_6), (5, .int y1_5), (3, .long y26_3), (0, .ref 69), (1, .int ar1), (2, .int ar2)] [] (sh, gi, gl, gr) (t_PL wl_n_beatsOf sh gi gl gr (Q_n_beatsOf gi gl gr ar1 ar2)) := by
          intro m26
          induction m26 using Nat.strongRecOn with
          | _ m26 ih26 =>
          intro y26_8 y26_7 y26_3 l26_8 u26_8 l26_7 u26_7 j26_0 j26_1 hm26
          refine ev_loc f_X12_beatsOf (nx := 40) rfl rfl rfl rfl ?_
          refine ev_loc f_X12_beatsOf (nx := 42) rfl rfl rfl rfl ?_
          refine ev_if f_X12_beatsOf (t1 := 61) (t2 := 45) rfl rfl rfl (fun h27 => ?_) (fun h27 => ?_)
          · have r28 : y26_7.toInt ≤ y26_8.toInt := Int32.le_iff_toInt_le.mp h27
            have l29 : 1 ≤ y26_8.toInt := t_lel h27 l26_7
            refine ev_loc f_X12_beatsOf (nx := 63) rfl rfl rfl rfl ?_
            refine ev_loc f_X12_beatsOf (nx := 65) rfl rfl rfl rfl ?_
            refine ev_ic f_X12_beatsOf (nx := 66) (v := 1) rfl (by decide) rfl ?_
            refine ev_addC f_X12_beatsOf (nx := 67) (c := 1) (l := 2) (u := 4) rfl (by decide) l26_7 u26_7 rfl rfl (by decide) (by decide) rfl (fun z30 e30 l30 u30 => ?_)
            refine ev_addR f_X12_beatsOf (nx := 68) (l := 2) (u := 32) rfl l1_5 u1_5 l30 u30 rfl rfl (by decide) (by decide) rfl (fun z31 e31 l31 u31 => ?_)
            refine ev_loc f_X12_beatsOf (nx := 70) (lo' := [(5, .int z31), (8, .int y26_8), (7, .int y26_7), (6, .int y1_6), (3, .long y26_3), (0, .ref 69), (1, .int ar1), (2, .int ar2)]) rfl rfl rfl rfl ?_
            refine ev_incR f_X12_beatsOf (nx := 73) (c := 1) (l := 1) (u := 6) rfl rfl (by decide) (by decide) l1_6 u5 rfl rfl (by decide) (by decide) rfl (fun z32 e32 l32 u32 => ?_)
            refine ev_jmp f_X12_beatsOf (nx := 8) rfl rfl rfl ?_
            refine ev_sub (lo := [(6, .int z32), (5, .int z31), (3, .long y26_3), (0, .ref 69), (1, .int ar1), (2, .int ar2)]) rfl (t_sc rfl (t_sc rfl (t_sc rfl (t_sc rfl (t_sc rfl (t_sc rfl t_sn)))))) ?_
            exact ih1 _ (by omega) (z32) (z31) (y26_3) (Int.le_trans (by decide : (0:Int) ≤ 1) l32) u32 (Int.le_trans (by decide : (0:Int) ≤ 2) l31) (by omega : z31.toInt ≤ (28:Int)) (by omega) (by omega) (fun h => (by
                                                            obtain ⟨h1, h2, h3⟩ := j1_2 h
                                                            obtain ⟨h4, h5, h6⟩ := j26_1 h
                                                            have h7 := s_bt_s (f := (fun t => gi 70 (ar1.toNatClampNeg + t))) (k := y1_6) (z := z32) (n := y26_7) (i := y26_8) (b := y1_5) (b' := z31) h4 h2 h6 (by omega) (by omega) (by omega) (by omega)
                                                            exact ⟨h7.1, h7.2, by omega⟩)) rfl
          · have r33 : y26_8.toInt < y26_7.toInt := Int32.lt_iff_toInt_lt.mp (t_nle h27)
            have u34 : y26_8.toInt ≤ 2 := t_ltu (t_nle h27) u26_7 rfl
            refine ev_loc f_X12_beatsOf (nx := 46) rfl rfl rfl rfl ?_
            refine ev_lc f_X12_beatsOf (nx := 47) (v := 1) rfl (by decide) rfl ?_
            refine ev_loc f_X12_beatsOf (nx := 49) rfl rfl rfl rfl ?_
            refine ev_loc f_X12_beatsOf (nx := 51) rfl rfl rfl rfl ?_
            refine ev_addR f_X12_beatsOf (nx := 52) (l := 0) (u := 30) rfl l1_5 u1_5 l26_8 u34 rfl rfl (by decide) (by decide) rfl (fun z35 e35 l35 u35 => ?_)
            refine ev_anyLE f_X12_beatsOf (nx := 53) rfl rfl rfl rfl (fun z36 e36 => ?_)
            refine ev_anyLE f_X12_beatsOf (nx := 54) rfl rfl rfl rfl (fun z37 e37 => ?_)
            refine ev_loc f_X12_beatsOf (nx := 55) (lo' := [(3, .long z37), (8, .int y26_8), (7, .int y26_7), (6, .int y1_6), (5, .int y1_5), (0, .ref 69), (1, .int ar1), (2, .int ar2)]) rfl rfl rfl rfl ?_
            refine ev_incR f_X12_beatsOf (nx := 58) (c := 1) (l := 1) (u := 3) rfl rfl (by decide) (by decide) l26_8 u34 rfl rfl (by decide) (by decide) rfl (fun z38 e38 l38 u38 => ?_)
            refine ev_jmp f_X12_beatsOf (nx := 38) rfl rfl rfl ?_
            refine ev_sub (lo := [(8, .int z38), (7, .int y26_7), (6, .int y1_6), (5, .int y1_5), (3, .long z37), (0, .ref 69), (1, .int ar1), (2, .int ar2)]) rfl (t_sc rfl (t_sc rfl (t_sc rfl (t_sc rfl (t_sc rfl (t_sc rfl (t_sc rfl (t_sc rfl t_sn)))))))) ?_
            exact ih26 _ (by omega) (z38) (y26_7) (z37) (Int.le_trans (by decide : (0:Int) ≤ 1) l38) u38 l26_7 u26_7 (t_lor1 e36 e37 (by omega) (by omega) (by omega)) (fun h => (by
                                                            obtain ⟨h4, h5, h6⟩ := j26_1 h
                                                            obtain ⟨h1, h2, h3⟩ := j1_2 h
                                                            exact ⟨s_bi_s h4 (by omega) (y := z35) (by omega) e36 e37 (by omega), by omega, h6⟩)) rfl
        refine ev_sub (lo := [(8, .int 0), (7, .int 1), (6, .int y1_6), (5, .int y1_5), (3, .long y1_3), (0, .ref 69), (1, .int ar1), (2, .int ar2)]) rfl (t_sc rfl (t_sc rfl (t_sc rfl (t_sc rfl (t_sc rfl (t_sc rfl (t_sc rfl (t_sc rfl t_sn)))))))) ?_
        exact L26 _ (0) (1) (y1_3) (by decide : (0:Int) ≤ (0:Int32).toInt) (Int.le_trans (by decide : (0:Int32).toInt ≤ (0:Int)) (by decide : (0:Int) ≤ 3)) (by decide : (1:Int) ≤ (1:Int32).toInt) (Int.le_trans (by decide : (1:Int32).toInt ≤ (1:Int)) (by decide : (1:Int) ≤ 3)) (by omega) (fun h => (by
                                                            obtain ⟨h1, h2, h3⟩ := j1_2 h
                                                            have hk : w8 = gi 70 (ar1.toNatClampNeg + y1_6.toNatClampNeg) := by rw [e8, show z7.toNatClampNeg = ar1.toNatClampNeg + y1_6.toNatClampNeg from (by have c1 := t_clamp (i := z7) (by omega); have c2 := t_clamp (i := ar1) (by omega); have c3 := t_clamp (i := y1_6) (by omega); omega)]
                                                            refine ⟨h1, by first | omega | decide, ?_⟩
                                                            have h6 : s_bn (gi 70 (ar1.toNatClampNeg + y1_6.toNatClampNeg)) = 1 := by unfold s_bn; rw [← hk, if_neg (by omega)]
                                                            exact (congrArg (fun x : Nat => (x : Int)) h6).symm)) rfl
  refine ev_sub (lo := [(6, .int 0), (5, .int 0), (3, .long 0), (0, .ref 69), (1, .int ar1), (2, .int ar2)]) rfl (t_sc rfl (t_sc rfl (t_sc rfl (t_sc rfl (t_sc rfl (t_sc rfl t_sn)))))) ?_
  exact L1 _ (0) (0) (0) (by decide : (0:Int) ≤ (0:Int32).toInt) (Int.le_trans (by decide : (0:Int32).toInt ≤ (0:Int)) (by decide : (0:Int) ≤ 6)) (by decide : (0:Int) ≤ (0:Int32).toInt) (Int.le_trans (by decide : (0:Int32).toInt ≤ (0:Int)) (by decide : (0:Int) ≤ 28)) (by decide) (by have kf39 : (0 : Int32).toInt = 0 := (by decide); omega) (fun h => ⟨rfl, rfl, by have z0 : (0 : Int32).toInt = 0 := rfl; omega⟩) rfl
noncomputable def wl_n_heardOf : List (Nat × Nat) := []
noncomputable def Q_n_heardOf (gi : Nat → Nat → Int32) (gl : Nat → Nat → Int64) (gr : Nat → Nat → Value) (ar1 : Int32) : Int64 → (Nat → Nat → Int32) → (Nat → Nat → Int64) → (Nat → Nat → Value) → Prop := fun (v : Int64) (gi2 : Nat → Nat → Int32) (gl2 : Nat → Nat → Int64) (gr2 : Nat → Nat → Value) => (0 ≤ v.toInt ∧ v.toInt < 8589934592) ∧ ∀ D : s_D, t_ME 0 gi D → ar1.toInt < D 0 → v = s_ec (s_so D ar1.toNatClampNeg) (D 7)
theorem c_n_heardOf {X : x_Ext} {d : Nat} {sh : List (Nat ⊕ (Nat × Nat))} {gi : Nat → Nat → Int32} {gl : Nat → Nat → Int64} {gr : Nat → Nat → Value} (hI : t_I sh gi gr) (ar1 : Int32) (l_a1 : 0 ≤ ar1.toInt) (u_a1 : ar1.toInt ≤ 5) : x_Me X (d + 3) n_X12_heardOf [.ref 69, .int ar1] (sh, gi, gl, gr) (t_PL wl_n_heardOf sh gi gl gr (Q_n_heardOf gi gl gr ar1)) := by
  have hX : t_X wl_n_heardOf sh gi gl gr gi gl gr := t_X.rf
  refine me_i f_X12_heardOf (hI.wf.s rfl) rfl rfl rfl ?_
  refine ev_loc f_X12_heardOf (nx := 1) rfl rfl rfl rfl ?_
  refine ev_loc f_X12_heardOf (nx := 2) rfl rfl rfl rfl ?_
  refine ev_inV2 f_X12_heardOf (nx := 5) (lo2 := [(0, .ref 69), (1, .int ar1)]) rfl rfl rfl rfl f_X12_soundOf (hI.wf.s rfl) rfl rfl rfl rfl rfl ?_
  refine ev_loc f_X12_soundOf (nx := 1) rfl rfl rfl rfl ?_
  refine ev_bp f_X12_soundOf (nx := 3) (v := 10) rfl (by decide) rfl ?_
  refine ev_bp f_X12_soundOf (nx := 5) (v := 7) rfl (by decide) rfl ?_
  refine ev_loc f_X12_soundOf (nx := 6) rfl rfl rfl rfl ?_
  refine ev_mulL f_X12_soundOf (nx := 7) (c := 7) (l := 0) (u := 35) rfl (by decide) (by decide) l_a1 u_a1 rfl rfl (by decide) (by decide) rfl (fun z1 e1 l1 u1 => ?_)
  refine ev_addK f_X12_soundOf (nx := 8) (c := 10) (l := 10) (u := 45) rfl (by decide) l1 u1 rfl rfl (by decide) (by decide) rfl (fun z2 e2 l2 u2 => ?_)
  refine ev_ic f_X12_soundOf (nx := 9) (v := 1) rfl (by decide) rfl ?_
  refine ev_addC f_X12_soundOf (nx := 10) (c := 1) (l := 11) (u := 46) rfl (by decide) l2 u2 rfl rfl (by decide) (by decide) rfl (fun z3 e3 l3 u3 => ?_)
  refine ev_loc f_X12_soundOf (nx := 11) rfl rfl rfl rfl ?_
  refine ev_getR f_X12_soundOf (nx := 14) rfl (hI.wf.s rfl) rfl rfl (hI.wf.r rfl) rfl rfl ?_
  refine ev_bp f_X12_soundOf (nx := 16) (v := 10) rfl (by decide) rfl ?_
  refine ev_bp f_X12_soundOf (nx := 18) (v := 7) rfl (by decide) rfl ?_
  refine ev_loc f_X12_soundOf (nx := 19) rfl rfl rfl rfl ?_
  refine ev_mulL f_X12_soundOf (nx := 20) (c := 7) (l := 0) (u := 35) rfl (by decide) (by decide) l_a1 u_a1 rfl rfl (by decide) (by decide) rfl (fun z4 e4 l4 u4 => ?_)
  refine ev_addK f_X12_soundOf (nx := 21) (c := 10) (l := 10) (u := 45) rfl (by decide) l4 u4 rfl rfl (by decide) (by decide) rfl (fun z5 e5 l5 u5 => ?_)
  refine ev_ialdT f_X12_soundOf (nx := 22) rfl (hI.wf.s rfl) l5 (by decide) u5 (by decide) rfl (fun w6 e6 => ?_)
  obtain ⟨l6, u6⟩ := hI.abA (x := ar1) e6 (by decide +kernel : t_aba 70 10 7 0 5 (-900) 6 = true) (by omega) (by omega) (by omega)
  refine ev_qL0 f_X12_soundOf (nx := 25) (r := []) rfl rfl rfl rfl rfl rfl rfl (c_n_beatsOf hI (z3) l3 (Int.le_trans u3 (by decide : (46:Int) ≤ 1752)) (w6) u6) rfl (fun w7 q7 => ?_)
  have q7 : (0 ≤ w7.toInt ∧ w7.toInt < 16777216) ∧ (0 ≤ w6.toInt → w7 = (s_bt (fun t => gi 70 (z3.toNatClampNeg + t)) w6.toNatClampNeg).1) := q7
  refine ev_retK1 f_X12_soundOf rfl rfl rfl ?_
  refine ev_loc f_X12_heardOf (nx := 6) rfl rfl rfl rfl ?_
  refine ev_getR f_X12_heardOf (nx := 9) rfl (hI.wf.s rfl) rfl rfl (hI.wf.r rfl) rfl rfl ?_
  refine ev_bp f_X12_heardOf (nx := 11) (v := 7) rfl (by decide) rfl ?_
  obtain ⟨l8, u8⟩ := hI.ab (by decide +kernel : t_abr 70 7 7 0 9 = true) (Nat.le_refl _) (Nat.le_refl _)
  refine ev_ialdv f_X12_heardOf (nx := 12) (w := (gi 70 7)) rfl (hI.wf.s rfl) (by decide) (rfl : (7 : Int32).toNatClampNeg = 7) (by decide) rfl rfl ?_
  refine ev_inS2 f_X12_heardOf (nx := 15) (lo2 := [(0, .long w7), (2, .int (gi 70 7))]) rfl rfl rfl rfl f_X12_echoed rfl rfl rfl rfl ?_
  refine ev_loc f_X12_echoed (nx := 1) rfl rfl rfl rfl ?_
  refine ev_if f_X12_echoed (t1 := 4) (t2 := 8) rfl rfl rfl (fun h9 => ?_) (fun h9 => ?_)
  · have u10 : (gi 70 7).toInt ≤ 0 := t_equ h9 (by decide : (0:Int32).toInt ≤ (0:Int))
    refine ev_loc f_X12_echoed (nx := 5) rfl rfl rfl rfl ?_
    refine ev_jmp f_X12_echoed (nx := 13) rfl rfl rfl ?_
    refine ev_retK1 f_X12_echoed rfl rfl rfl ?_
    exact ev_ret f_X12_heardOf rfl rfl rfl ⟨_, _, _, rfl, hI, hX, ⟨_, rfl, (show (0 ≤ w7.toInt ∧ w7.toInt < 8589934592) ∧ ∀ D : s_D, t_ME 0 gi D → ar1.toInt < D 0 → w7 = s_ec (s_so D ar1.toNatClampNeg) (D 7) from ⟨(by omega), (by
                                                            intro D hm hp
                                                            have h0 : (gi 70 0).toInt = D 0 := hm.1.1.1
                                                            have h7 : (gi 70 7).toInt = D 7 := hm.1.2.2.2.2
                                                            have ka := t_clamp (i := ar1) (by omega)
                                                            have kz := t_clamp (i := z3) (by omega)
                                                            have ki := t_clamp (i := z5) (by omega)
                                                            have hw := s_so_q (g := gi 70) (hm.2.1 ar1.toNatClampNeg (by omega)) e6 (by omega) (by omega) q7.2
                                                            rw [show D 7 = 0 by omega, s_ec_0]; exact hw)⟩)⟩⟩
  · have r11 : (gi 70 7).toInt ≠ 0 := fun e => h9 (Int32.toInt_inj.mp (e.trans (by decide : (0:Int) = (0 : Int32).toInt)))
    have l12 : 1 ≤ (gi 70 7).toInt := t_nel h9 l8 rfl rfl
    refine ev_loc f_X12_echoed (nx := 9) rfl rfl rfl rfl ?_
    refine ev_loc f_X12_echoed (nx := 10) rfl rfl rfl rfl ?_
    refine ev_loc f_X12_echoed (nx := 11) rfl rfl rfl rfl ?_
    refine ev_anyLE f_X12_echoed (nx := 12) rfl rfl rfl rfl (fun z13 e13 => ?_)
    refine ev_anyLE f_X12_echoed (nx := 13) rfl rfl rfl rfl (fun z14 e14 => ?_)
    refine ev_retK1 f_X12_echoed rfl rfl rfl ?_
    exact ev_ret f_X12_heardOf rfl rfl rfl ⟨_, _, _, rfl, hI, hX, ⟨_, rfl, (show (0 ≤ z14.toInt ∧ z14.toInt < 8589934592) ∧ ∀ D : s_D, t_ME 0 gi D → ar1.toInt < D 0 → z14 = s_ec (s_so D ar1.toNatClampNeg) (D 7) from ⟨(t_ech e13 e14 (by omega) (by omega) (by omega)), (by
                                                            intro D hm hp
                                                            have h0 : (gi 70 0).toInt = D 0 := hm.1.1.1
                                                            have h7 : (gi 70 7).toInt = D 7 := hm.1.2.2.2.2
                                                            have ka := t_clamp (i := ar1) (by omega)
                                                            have kz := t_clamp (i := z3) (by omega)
                                                            have ki := t_clamp (i := z5) (by omega)
                                                            have hw := s_so_q (g := gi 70) (hm.2.1 ar1.toNatClampNeg (by omega)) e6 (by omega) (by omega) q7.2
                                                            rw [← hw]
                                                            exact s_ec_e e13 e14 h7)⟩)⟩⟩
noncomputable def wl_e_sound : List (Nat × Nat) := [(69, 2)]
noncomputable def Q_e_sound (gi : Nat → Nat → Int32) (gl : Nat → Nat → Int64) (gr : Nat → Nat → Value) (ar1 : Int32) : Int64 → (Nat → Nat → Int32) → (Nat → Nat → Int64) → (Nat → Nat → Value) → Prop := fun (v : Int64) (gi2 : Nat → Nat → Int32) (gl2 : Nat → Nat → Int64) (gr2 : Nat → Nat → Value) => ∀ D : s_D, t_ME 0 gi D → t_Cb D → ((0 ≤ ar1.toInt ∧ ar1.toInt < D 0) → v = s_so D ar1.toNatClampNeg) ∧ (¬ (0 ≤ ar1.toInt ∧ ar1.toInt < D 0) → v.toInt = -1)
theorem c_e_sound {X : x_Ext} {d : Nat} {sh : List (Nat ⊕ (Nat × Nat))} {gi : Nat → Nat → Int32} {gl : Nat → Nat → Int64} {gr : Nat → Nat → Value} (hI : t_I sh gi gr) (ar1 : Int32) : x_Me X (d + 3) n_X12_sound [.ref 69, .int ar1] (sh, gi, gl, gr) (t_PL wl_e_sound sh gi gl gr (Q_e_sound gi gl gr ar1)) := by
  have hX : t_X wl_e_sound sh gi gl gr gi gl gr := t_X.rf
  refine me_i f_X12_sound (hI.wf.s rfl) rfl rfl rfl ?_
  refine ev_loc f_X12_sound (nx := 1) rfl rfl rfl rfl ?_
  refine ev_loc f_X12_sound (nx := 2) rfl rfl rfl rfl ?_
  refine ev_inV2 f_X12_sound (nx := 5) (lo2 := [(0, .ref 69), (1, .int ar1)]) rfl rfl rfl rfl f_X12_isPort (hI.wf.s rfl) rfl rfl rfl rfl rfl ?_
  refine ev_loc f_X12_isPort (nx := 1) rfl rfl rfl rfl ?_
  refine ev_if f_X12_isPort (t1 := 18) (t2 := 4) rfl rfl rfl (fun h1 => ?_) (fun h1 => ?_)
  · have u2 : ar1.toInt ≤ (-1) := t_ltu h1 (by decide : (0:Int32).toInt ≤ (0:Int)) rfl
    refine ev_ic f_X12_isPort (nx := 19) (v := 0) rfl (by decide) rfl ?_
    refine ev_retK1 f_X12_isPort rfl rfl rfl ?_
    refine ev_t f_X12_sound (t1 := 20) (t2 := 8) rfl rfl rfl (by decide) ?_
    refine ev_loc f_X12_sound (nx := 21) rfl rfl rfl rfl ?_
    refine ev_ic f_X12_sound (nx := 22) (v := 1) rfl (by decide) rfl ?_
    refine ev_inV2 f_X12_sound (nx := 25) (lo2 := [(0, .ref 69), (1, .int 1)]) rfl rfl rfl rfl f_X12_refuse (hI.wf.s rfl) rfl rfl rfl rfl rfl ?_
    refine ev_loc f_X12_refuse (nx := 1) rfl rfl rfl rfl ?_
    refine ev_loc f_X12_refuse (nx := 2) rfl rfl rfl rfl ?_
    refine ev_putIT f_X12_refuse (nx := 5) rfl (hI.wf.s rfl) rfl rfl rfl (hI.put0 (hI.wf.s rfl) rfl rfl) (hX.upI rfl) (fun g3 e3 hI hX => ?_)
    refine ev_ic f_X12_refuse (nx := 6) (v := -1) rfl (by decide) rfl ?_
    refine ev_retK1 f_X12_refuse rfl rfl rfl ?_
    refine ev_aluvL f_X12_sound (nx := 26) (w := -1) rfl rfl rfl (by decide) rfl ?_
    exact ev_ret f_X12_sound rfl rfl rfl ⟨_, _, _, rfl, hI, hX, ⟨_, rfl, (show ∀ D : s_D, t_ME 0 gi D → t_Cb D → ((0 ≤ ar1.toInt ∧ ar1.toInt < D 0) → ((-1) : Int64) = s_so D ar1.toNatClampNeg) ∧ (¬ (0 ≤ ar1.toInt ∧ ar1.toInt < D 0) → ((-1) : Int64).toInt = -1) from (by
                                                            intro D hm hb
                                                            have h0 : (gi 70 0).toInt = D 0 := hm.1.1.1
                                                            exact ⟨fun h => absurd h (by omega), fun _ => (by decide)⟩))⟩⟩
  · have l4 : 0 ≤ ar1.toInt := t_lel (t_nlt h1) (by decide : (0:Int) ≤ (0:Int32).toInt)
    refine ev_loc f_X12_isPort (nx := 5) rfl rfl rfl rfl ?_
    refine ev_loc f_X12_isPort (nx := 6) rfl rfl rfl rfl ?_
    refine ev_getR f_X12_isPort (nx := 9) rfl (hI.wf.s rfl) rfl rfl (hI.wf.r rfl) rfl rfl ?_
    refine ev_ic f_X12_isPort (nx := 10) (v := 0) rfl (by decide) rfl ?_
    obtain ⟨l5, u5⟩ := hI.ab (by decide +kernel : t_abr 70 0 0 0 6 = true) (Nat.le_refl _) (Nat.le_refl _)
    refine ev_ialdv f_X12_isPort (nx := 11) (w := (gi 70 0)) rfl (hI.wf.s rfl) (by decide) (rfl : (0 : Int32).toNatClampNeg = 0) (by decide) rfl rfl ?_
    refine ev_if f_X12_isPort (t1 := 18) (t2 := 14) rfl rfl rfl (fun h6 => ?_) (fun h6 => ?_)
    · have r7 : (gi 70 0).toInt ≤ ar1.toInt := Int32.le_iff_toInt_le.mp h6
      refine ev_ic f_X12_isPort (nx := 19) (v := 0) rfl (by decide) rfl ?_
      refine ev_retK1 f_X12_isPort rfl rfl rfl ?_
      refine ev_t f_X12_sound (t1 := 20) (t2 := 8) rfl rfl rfl (by decide) ?_
      refine ev_loc f_X12_sound (nx := 21) rfl rfl rfl rfl ?_
      refine ev_ic f_X12_sound (nx := 22) (v := 1) rfl (by decide) rfl ?_
      refine ev_inV2 f_X12_sound (nx := 25) (lo2 := [(0, .ref 69), (1, .int 1)]) rfl rfl rfl rfl f_X12_refuse (hI.wf.s rfl) rfl rfl rfl rfl rfl ?_
      refine ev_loc f_X12_refuse (nx := 1) rfl rfl rfl rfl ?_
      refine ev_loc f_X12_refuse (nx := 2) rfl rfl rfl rfl ?_
      refine ev_putIT f_X12_refuse (nx := 5) rfl (hI.wf.s rfl) rfl rfl rfl (hI.put0 (hI.wf.s rfl) rfl rfl) (hX.upI rfl) (fun g8 e8 hI hX => ?_)
      refine ev_ic f_X12_refuse (nx := 6) (v := -1) rfl (by decide) rfl ?_
      refine ev_retK1 f_X12_refuse rfl rfl rfl ?_
      refine ev_aluvL f_X12_sound (nx := 26) (w := -1) rfl rfl rfl (by decide) rfl ?_
      exact ev_ret f_X12_sound rfl rfl rfl ⟨_, _, _, rfl, hI, hX, ⟨_, rfl, (show ∀ D : s_D, t_ME 0 gi D → t_Cb D → ((0 ≤ ar1.toInt ∧ ar1.toInt < D 0) → ((-1) : Int64) = s_so D ar1.toNatClampNeg) ∧ (¬ (0 ≤ ar1.toInt ∧ ar1.toInt < D 0) → ((-1) : Int64).toInt = -1) from (by
                                                            intro D hm hb
                                                            have h0 : (gi 70 0).toInt = D 0 := hm.1.1.1
                                                            exact ⟨fun h => absurd h (by omega), fun _ => (by decide)⟩))⟩⟩
    · have r9 : ar1.toInt < (gi 70 0).toInt := Int32.lt_iff_toInt_lt.mp (t_nle h6)
      have u10 : ar1.toInt ≤ 5 := t_ltu (t_nle h6) u5 rfl
      have l11 : 1 ≤ (gi 70 0).toInt := t_ltl (t_nle h6) l4 rfl
      refine ev_ic f_X12_isPort (nx := 15) (v := 1) rfl (by decide) rfl ?_
      refine ev_jmp f_X12_isPort (nx := 19) rfl rfl rfl ?_
      refine ev_retK1 f_X12_isPort rfl rfl rfl ?_
      refine ev_f f_X12_sound (t1 := 20) (t2 := 8) rfl rfl rfl (by decide) ?_
      refine ev_loc f_X12_sound (nx := 9) rfl rfl rfl rfl ?_
      refine ev_loc f_X12_sound (nx := 10) rfl rfl rfl rfl ?_
      refine ev_loc f_X12_sound (nx := 11) rfl rfl rfl rfl ?_
      refine ev_inV2 f_X12_sound (nx := 14) (lo2 := [(0, .ref 69), (1, .int ar1)]) rfl rfl rfl rfl f_X12_soundOf (hI.wf.s rfl) rfl rfl rfl rfl rfl ?_
      refine ev_loc f_X12_soundOf (nx := 1) rfl rfl rfl rfl ?_
      refine ev_bp f_X12_soundOf (nx := 3) (v := 10) rfl (by decide) rfl ?_
      refine ev_bp f_X12_soundOf (nx := 5) (v := 7) rfl (by decide) rfl ?_
      refine ev_loc f_X12_soundOf (nx := 6) rfl rfl rfl rfl ?_
      refine ev_mulL f_X12_soundOf (nx := 7) (c := 7) (l := 0) (u := 35) rfl (by decide) (by decide) l4 u10 rfl rfl (by decide) (by decide) rfl (fun z12 e12 l12 u12 => ?_)
      refine ev_addK f_X12_soundOf (nx := 8) (c := 10) (l := 10) (u := 45) rfl (by decide) l12 u12 rfl rfl (by decide) (by decide) rfl (fun z13 e13 l13 u13 => ?_)
      refine ev_ic f_X12_soundOf (nx := 9) (v := 1) rfl (by decide) rfl ?_
      refine ev_addC f_X12_soundOf (nx := 10) (c := 1) (l := 11) (u := 46) rfl (by decide) l13 u13 rfl rfl (by decide) (by decide) rfl (fun z14 e14 l14 u14 => ?_)
      refine ev_loc f_X12_soundOf (nx := 11) rfl rfl rfl rfl ?_
      refine ev_getR f_X12_soundOf (nx := 14) rfl (hI.wf.s rfl) rfl rfl (hI.wf.r rfl) rfl rfl ?_
      refine ev_bp f_X12_soundOf (nx := 16) (v := 10) rfl (by decide) rfl ?_
      refine ev_bp f_X12_soundOf (nx := 18) (v := 7) rfl (by decide) rfl ?_
      refine ev_loc f_X12_soundOf (nx := 19) rfl rfl rfl rfl ?_
      refine ev_mulL f_X12_soundOf (nx := 20) (c := 7) (l := 0) (u := 35) rfl (by decide) (by decide) l4 u10 rfl rfl (by decide) (by decide) rfl (fun z15 e15 l15 u15 => ?_)
      refine ev_addK f_X12_soundOf (nx := 21) (c := 10) (l := 10) (u := 45) rfl (by decide) l15 u15 rfl rfl (by decide) (by decide) rfl (fun z16 e16 l16 u16 => ?_)
      refine ev_ialdT f_X12_soundOf (nx := 22) rfl (hI.wf.s rfl) l16 (by decide) u16 (by decide) rfl (fun w17 e17 => ?_)
      obtain ⟨l17, u17⟩ := hI.abA (x := ar1) e17 (by decide +kernel : t_aba 70 10 7 0 5 (-900) 6 = true) (by omega) (by omega) (by omega)
      refine ev_qL0 f_X12_soundOf (nx := 25) (r := []) rfl rfl rfl rfl rfl rfl rfl (c_n_beatsOf hI (z14) l14 (Int.le_trans u14 (by decide : (46:Int) ≤ 1752)) (w17) u17) rfl (fun w18 q18 => ?_)
      have q18 : (0 ≤ w18.toInt ∧ w18.toInt < 16777216) ∧ (0 ≤ w17.toInt → w18 = (s_bt (fun t => gi 70 (z14.toNatClampNeg + t)) w17.toNatClampNeg).1) := q18
      refine ev_retK1 f_X12_soundOf rfl rfl rfl ?_
      refine ev_inV2 f_X12_sound (nx := 17) (lo2 := [(0, .ref 69), (1, .long w18)]) rfl rfl rfl rfl f_X12_givesLong (hI.wf.s rfl) rfl rfl rfl rfl rfl ?_
      refine ev_loc f_X12_givesLong (nx := 1) rfl rfl rfl rfl ?_
      refine ev_ic f_X12_givesLong (nx := 2) (v := 0) rfl (by decide) rfl ?_
      refine ev_putIT f_X12_givesLong (nx := 5) rfl (hI.wf.s rfl) rfl rfl rfl (hI.put0 (hI.wf.s rfl) rfl rfl) (hX.upI rfl) (fun g19 e19 hI hX => ?_)
      refine ev_loc f_X12_givesLong (nx := 6) rfl rfl rfl rfl ?_
      refine ev_retK1 f_X12_givesLong rfl rfl rfl ?_
      refine ev_jmp f_X12_sound (nx := 26) rfl rfl rfl ?_
      exact ev_ret f_X12_sound rfl rfl rfl ⟨_, _, _, rfl, hI, hX, ⟨_, rfl, (show ∀ D : s_D, t_ME 0 gi D → t_Cb D → ((0 ≤ ar1.toInt ∧ ar1.toInt < D 0) → w18 = s_so D ar1.toNatClampNeg) ∧ (¬ (0 ≤ ar1.toInt ∧ ar1.toInt < D 0) → w18.toInt = -1) from (by
                                                            intro D hm hb
                                                            have h0 : (gi 70 0).toInt = D 0 := hm.1.1.1
                                                            have ka := t_clamp (i := ar1) (by omega)
                                                            have kz := t_clamp (i := z14) (by omega)
                                                            have ki := t_clamp (i := z16) (by omega)
                                                            have hw := s_so_q (g := gi 70) (hm.2.1 ar1.toNatClampNeg (by omega)) e17 (by omega) (by omega) q18.2
                                                            exact ⟨fun _ => hw, fun h => absurd (show _ from ⟨by omega, by omega⟩) h⟩))⟩⟩
noncomputable def wl_e_heard : List (Nat × Nat) := [(69, 2)]
noncomputable def Q_e_heard (gi : Nat → Nat → Int32) (gl : Nat → Nat → Int64) (gr : Nat → Nat → Value) (ar1 : Int32) : Int64 → (Nat → Nat → Int32) → (Nat → Nat → Int64) → (Nat → Nat → Value) → Prop := fun (v : Int64) (gi2 : Nat → Nat → Int32) (gl2 : Nat → Nat → Int64) (gr2 : Nat → Nat → Value) => ∀ D : s_D, t_ME 0 gi D → t_Cb D → ((0 ≤ ar1.toInt ∧ ar1.toInt < D 0) → v = s_hd D ar1.toInt) ∧ (¬ (0 ≤ ar1.toInt ∧ ar1.toInt < D 0) → v.toInt = -1)
theorem c_e_heard {X : x_Ext} {d : Nat} {sh : List (Nat ⊕ (Nat × Nat))} {gi : Nat → Nat → Int32} {gl : Nat → Nat → Int64} {gr : Nat → Nat → Value} (hI : t_I sh gi gr) (ar1 : Int32) : x_Me X (d + 4) n_X12_heard [.ref 69, .int ar1] (sh, gi, gl, gr) (t_PL wl_e_heard sh gi gl gr (Q_e_heard gi gl gr ar1)) := by
  have hX : t_X wl_e_heard sh gi gl gr gi gl gr := t_X.rf
  refine me_i f_X12_heard (hI.wf.s rfl) rfl rfl rfl ?_
  refine ev_loc f_X12_heard (nx := 1) rfl rfl rfl rfl ?_
  refine ev_loc f_X12_heard (nx := 2) rfl rfl rfl rfl ?_
  refine ev_inV2 f_X12_heard (nx := 5) (lo2 := [(0, .ref 69), (1, .int ar1)]) rfl rfl rfl rfl f_X12_isPort (hI.wf.s rfl) rfl rfl rfl rfl rfl ?_
  refine ev_loc f_X12_isPort (nx := 1) rfl rfl rfl rfl ?_
  refine ev_if f_X12_isPort (t1 := 18) (t2 := 4) rfl rfl rfl (fun h1 => ?_) (fun h1 => ?_)
  · have u2 : ar1.toInt ≤ (-1) := t_ltu h1 (by decide : (0:Int32).toInt ≤ (0:Int)) rfl
    refine ev_ic f_X12_isPort (nx := 19) (v := 0) rfl (by decide) rfl ?_
    refine ev_retK1 f_X12_isPort rfl rfl rfl ?_
    refine ev_t f_X12_heard (t1 := 20) (t2 := 8) rfl rfl rfl (by decide) ?_
    refine ev_loc f_X12_heard (nx := 21) rfl rfl rfl rfl ?_
    refine ev_ic f_X12_heard (nx := 22) (v := 1) rfl (by decide) rfl ?_
    refine ev_inV2 f_X12_heard (nx := 25) (lo2 := [(0, .ref 69), (1, .int 1)]) rfl rfl rfl rfl f_X12_refuse (hI.wf.s rfl) rfl rfl rfl rfl rfl ?_
    refine ev_loc f_X12_refuse (nx := 1) rfl rfl rfl rfl ?_
    refine ev_loc f_X12_refuse (nx := 2) rfl rfl rfl rfl ?_
    refine ev_putIT f_X12_refuse (nx := 5) rfl (hI.wf.s rfl) rfl rfl rfl (hI.put0 (hI.wf.s rfl) rfl rfl) (hX.upI rfl) (fun g3 e3 hI hX => ?_)
    refine ev_ic f_X12_refuse (nx := 6) (v := -1) rfl (by decide) rfl ?_
    refine ev_retK1 f_X12_refuse rfl rfl rfl ?_
    refine ev_aluvL f_X12_heard (nx := 26) (w := -1) rfl rfl rfl (by decide) rfl ?_
    exact ev_ret f_X12_heard rfl rfl rfl ⟨_, _, _, rfl, hI, hX, ⟨_, rfl, (show ∀ D : s_D, t_ME 0 gi D → t_Cb D → ((0 ≤ ar1.toInt ∧ ar1.toInt < D 0) → ((-1) : Int64) = s_hd D ar1.toInt) ∧ (¬ (0 ≤ ar1.toInt ∧ ar1.toInt < D 0) → ((-1) : Int64).toInt = -1) from (by
                                                            intro D hm hb
                                                            have h0 : (gi 70 0).toInt = D 0 := hm.1.1.1
                                                            exact ⟨fun h => absurd h (by omega), fun _ => (by decide)⟩))⟩⟩
  · have l4 : 0 ≤ ar1.toInt := t_lel (t_nlt h1) (by decide : (0:Int) ≤ (0:Int32).toInt)
    refine ev_loc f_X12_isPort (nx := 5) rfl rfl rfl rfl ?_
    refine ev_loc f_X12_isPort (nx := 6) rfl rfl rfl rfl ?_
    refine ev_getR f_X12_isPort (nx := 9) rfl (hI.wf.s rfl) rfl rfl (hI.wf.r rfl) rfl rfl ?_
    refine ev_ic f_X12_isPort (nx := 10) (v := 0) rfl (by decide) rfl ?_
    obtain ⟨l5, u5⟩ := hI.ab (by decide +kernel : t_abr 70 0 0 0 6 = true) (Nat.le_refl _) (Nat.le_refl _)
    refine ev_ialdv f_X12_isPort (nx := 11) (w := (gi 70 0)) rfl (hI.wf.s rfl) (by decide) (rfl : (0 : Int32).toNatClampNeg = 0) (by decide) rfl rfl ?_
    refine ev_if f_X12_isPort (t1 := 18) (t2 := 14) rfl rfl rfl (fun h6 => ?_) (fun h6 => ?_)
    · have r7 : (gi 70 0).toInt ≤ ar1.toInt := Int32.le_iff_toInt_le.mp h6
      refine ev_ic f_X12_isPort (nx := 19) (v := 0) rfl (by decide) rfl ?_
      refine ev_retK1 f_X12_isPort rfl rfl rfl ?_
      refine ev_t f_X12_heard (t1 := 20) (t2 := 8) rfl rfl rfl (by decide) ?_
      refine ev_loc f_X12_heard (nx := 21) rfl rfl rfl rfl ?_
      refine ev_ic f_X12_heard (nx := 22) (v := 1) rfl (by decide) rfl ?_
      refine ev_inV2 f_X12_heard (nx := 25) (lo2 := [(0, .ref 69), (1, .int 1)]) rfl rfl rfl rfl f_X12_refuse (hI.wf.s rfl) rfl rfl rfl rfl rfl ?_
      refine ev_loc f_X12_refuse (nx := 1) rfl rfl rfl rfl ?_
      refine ev_loc f_X12_refuse (nx := 2) rfl rfl rfl rfl ?_
      refine ev_putIT f_X12_refuse (nx := 5) rfl (hI.wf.s rfl) rfl rfl rfl (hI.put0 (hI.wf.s rfl) rfl rfl) (hX.upI rfl) (fun g8 e8 hI hX => ?_)
      refine ev_ic f_X12_refuse (nx := 6) (v := -1) rfl (by decide) rfl ?_
      refine ev_retK1 f_X12_refuse rfl rfl rfl ?_
      refine ev_aluvL f_X12_heard (nx := 26) (w := -1) rfl rfl rfl (by decide) rfl ?_
      exact ev_ret f_X12_heard rfl rfl rfl ⟨_, _, _, rfl, hI, hX, ⟨_, rfl, (show ∀ D : s_D, t_ME 0 gi D → t_Cb D → ((0 ≤ ar1.toInt ∧ ar1.toInt < D 0) → ((-1) : Int64) = s_hd D ar1.toInt) ∧ (¬ (0 ≤ ar1.toInt ∧ ar1.toInt < D 0) → ((-1) : Int64).toInt = -1) from (by
                                                            intro D hm hb
                                                            have h0 : (gi 70 0).toInt = D 0 := hm.1.1.1
                                                            exact ⟨fun h => absurd h (by omega), fun _ => (by decide)⟩))⟩⟩
    · have r9 : ar1.toInt < (gi 70 0).toInt := Int32.lt_iff_toInt_lt.mp (t_nle h6)
      have u10 : ar1.toInt ≤ 5 := t_ltu (t_nle h6) u5 rfl
      have l11 : 1 ≤ (gi 70 0).toInt := t_ltl (t_nle h6) l4 rfl
      refine ev_ic f_X12_isPort (nx := 15) (v := 1) rfl (by decide) rfl ?_
      refine ev_jmp f_X12_isPort (nx := 19) rfl rfl rfl ?_
      refine ev_retK1 f_X12_isPort rfl rfl rfl ?_
      refine ev_f f_X12_heard (t1 := 20) (t2 := 8) rfl rfl rfl (by decide) ?_
      refine ev_loc f_X12_heard (nx := 9) rfl rfl rfl rfl ?_
      refine ev_loc f_X12_heard (nx := 10) rfl rfl rfl rfl ?_
      refine ev_loc f_X12_heard (nx := 11) rfl rfl rfl rfl ?_
      refine ev_qL0 f_X12_heard (nx := 14) (r := [.ref 69]) rfl rfl rfl rfl rfl rfl rfl (c_n_heardOf hI (ar1) l4 u10) rfl (fun w12 q12 => ?_)
      have q12 : (0 ≤ w12.toInt ∧ w12.toInt < 8589934592) ∧ ∀ D : s_D, t_ME 0 gi D → ar1.toInt < D 0 → w12 = s_ec (s_so D ar1.toNatClampNeg) (D 7) := q12
      refine ev_inV2 f_X12_heard (nx := 17) (lo2 := [(0, .ref 69), (1, .long w12)]) rfl rfl rfl rfl f_X12_givesLong (hI.wf.s rfl) rfl rfl rfl rfl rfl ?_
      refine ev_loc f_X12_givesLong (nx := 1) rfl rfl rfl rfl ?_
      refine ev_ic f_X12_givesLong (nx := 2) (v := 0) rfl (by decide) rfl ?_
      refine ev_putIT f_X12_givesLong (nx := 5) rfl (hI.wf.s rfl) rfl rfl rfl (hI.put0 (hI.wf.s rfl) rfl rfl) (hX.upI rfl) (fun g13 e13 hI hX => ?_)
      refine ev_loc f_X12_givesLong (nx := 6) rfl rfl rfl rfl ?_
      refine ev_retK1 f_X12_givesLong rfl rfl rfl ?_
      refine ev_jmp f_X12_heard (nx := 26) rfl rfl rfl ?_
      exact ev_ret f_X12_heard rfl rfl rfl ⟨_, _, _, rfl, hI, hX, ⟨_, rfl, (show ∀ D : s_D, t_ME 0 gi D → t_Cb D → ((0 ≤ ar1.toInt ∧ ar1.toInt < D 0) → w12 = s_hd D ar1.toInt) ∧ (¬ (0 ≤ ar1.toInt ∧ ar1.toInt < D 0) → w12.toInt = -1) from (by
                                                            intro D hm hb
                                                            have h0 : (gi 70 0).toInt = D 0 := hm.1.1.1
                                                            refine ⟨fun _ => ?_, fun h => absurd (show _ from ⟨by omega, by omega⟩) h⟩
                                                            exact (q12.2 D hm (by omega)).trans ((s_hd_i (D := D) (p := ar1.toInt) (by omega) (by omega)).trans (by rw [show ar1.toInt.toNat = ar1.toNatClampNeg from (by have := t_clamp (i := ar1) (by omega); omega)])).symm))⟩⟩
noncomputable def wl_e_together : List (Nat × Nat) := [(69, 2)]
noncomputable def Q_e_together (gi : Nat → Nat → Int32) (gl : Nat → Nat → Int64) (gr : Nat → Nat → Value) (ar1 : Int32) (ar2 : Int32) (ar3 : Int32) : Int64 → (Nat → Nat → Int32) → (Nat → Nat → Int64) → (Nat → Nat → Value) → Prop := fun (v : Int64) (gi2 : Nat → Nat → Int32) (gl2 : Nat → Nat → Int64) (gr2 : Nat → Nat → Value) => ∀ D : s_D, t_ME 0 gi D → t_Cb D → ((0 ≤ ar1.toInt ∧ ar1.toInt < D 0 ∧ 0 ≤ ar2.toInt ∧ ar2.toInt < D 0 ∧ 0 ≤ ar3.toInt ∧ ar3.toInt ≤ 12) → v = s_hd D ar1.toInt ||| (s_hd D ar2.toInt <<< (ar3.toInt64 &&& 63))) ∧ (¬ (0 ≤ ar1.toInt ∧ ar1.toInt < D 0 ∧ 0 ≤ ar2.toInt ∧ ar2.toInt < D 0 ∧ 0 ≤ ar3.toInt ∧ ar3.toInt ≤ 12) → v.toInt = -1)
theorem c_e_together {X : x_Ext} {d : Nat} {sh : List (Nat ⊕ (Nat × Nat))} {gi : Nat → Nat → Int32} {gl : Nat → Nat → Int64} {gr : Nat → Nat → Value} (hI : t_I sh gi gr) (ar1 : Int32) (ar2 : Int32) (ar3 : Int32) : x_Me X (d + 4) n_X12_together [.ref 69, .int ar1, .int ar2, .int ar3] (sh, gi, gl, gr) (t_PL wl_e_together sh gi gl gr (Q_e_together gi gl gr ar1 ar2 ar3)) := by
  have hX : t_X wl_e_together sh gi gl gr gi gl gr := t_X.rf
  refine me_i f_X12_together (hI.wf.s rfl) rfl rfl rfl ?_
  refine ev_loc f_X12_together (nx := 1) rfl rfl rfl rfl ?_
  refine ev_loc f_X12_together (nx := 2) rfl rfl rfl rfl ?_
  refine ev_inV2 f_X12_together (nx := 5) (lo2 := [(0, .ref 69), (1, .int ar1)]) rfl rfl rfl rfl f_X12_isPort (hI.wf.s rfl) rfl rfl rfl rfl rfl ?_
  refine ev_loc f_X12_isPort (nx := 1) rfl rfl rfl rfl ?_
  refine ev_if f_X12_isPort (t1 := 18) (t2 := 4) rfl rfl rfl (fun h1 => ?_) (fun h1 => ?_)
  · have u2 : ar1.toInt ≤ (-1) := t_ltu h1 (by decide : (0:Int32).toInt ≤ (0:Int)) rfl
    refine ev_ic f_X12_isPort (nx := 19) (v := 0) rfl (by decide) rfl ?_
    refine ev_retK1 f_X12_isPort rfl rfl rfl ?_
    refine ev_t f_X12_together (t1 := 48) (t2 := 8) rfl rfl rfl (by decide) ?_
    refine ev_loc f_X12_together (nx := 49) rfl rfl rfl rfl ?_
    refine ev_ic f_X12_together (nx := 50) (v := 1) rfl (by decide) rfl ?_
    refine ev_inV2 f_X12_together (nx := 53) (lo2 := [(0, .ref 69), (1, .int 1)]) rfl rfl rfl rfl f_X12_refuse (hI.wf.s rfl) rfl rfl rfl rfl rfl ?_
    refine ev_loc f_X12_refuse (nx := 1) rfl rfl rfl rfl ?_
    refine ev_loc f_X12_refuse (nx := 2) rfl rfl rfl rfl ?_
    refine ev_putIT f_X12_refuse (nx := 5) rfl (hI.wf.s rfl) rfl rfl rfl (hI.put0 (hI.wf.s rfl) rfl rfl) (hX.upI rfl) (fun g3 e3 hI hX => ?_)
    refine ev_ic f_X12_refuse (nx := 6) (v := -1) rfl (by decide) rfl ?_
    refine ev_retK1 f_X12_refuse rfl rfl rfl ?_
    refine ev_aluvL f_X12_together (nx := 54) (w := -1) rfl rfl rfl (by decide) rfl ?_
    exact ev_ret f_X12_together rfl rfl rfl ⟨_, _, _, rfl, hI, hX, ⟨_, rfl, (show ∀ D : s_D, t_ME 0 gi D → t_Cb D → ((0 ≤ ar1.toInt ∧ ar1.toInt < D 0 ∧ 0 ≤ ar2.toInt ∧ ar2.toInt < D 0 ∧ 0 ≤ ar3.toInt ∧ ar3.toInt ≤ 12) → ((-1) : Int64) = s_hd D ar1.toInt ||| (s_hd D ar2.toInt <<< (ar3.toInt64 &&& 63))) ∧ (¬ (0 ≤ ar1.toInt ∧ ar1.toInt < D 0 ∧ 0 ≤ ar2.toInt ∧ ar2.toInt < D 0 ∧ 0 ≤ ar3.toInt ∧ ar3.toInt ≤ 12) → ((-1) : Int64).toInt = -1) from (by
                                                            intro D hm hb
                                                            have h0 : (gi 70 0).toInt = D 0 := hm.1.1.1
                                                            exact ⟨fun h => absurd h (by omega), fun _ => (by decide)⟩))⟩⟩
  · have l4 : 0 ≤ ar1.toInt := t_lel (t_nlt h1) (by decide : (0:Int) ≤ (0:Int32).toInt)
    refine ev_loc f_X12_isPort (nx := 5) rfl rfl rfl rfl ?_
    refine ev_loc f_X12_isPort (nx := 6) rfl rfl rfl rfl ?_
    refine ev_getR f_X12_isPort (nx := 9) rfl (hI.wf.s rfl) rfl rfl (hI.wf.r rfl) rfl rfl ?_
    refine ev_ic f_X12_isPort (nx := 10) (v := 0) rfl (by decide) rfl ?_
    obtain ⟨l5, u5⟩ := hI.ab (by decide +kernel : t_abr 70 0 0 0 6 = true) (Nat.le_refl _) (Nat.le_refl _)
    refine ev_ialdv f_X12_isPort (nx := 11) (w := (gi 70 0)) rfl (hI.wf.s rfl) (by decide) (rfl : (0 : Int32).toNatClampNeg = 0) (by decide) rfl rfl ?_
    refine ev_if f_X12_isPort (t1 := 18) (t2 := 14) rfl rfl rfl (fun h6 => ?_) (fun h6 => ?_)
    · have r7 : (gi 70 0).toInt ≤ ar1.toInt := Int32.le_iff_toInt_le.mp h6
      refine ev_ic f_X12_isPort (nx := 19) (v := 0) rfl (by decide) rfl ?_
      refine ev_retK1 f_X12_isPort rfl rfl rfl ?_
      refine ev_t f_X12_together (t1 := 48) (t2 := 8) rfl rfl rfl (by decide) ?_
      refine ev_loc f_X12_together (nx := 49) rfl rfl rfl rfl ?_
      refine ev_ic f_X12_together (nx := 50) (v := 1) rfl (by decide) rfl ?_
      refine ev_inV2 f_X12_together (nx := 53) (lo2 := [(0, .ref 69), (1, .int 1)]) rfl rfl rfl rfl f_X12_refuse (hI.wf.s rfl) rfl rfl rfl rfl rfl ?_
      refine ev_loc f_X12_refuse (nx := 1) rfl rfl rfl rfl ?_
      refine ev_loc f_X12_refuse (nx := 2) rfl rfl rfl rfl ?_
      refine ev_putIT f_X12_refuse (nx := 5) rfl (hI.wf.s rfl) rfl rfl rfl (hI.put0 (hI.wf.s rfl) rfl rfl) (hX.upI rfl) (fun g8 e8 hI hX => ?_)
      refine ev_ic f_X12_refuse (nx := 6) (v := -1) rfl (by decide) rfl ?_
      refine ev_retK1 f_X12_refuse rfl rfl rfl ?_
      refine ev_aluvL f_X12_together (nx := 54) (w := -1) rfl rfl rfl (by decide) rfl ?_
      exact ev_ret f_X12_together rfl rfl rfl ⟨_, _, _, rfl, hI, hX, ⟨_, rfl, (show ∀ D : s_D, t_ME 0 gi D → t_Cb D → ((0 ≤ ar1.toInt ∧ ar1.toInt < D 0 ∧ 0 ≤ ar2.toInt ∧ ar2.toInt < D 0 ∧ 0 ≤ ar3.toInt ∧ ar3.toInt ≤ 12) → ((-1) : Int64) = s_hd D ar1.toInt ||| (s_hd D ar2.toInt <<< (ar3.toInt64 &&& 63))) ∧ (¬ (0 ≤ ar1.toInt ∧ ar1.toInt < D 0 ∧ 0 ≤ ar2.toInt ∧ ar2.toInt < D 0 ∧ 0 ≤ ar3.toInt ∧ ar3.toInt ≤ 12) → ((-1) : Int64).toInt = -1) from (by
                                                            intro D hm hb
                                                            have h0 : (gi 70 0).toInt = D 0 := hm.1.1.1
                                                            exact ⟨fun h => absurd h (by omega), fun _ => (by decide)⟩))⟩⟩
    · have r9 : ar1.toInt < (gi 70 0).toInt := Int32.lt_iff_toInt_lt.mp (t_nle h6)
      have u10 : ar1.toInt ≤ 5 := t_ltu (t_nle h6) u5 rfl
      have l11 : 1 ≤ (gi 70 0).toInt := t_ltl (t_nle h6) l4 rfl
      refine ev_ic f_X12_isPort (nx := 15) (v := 1) rfl (by decide) rfl ?_
      refine ev_jmp f_X12_isPort (nx := 19) rfl rfl rfl ?_
      refine ev_retK1 f_X12_isPort rfl rfl rfl ?_
      refine ev_f f_X12_together (t1 := 48) (t2 := 8) rfl rfl rfl (by decide) ?_
      refine ev_loc f_X12_together (nx := 9) rfl rfl rfl rfl ?_
      refine ev_loc f_X12_together (nx := 10) rfl rfl rfl rfl ?_
      refine ev_inV2 f_X12_together (nx := 13) (lo2 := [(0, .ref 69), (1, .int ar2)]) rfl rfl rfl rfl f_X12_isPort (hI.wf.s rfl) rfl rfl rfl rfl rfl ?_
      refine ev_loc f_X12_isPort (nx := 1) rfl rfl rfl rfl ?_
      refine ev_if f_X12_isPort (t1 := 18) (t2 := 4) rfl rfl rfl (fun h12 => ?_) (fun h12 => ?_)
      · have u13 : ar2.toInt ≤ (-1) := t_ltu h12 (by decide : (0:Int32).toInt ≤ (0:Int)) rfl
        refine ev_ic f_X12_isPort (nx := 19) (v := 0) rfl (by decide) rfl ?_
        refine ev_retK1 f_X12_isPort rfl rfl rfl ?_
        refine ev_t f_X12_together (t1 := 48) (t2 := 16) rfl rfl rfl (by decide) ?_
        refine ev_loc f_X12_together (nx := 49) rfl rfl rfl rfl ?_
        refine ev_ic f_X12_together (nx := 50) (v := 1) rfl (by decide) rfl ?_
        refine ev_inV2 f_X12_together (nx := 53) (lo2 := [(0, .ref 69), (1, .int 1)]) rfl rfl rfl rfl f_X12_refuse (hI.wf.s rfl) rfl rfl rfl rfl rfl ?_
        refine ev_loc f_X12_refuse (nx := 1) rfl rfl rfl rfl ?_
        refine ev_loc f_X12_refuse (nx := 2) rfl rfl rfl rfl ?_
        refine ev_putIT f_X12_refuse (nx := 5) rfl (hI.wf.s rfl) rfl rfl rfl (hI.put0 (hI.wf.s rfl) rfl rfl) (hX.upI rfl) (fun g14 e14 hI hX => ?_)
        refine ev_ic f_X12_refuse (nx := 6) (v := -1) rfl (by decide) rfl ?_
        refine ev_retK1 f_X12_refuse rfl rfl rfl ?_
        refine ev_aluvL f_X12_together (nx := 54) (w := -1) rfl rfl rfl (by decide) rfl ?_
        exact ev_ret f_X12_together rfl rfl rfl ⟨_, _, _, rfl, hI, hX, ⟨_, rfl, (show ∀ D : s_D, t_ME 0 gi D → t_Cb D → ((0 ≤ ar1.toInt ∧ ar1.toInt < D 0 ∧ 0 ≤ ar2.toInt ∧ ar2.toInt < D 0 ∧ 0 ≤ ar3.toInt ∧ ar3.toInt ≤ 12) → ((-1) : Int64) = s_hd D ar1.toInt ||| (s_hd D ar2.toInt <<< (ar3.toInt64 &&& 63))) ∧ (¬ (0 ≤ ar1.toInt ∧ ar1.toInt < D 0 ∧ 0 ≤ ar2.toInt ∧ ar2.toInt < D 0 ∧ 0 ≤ ar3.toInt ∧ ar3.toInt ≤ 12) → ((-1) : Int64).toInt = -1) from (by
                                                            intro D hm hb
                                                            have h0 : (gi 70 0).toInt = D 0 := hm.1.1.1
                                                            exact ⟨fun h => absurd h (by omega), fun _ => (by decide)⟩))⟩⟩
      · have l15 : 0 ≤ ar2.toInt := t_lel (t_nlt h12) (by decide : (0:Int) ≤ (0:Int32).toInt)
        refine ev_loc f_X12_isPort (nx := 5) rfl rfl rfl rfl ?_
        refine ev_loc f_X12_isPort (nx := 6) rfl rfl rfl rfl ?_
        refine ev_getR f_X12_isPort (nx := 9) rfl (hI.wf.s rfl) rfl rfl (hI.wf.r rfl) rfl rfl ?_
        refine ev_ic f_X12_isPort (nx := 10) (v := 0) rfl (by decide) rfl ?_
        refine ev_ialdv f_X12_isPort (nx := 11) (w := (gi 70 0)) rfl (hI.wf.s rfl) (by decide) (rfl : (0 : Int32).toNatClampNeg = 0) (by decide) rfl rfl ?_
        refine ev_if f_X12_isPort (t1 := 18) (t2 := 14) rfl rfl rfl (fun h17 => ?_) (fun h17 => ?_)
        · have r18 : (gi 70 0).toInt ≤ ar2.toInt := Int32.le_iff_toInt_le.mp h17
          have l19 : 1 ≤ ar2.toInt := t_lel h17 l11
          refine ev_ic f_X12_isPort (nx := 19) (v := 0) rfl (by decide) rfl ?_
          refine ev_retK1 f_X12_isPort rfl rfl rfl ?_
          refine ev_t f_X12_together (t1 := 48) (t2 := 16) rfl rfl rfl (by decide) ?_
          refine ev_loc f_X12_together (nx := 49) rfl rfl rfl rfl ?_
          refine ev_ic f_X12_together (nx := 50) (v := 1) rfl (by decide) rfl ?_
          refine ev_inV2 f_X12_together (nx := 53) (lo2 := [(0, .ref 69), (1, .int 1)]) rfl rfl rfl rfl f_X12_refuse (hI.wf.s rfl) rfl rfl rfl rfl rfl ?_
          refine ev_loc f_X12_refuse (nx := 1) rfl rfl rfl rfl ?_
          refine ev_loc f_X12_refuse (nx := 2) rfl rfl rfl rfl ?_
          refine ev_putIT f_X12_refuse (nx := 5) rfl (hI.wf.s rfl) rfl rfl rfl (hI.put0 (hI.wf.s rfl) rfl rfl) (hX.upI rfl) (fun g20 e20 hI hX => ?_)
          refine ev_ic f_X12_refuse (nx := 6) (v := -1) rfl (by decide) rfl ?_
          refine ev_retK1 f_X12_refuse rfl rfl rfl ?_
          refine ev_aluvL f_X12_together (nx := 54) (w := -1) rfl rfl rfl (by decide) rfl ?_
          exact ev_ret f_X12_together rfl rfl rfl ⟨_, _, _, rfl, hI, hX, ⟨_, rfl, (show ∀ D : s_D, t_ME 0 gi D → t_Cb D → ((0 ≤ ar1.toInt ∧ ar1.toInt < D 0 ∧ 0 ≤ ar2.toInt ∧ ar2.toInt < D 0 ∧ 0 ≤ ar3.toInt ∧ ar3.toInt ≤ 12) → ((-1) : Int64) = s_hd D ar1.toInt ||| (s_hd D ar2.toInt <<< (ar3.toInt64 &&& 63))) ∧ (¬ (0 ≤ ar1.toInt ∧ ar1.toInt < D 0 ∧ 0 ≤ ar2.toInt ∧ ar2.toInt < D 0 ∧ 0 ≤ ar3.toInt ∧ ar3.toInt ≤ 12) → ((-1) : Int64).toInt = -1) from (by
                                                            intro D hm hb
                                                            have h0 : (gi 70 0).toInt = D 0 := hm.1.1.1
                                                            exact ⟨fun h => absurd h (by omega), fun _ => (by decide)⟩))⟩⟩
        · have r21 : ar2.toInt < (gi 70 0).toInt := Int32.lt_iff_toInt_lt.mp (t_nle h17)
          have u22 : ar2.toInt ≤ 5 := t_ltu (t_nle h17) u5 rfl
          refine ev_ic f_X12_isPort (nx := 15) (v := 1) rfl (by decide) rfl ?_
          refine ev_jmp f_X12_isPort (nx := 19) rfl rfl rfl ?_
          refine ev_retK1 f_X12_isPort rfl rfl rfl ?_
          refine ev_f f_X12_together (t1 := 48) (t2 := 16) rfl rfl rfl (by decide) ?_
          refine ev_loc f_X12_together (nx := 17) rfl rfl rfl rfl ?_
          refine ev_anyLE f_X12_together (nx := 18) rfl rfl rfl rfl (fun z23 e23 => ?_)
          have i23 : z23.toInt = ar3.toInt := by rw [e23]; exact Int32.toInt_toInt64 _
          refine ev_lc f_X12_together (nx := 19) (v := 0) rfl (by decide) rfl ?_
          refine ev_ldL f_X12_together (nx := 22) (v := 12) rfl (by decide) rfl ?_
          refine ev_inS3 f_X12_together (nx := 25) (lo2 := [(0, .long z23), (2, .long 0), (4, .long 12)]) rfl rfl rfl rfl f_X12_isFrom rfl rfl rfl rfl ?_
          refine ev_loc f_X12_isFrom (nx := 1) rfl rfl rfl rfl ?_
          refine ev_loc f_X12_isFrom (nx := 2) rfl rfl rfl rfl ?_
          refine ev_anyIE f_X12_isFrom (nx := 3) rfl rfl rfl rfl (fun z24 e24 => ?_)
          refine ev_if f_X12_isFrom (t1 := 17) (t2 := 6) rfl rfl rfl (fun h25 => ?_) (fun h25 => ?_)
          · have u26 : ar3.toInt ≤ ((-1):Int) := Int.le_sub_one_of_lt ((lgc_lt (by decide : (0 : Int64).toInt = 0)).mp (by have hh := h25; rw [e24, e23] at hh; exact hh))
            have u27 : z24.toInt ≤ (-1) := t_ltu h25 (by decide : (0:Int32).toInt ≤ (0:Int)) rfl
            refine ev_ic f_X12_isFrom (nx := 18) (v := 0) rfl (by decide) rfl ?_
            refine ev_retK1 f_X12_isFrom rfl rfl rfl ?_
            refine ev_t f_X12_together (t1 := 48) (t2 := 28) rfl rfl rfl (by decide) ?_
            refine ev_loc f_X12_together (nx := 49) rfl rfl rfl rfl ?_
            refine ev_ic f_X12_together (nx := 50) (v := 1) rfl (by decide) rfl ?_
            refine ev_inV2 f_X12_together (nx := 53) (lo2 := [(0, .ref 69), (1, .int 1)]) rfl rfl rfl rfl f_X12_refuse (hI.wf.s rfl) rfl rfl rfl rfl rfl ?_
            refine ev_loc f_X12_refuse (nx := 1) rfl rfl rfl rfl ?_
            refine ev_loc f_X12_refuse (nx := 2) rfl rfl rfl rfl ?_
            refine ev_putIT f_X12_refuse (nx := 5) rfl (hI.wf.s rfl) rfl rfl rfl (hI.put0 (hI.wf.s rfl) rfl rfl) (hX.upI rfl) (fun g28 e28 hI hX => ?_)
            refine ev_ic f_X12_refuse (nx := 6) (v := -1) rfl (by decide) rfl ?_
            refine ev_retK1 f_X12_refuse rfl rfl rfl ?_
            refine ev_aluvL f_X12_together (nx := 54) (w := -1) rfl rfl rfl (by decide) rfl ?_
            exact ev_ret f_X12_together rfl rfl rfl ⟨_, _, _, rfl, hI, hX, ⟨_, rfl, (show ∀ D : s_D, t_ME 0 gi D → t_Cb D → ((0 ≤ ar1.toInt ∧ ar1.toInt < D 0 ∧ 0 ≤ ar2.toInt ∧ ar2.toInt < D 0 ∧ 0 ≤ ar3.toInt ∧ ar3.toInt ≤ 12) → ((-1) : Int64) = s_hd D ar1.toInt ||| (s_hd D ar2.toInt <<< (ar3.toInt64 &&& 63))) ∧ (¬ (0 ≤ ar1.toInt ∧ ar1.toInt < D 0 ∧ 0 ≤ ar2.toInt ∧ ar2.toInt < D 0 ∧ 0 ≤ ar3.toInt ∧ ar3.toInt ≤ 12) → ((-1) : Int64).toInt = -1) from (by
                                                            intro D hm hb
                                                            have h0 : (gi 70 0).toInt = D 0 := hm.1.1.1
                                                            exact ⟨fun h => absurd h (by omega), fun _ => (by decide)⟩))⟩⟩
          · have l29 : (0:Int) ≤ ar3.toInt := (lgc_ge (by decide : (0 : Int64).toInt = 0)).mp (by have hh := (t_nlt h25); rw [e24, e23] at hh; exact hh)
            have l30 : 0 ≤ z24.toInt := t_lel (t_nlt h25) (by decide : (0:Int) ≤ (0:Int32).toInt)
            refine ev_loc f_X12_isFrom (nx := 7) rfl rfl rfl rfl ?_
            refine ev_loc f_X12_isFrom (nx := 9) rfl rfl rfl rfl ?_
            refine ev_anyIE f_X12_isFrom (nx := 10) rfl rfl rfl rfl (fun z31 e31 => ?_)
            refine ev_if f_X12_isFrom (t1 := 17) (t2 := 13) rfl rfl rfl (fun h32 => ?_) (fun h32 => ?_)
            · have l33 : (13:Int) ≤ ar3.toInt := Int.add_one_le_of_lt ((lgc_gt (by decide : (12 : Int64).toInt = 12)).mp (by have hh := h32; rw [e31, e23] at hh; exact hh))
              have l34 : 1 ≤ z31.toInt := t_ltl h32 (by decide : (0:Int) ≤ (0:Int32).toInt) rfl
              refine ev_ic f_X12_isFrom (nx := 18) (v := 0) rfl (by decide) rfl ?_
              refine ev_retK1 f_X12_isFrom rfl rfl rfl ?_
              refine ev_t f_X12_together (t1 := 48) (t2 := 28) rfl rfl rfl (by decide) ?_
              refine ev_loc f_X12_together (nx := 49) rfl rfl rfl rfl ?_
              refine ev_ic f_X12_together (nx := 50) (v := 1) rfl (by decide) rfl ?_
              refine ev_inV2 f_X12_together (nx := 53) (lo2 := [(0, .ref 69), (1, .int 1)]) rfl rfl rfl rfl f_X12_refuse (hI.wf.s rfl) rfl rfl rfl rfl rfl ?_
              refine ev_loc f_X12_refuse (nx := 1) rfl rfl rfl rfl ?_
              refine ev_loc f_X12_refuse (nx := 2) rfl rfl rfl rfl ?_
              refine ev_putIT f_X12_refuse (nx := 5) rfl (hI.wf.s rfl) rfl rfl rfl (hI.put0 (hI.wf.s rfl) rfl rfl) (hX.upI rfl) (fun g35 e35 hI hX => ?_)
              refine ev_ic f_X12_refuse (nx := 6) (v := -1) rfl (by decide) rfl ?_
              refine ev_retK1 f_X12_refuse rfl rfl rfl ?_
              refine ev_aluvL f_X12_together (nx := 54) (w := -1) rfl rfl rfl (by decide) rfl ?_
              exact ev_ret f_X12_together rfl rfl rfl ⟨_, _, _, rfl, hI, hX, ⟨_, rfl, (show ∀ D : s_D, t_ME 0 gi D → t_Cb D → ((0 ≤ ar1.toInt ∧ ar1.toInt < D 0 ∧ 0 ≤ ar2.toInt ∧ ar2.toInt < D 0 ∧ 0 ≤ ar3.toInt ∧ ar3.toInt ≤ 12) → ((-1) : Int64) = s_hd D ar1.toInt ||| (s_hd D ar2.toInt <<< (ar3.toInt64 &&& 63))) ∧ (¬ (0 ≤ ar1.toInt ∧ ar1.toInt < D 0 ∧ 0 ≤ ar2.toInt ∧ ar2.toInt < D 0 ∧ 0 ≤ ar3.toInt ∧ ar3.toInt ≤ 12) → ((-1) : Int64).toInt = -1) from (by
                                                            intro D hm hb
                                                            have h0 : (gi 70 0).toInt = D 0 := hm.1.1.1
                                                            exact ⟨fun h => absurd h (by omega), fun _ => (by decide)⟩))⟩⟩
            · have u36 : ar3.toInt ≤ (12:Int) := (lgc_le (by decide : (12 : Int64).toInt = 12)).mp (by have hh := (t_nlt h32); rw [e31, e23] at hh; exact hh)
              have u37 : z31.toInt ≤ 0 := t_leu (t_nlt h32) (by decide : (0:Int32).toInt ≤ (0:Int))
              refine ev_ic f_X12_isFrom (nx := 14) (v := 1) rfl (by decide) rfl ?_
              refine ev_jmp f_X12_isFrom (nx := 18) rfl rfl rfl ?_
              refine ev_retK1 f_X12_isFrom rfl rfl rfl ?_
              refine ev_f f_X12_together (t1 := 48) (t2 := 28) rfl rfl rfl (by decide) ?_
              refine ev_loc f_X12_together (nx := 29) rfl rfl rfl rfl ?_
              refine ev_loc f_X12_together (nx := 30) rfl rfl rfl rfl ?_
              refine ev_loc f_X12_together (nx := 31) rfl rfl rfl rfl ?_
              refine ev_qL0 f_X12_together (nx := 34) (r := [.ref 69]) rfl rfl rfl rfl rfl rfl rfl (c_n_heardOf hI (ar1) l4 u10) rfl (fun w38 q38 => ?_)
              have q38 : (0 ≤ w38.toInt ∧ w38.toInt < 8589934592) ∧ ∀ D : s_D, t_ME 0 gi D → ar1.toInt < D 0 → w38 = s_ec (s_so D ar1.toNatClampNeg) (D 7) := q38
              refine ev_loc f_X12_together (nx := 35) rfl rfl rfl rfl ?_
              refine ev_loc f_X12_together (nx := 36) rfl rfl rfl rfl ?_
              refine ev_qL0 f_X12_together (nx := 39) (r := [.long w38, .ref 69]) rfl rfl rfl rfl rfl rfl rfl (c_n_heardOf hI (ar2) l15 u22) rfl (fun w39 q39 => ?_)
              have q39 : (0 ≤ w39.toInt ∧ w39.toInt < 8589934592) ∧ ∀ D : s_D, t_ME 0 gi D → ar2.toInt < D 0 → w39 = s_ec (s_so D ar2.toNatClampNeg) (D 7) := q39
              refine ev_loc f_X12_together (nx := 40) rfl rfl rfl rfl ?_
              refine ev_anyLE f_X12_together (nx := 41) rfl rfl rfl rfl (fun z40 e40 => ?_)
              refine ev_anyLE f_X12_together (nx := 42) rfl rfl rfl rfl (fun z41 e41 => ?_)
              refine ev_inV2 f_X12_together (nx := 45) (lo2 := [(0, .ref 69), (1, .long z41)]) rfl rfl rfl rfl f_X12_givesLong (hI.wf.s rfl) rfl rfl rfl rfl rfl ?_
              refine ev_loc f_X12_givesLong (nx := 1) rfl rfl rfl rfl ?_
              refine ev_ic f_X12_givesLong (nx := 2) (v := 0) rfl (by decide) rfl ?_
              refine ev_putIT f_X12_givesLong (nx := 5) rfl (hI.wf.s rfl) rfl rfl rfl (hI.put0 (hI.wf.s rfl) rfl rfl) (hX.upI rfl) (fun g42 e42 hI hX => ?_)
              refine ev_loc f_X12_givesLong (nx := 6) rfl rfl rfl rfl ?_
              refine ev_retK1 f_X12_givesLong rfl rfl rfl ?_
              refine ev_jmp f_X12_together (nx := 54) rfl rfl rfl ?_
              exact ev_ret f_X12_together rfl rfl rfl ⟨_, _, _, rfl, hI, hX, ⟨_, rfl, (show ∀ D : s_D, t_ME 0 gi D → t_Cb D → ((0 ≤ ar1.toInt ∧ ar1.toInt < D 0 ∧ 0 ≤ ar2.toInt ∧ ar2.toInt < D 0 ∧ 0 ≤ ar3.toInt ∧ ar3.toInt ≤ 12) → z41 = s_hd D ar1.toInt ||| (s_hd D ar2.toInt <<< (ar3.toInt64 &&& 63))) ∧ (¬ (0 ≤ ar1.toInt ∧ ar1.toInt < D 0 ∧ 0 ≤ ar2.toInt ∧ ar2.toInt < D 0 ∧ 0 ≤ ar3.toInt ∧ ar3.toInt ≤ 12) → z41.toInt = -1) from (by
                                                            intro D hm hb
                                                            have h0 : (gi 70 0).toInt = D 0 := hm.1.1.1
                                                            refine ⟨fun _ => ?_, fun h => absurd (show _ from ⟨by omega, by omega, by omega, by omega, by omega, by omega⟩) h⟩
                                                            rw [e41, e40, (q38.2 D hm (by omega)).trans ((s_hd_i (D := D) (p := ar1.toInt) (by omega) (by omega)).trans (by rw [show ar1.toInt.toNat = ar1.toNatClampNeg from (by have := t_clamp (i := ar1) (by omega); omega)])).symm, (q39.2 D hm (by omega)).trans ((s_hd_i (D := D) (p := ar2.toInt) (by omega) (by omega)).trans (by rw [show ar2.toInt.toNat = ar2.toNatClampNeg from (by have := t_clamp (i := ar2) (by omega); omega)])).symm]))⟩⟩
