/-! ===== printed by riv.py: STATUS, the class ===== -/
noncomputable def wl_f_sound : List (Nat × Nat) := [(0, 0)]
noncomputable def Q_f_sound (gi : Nat → Nat → Int32) (gl : Nat → Nat → Int64) (gr : Nat → Nat → Value) (ar1 : Int32) : Int64 → (Nat → Nat → Int32) → (Nat → Nat → Int64) → (Nat → Nat → Value) → Prop := fun (v : Int64) (gi2 : Nat → Nat → Int32) (gl2 : Nat → Nat → Int64) (gr2 : Nat → Nat → Value) => ∀ (u : Nat) (D : s_D), gr 0 6 = .ref u → t_VL gr u → t_CV gi gl u D → t_Cb D → (¬ (0 ≤ ar1.toInt ∧ ar1.toInt < D 0) → (gi2 0 0).toInt = 1) ∧ ((0 ≤ ar1.toInt ∧ ar1.toInt < D 0) → (gi2 0 0).toInt = 0)
theorem c_f_sound {X : x_Ext} {d : Nat} {sh : List (Nat ⊕ (Nat × Nat))} {gi : Nat → Nat → Int32} {gl : Nat → Nat → Int64} {gr : Nat → Nat → Value} (hI : t_I sh gi gr) (ar1 : Int32) : x_Me X (d + 2) n_X11_sound [.ref 0, .int ar1] (sh, gi, gl, gr) (t_PL wl_f_sound sh gi gl gr (Q_f_sound gi gl gr ar1)) := by
  have hX : t_X wl_f_sound sh gi gl gr gi gl gr := t_X.rf
  refine me_i f_X11_sound (hI.wf.s rfl) rfl rfl rfl ?_
  refine ev_loc f_X11_sound (nx := 1) rfl rfl rfl rfl ?_
  refine ev_loc f_X11_sound (nx := 2) rfl rfl rfl rfl ?_
  refine ev_inV2 f_X11_sound (nx := 5) (lo2 := [(0, .ref 0), (1, .int ar1)]) rfl rfl rfl rfl f_X11_isPort (hI.wf.s rfl) rfl rfl rfl rfl rfl ?_
  refine ev_loc f_X11_isPort (nx := 1) rfl rfl rfl rfl ?_
  refine ev_if f_X11_isPort (t1 := 19) (t2 := 4) rfl rfl rfl (fun h2 => ?_) (fun h2 => ?_)
  · have u3 : ar1.toInt ≤ (-1) := t_ltu h2 (by decide : (0:Int32).toInt ≤ (0:Int)) rfl
    refine ev_ic f_X11_isPort (nx := 20) (v := 0) rfl (by decide) rfl ?_
    refine ev_retK1 f_X11_isPort rfl rfl rfl ?_
    refine ev_t f_X11_sound (t1 := 24) (t2 := 8) rfl rfl rfl (by decide) ?_
    refine ev_loc f_X11_sound (nx := 25) rfl rfl rfl rfl ?_
    refine ev_ic f_X11_sound (nx := 26) (v := 1) rfl (by decide) rfl ?_
    refine ev_inV2 f_X11_sound (nx := 29) (lo2 := [(0, .ref 0), (1, .int 1)]) rfl rfl rfl rfl f_X11_refuse (hI.wf.s rfl) rfl rfl rfl rfl rfl ?_
    refine ev_loc f_X11_refuse (nx := 1) rfl rfl rfl rfl ?_
    refine ev_loc f_X11_refuse (nx := 2) rfl rfl rfl rfl ?_
    refine ev_putIT f_X11_refuse (nx := 5) rfl (hI.wf.s rfl) rfl rfl rfl (hI.put0 (hI.wf.s rfl) rfl rfl) (hX.upI rfl) (fun g4 e4 hI hX => ?_)
    refine ev_ic f_X11_refuse (nx := 6) (v := -1) rfl (by decide) rfl ?_
    refine ev_retK1 f_X11_refuse rfl rfl rfl ?_
    refine ev_aluvL f_X11_sound (nx := 30) (w := -1) rfl rfl rfl (by decide) rfl ?_
    exact ev_ret f_X11_sound rfl rfl rfl ⟨_, _, _, rfl, hI, hX, ⟨_, rfl, (show ∀ (u : Nat) (D : s_D), gr 0 6 = .ref u → t_VL gr u → t_CV gi gl u D → t_Cb D → (¬ (0 ≤ ar1.toInt ∧ ar1.toInt < D 0) → (g4 0 0).toInt = 1) ∧ ((0 ≤ ar1.toInt ∧ ar1.toInt < D 0) → (g4 0 0).toInt = 0) from (by
                                                            intro u D hu hl hc hb
                                                            have hm := hc.1.1
                                                            exact ⟨fun h => (by have ffs : (g4 0 0).toInt = 1 := (congrArg Int32.toInt (by rw [e4]; exact x_up2_at _ _ _ _ : g4 0 0 = 1)).trans (by decide); omega), fun h => (by have ffs : (g4 0 0).toInt = 1 := (congrArg Int32.toInt (by rw [e4]; exact x_up2_at _ _ _ _ : g4 0 0 = 1)).trans (by decide); omega)⟩))⟩⟩
  · have l5 : 0 ≤ ar1.toInt := t_lel (t_nlt h2) (by decide : (0:Int) ≤ (0:Int32).toInt)
    refine ev_loc f_X11_isPort (nx := 5) rfl rfl rfl rfl ?_
    refine ev_loc f_X11_isPort (nx := 6) rfl rfl rfl rfl ?_
    obtain ⟨a6, e6, p6⟩ := hI.2.2.2.1.1
    refine ev_getR f_X11_isPort (nx := 9) rfl (hI.wf.s rfl) rfl rfl e6 rfl rfl ?_
    refine ev_getI f_X11_isPort (nx := 12) rfl p6.1 rfl rfl rfl ?_
    obtain ⟨l7, u7⟩ := hI.b p6.1 (t_bdK rfl : t_bd 4 0 = some (0, 6))
    refine ev_if f_X11_isPort (t1 := 19) (t2 := 15) rfl rfl rfl (fun h8 => ?_) (fun h8 => ?_)
    · have r9 : (gi a6 0).toInt ≤ ar1.toInt := Int32.le_iff_toInt_le.mp h8
      refine ev_ic f_X11_isPort (nx := 20) (v := 0) rfl (by decide) rfl ?_
      refine ev_retK1 f_X11_isPort rfl rfl rfl ?_
      refine ev_t f_X11_sound (t1 := 24) (t2 := 8) rfl rfl rfl (by decide) ?_
      refine ev_loc f_X11_sound (nx := 25) rfl rfl rfl rfl ?_
      refine ev_ic f_X11_sound (nx := 26) (v := 1) rfl (by decide) rfl ?_
      refine ev_inV2 f_X11_sound (nx := 29) (lo2 := [(0, .ref 0), (1, .int 1)]) rfl rfl rfl rfl f_X11_refuse (hI.wf.s rfl) rfl rfl rfl rfl rfl ?_
      refine ev_loc f_X11_refuse (nx := 1) rfl rfl rfl rfl ?_
      refine ev_loc f_X11_refuse (nx := 2) rfl rfl rfl rfl ?_
      refine ev_putIT f_X11_refuse (nx := 5) rfl (hI.wf.s rfl) rfl rfl rfl (hI.put0 (hI.wf.s rfl) rfl rfl) (hX.upI rfl) (fun g10 e10 hI hX => ?_)
      refine ev_ic f_X11_refuse (nx := 6) (v := -1) rfl (by decide) rfl ?_
      refine ev_retK1 f_X11_refuse rfl rfl rfl ?_
      refine ev_aluvL f_X11_sound (nx := 30) (w := -1) rfl rfl rfl (by decide) rfl ?_
      exact ev_ret f_X11_sound rfl rfl rfl ⟨_, _, _, rfl, hI, hX, ⟨_, rfl, (show ∀ (u : Nat) (D : s_D), gr 0 6 = .ref u → t_VL gr u → t_CV gi gl u D → t_Cb D → (¬ (0 ≤ ar1.toInt ∧ ar1.toInt < D 0) → (g10 0 0).toInt = 1) ∧ ((0 ≤ ar1.toInt ∧ ar1.toInt < D 0) → (g10 0 0).toInt = 0) from (by
                                                            intro u D hu hl hc hb
                                                            have ha : a6 = u := Value.ref.inj (e6.symm.trans hu)
                                                            subst ha
                                                            have hm := hc.1.1
                                                            exact ⟨fun h => (by have ffs : (g10 0 0).toInt = 1 := (congrArg Int32.toInt (by rw [e10]; exact x_up2_at _ _ _ _ : g10 0 0 = 1)).trans (by decide); omega), fun h => (by have ffs : (g10 0 0).toInt = 1 := (congrArg Int32.toInt (by rw [e10]; exact x_up2_at _ _ _ _ : g10 0 0 = 1)).trans (by decide); omega)⟩))⟩⟩
    · have r11 : ar1.toInt < (gi a6 0).toInt := Int32.lt_iff_toInt_lt.mp (t_nle h8)
      have u12 : ar1.toInt ≤ 5 := t_ltu (t_nle h8) u7 rfl
      have l13 : 1 ≤ (gi a6 0).toInt := t_ltl (t_nle h8) l5 rfl
      refine ev_ic f_X11_isPort (nx := 16) (v := 1) rfl (by decide) rfl ?_
      refine ev_jmp f_X11_isPort (nx := 20) rfl rfl rfl ?_
      refine ev_retK1 f_X11_isPort rfl rfl rfl ?_
      refine ev_f f_X11_sound (t1 := 24) (t2 := 8) rfl rfl rfl (by decide) ?_
      refine ev_loc f_X11_sound (nx := 9) rfl rfl rfl rfl ?_
      refine ev_loc f_X11_sound (nx := 10) rfl rfl rfl rfl ?_
      refine ev_getR f_X11_sound (nx := 13) (v := .ref a6) rfl (hI.wf.s rfl) rfl rfl e6 rfl rfl ?_
      obtain ⟨a14, e14, s14, o14⟩ := p6.2.2.1
      refine ev_getR f_X11_sound (nx := 16) rfl p6.1 rfl rfl e14 rfl rfl ?_
      refine ev_loc f_X11_sound (nx := 17) rfl rfl rfl rfl ?_
      refine ev_laldT f_X11_sound (nx := 18) rfl s14 l5 (by decide) u12 (by decide) rfl (fun w15 e15 => ?_)
      refine ev_inV2 f_X11_sound (nx := 21) (lo2 := [(0, .ref 0), (1, .long w15)]) rfl rfl rfl rfl f_X11_answerLong (hI.wf.s rfl) rfl rfl rfl rfl rfl ?_
      refine ev_loc f_X11_answerLong (nx := 1) rfl rfl rfl rfl ?_
      refine ev_ic f_X11_answerLong (nx := 2) (v := 0) rfl (by decide) rfl ?_
      refine ev_putIT f_X11_answerLong (nx := 5) rfl (hI.wf.s rfl) rfl rfl rfl (hI.put0 (hI.wf.s rfl) rfl rfl) (hX.upI rfl) (fun g16 e16 hI hX => ?_)
      refine ev_loc f_X11_answerLong (nx := 6) rfl rfl rfl rfl ?_
      refine ev_retK1 f_X11_answerLong rfl rfl rfl ?_
      refine ev_jmp f_X11_sound (nx := 30) rfl rfl rfl ?_
      exact ev_ret f_X11_sound rfl rfl rfl ⟨_, _, _, rfl, hI, hX, ⟨_, rfl, (show ∀ (u : Nat) (D : s_D), gr 0 6 = .ref u → t_VL gr u → t_CV gi gl u D → t_Cb D → (¬ (0 ≤ ar1.toInt ∧ ar1.toInt < D 0) → (g16 0 0).toInt = 1) ∧ ((0 ≤ ar1.toInt ∧ ar1.toInt < D 0) → (g16 0 0).toInt = 0) from (by
                                                            intro u D hu hl hc hb
                                                            have ha : a6 = u := Value.ref.inj (e6.symm.trans hu)
                                                            subst ha
                                                            have hb1 : (a6 + 2) = a14 := Value.ref.inj ((hl.1.2.1).symm.trans e14)
                                                            subst hb1
                                                            have hm := hc.1.1
                                                            exact ⟨fun h => (by have ffs : (g16 0 0).toInt = 0 := (congrArg Int32.toInt (by rw [e16]; exact x_up2_at _ _ _ _ : g16 0 0 = 0)).trans (by decide); omega), fun h => (by have ffs : (g16 0 0).toInt = 0 := (congrArg Int32.toInt (by rw [e16]; exact x_up2_at _ _ _ _ : g16 0 0 = 0)).trans (by decide); omega)⟩))⟩⟩
noncomputable def wl_f_heard : List (Nat × Nat) := [(0, 0)]
noncomputable def Q_f_heard (gi : Nat → Nat → Int32) (gl : Nat → Nat → Int64) (gr : Nat → Nat → Value) (ar1 : Int32) : Int64 → (Nat → Nat → Int32) → (Nat → Nat → Int64) → (Nat → Nat → Value) → Prop := fun (v : Int64) (gi2 : Nat → Nat → Int32) (gl2 : Nat → Nat → Int64) (gr2 : Nat → Nat → Value) => ∀ (u : Nat) (D : s_D), gr 0 6 = .ref u → t_VL gr u → t_CV gi gl u D → t_Cb D → (¬ (0 ≤ ar1.toInt ∧ ar1.toInt < D 0) → (gi2 0 0).toInt = 1) ∧ ((0 ≤ ar1.toInt ∧ ar1.toInt < D 0) → (gi2 0 0).toInt = 0)
theorem c_f_heard {X : x_Ext} {d : Nat} {sh : List (Nat ⊕ (Nat × Nat))} {gi : Nat → Nat → Int32} {gl : Nat → Nat → Int64} {gr : Nat → Nat → Value} (hI : t_I sh gi gr) (ar1 : Int32) : x_Me X (d + 3) n_X11_heard [.ref 0, .int ar1] (sh, gi, gl, gr) (t_PL wl_f_heard sh gi gl gr (Q_f_heard gi gl gr ar1)) := by
  have hX : t_X wl_f_heard sh gi gl gr gi gl gr := t_X.rf
  refine me_i f_X11_heard (hI.wf.s rfl) rfl rfl rfl ?_
  refine ev_loc f_X11_heard (nx := 1) rfl rfl rfl rfl ?_
  refine ev_loc f_X11_heard (nx := 2) rfl rfl rfl rfl ?_
  refine ev_inV2 f_X11_heard (nx := 5) (lo2 := [(0, .ref 0), (1, .int ar1)]) rfl rfl rfl rfl f_X11_isPort (hI.wf.s rfl) rfl rfl rfl rfl rfl ?_
  refine ev_loc f_X11_isPort (nx := 1) rfl rfl rfl rfl ?_
  refine ev_if f_X11_isPort (t1 := 19) (t2 := 4) rfl rfl rfl (fun h2 => ?_) (fun h2 => ?_)
  · have u3 : ar1.toInt ≤ (-1) := t_ltu h2 (by decide : (0:Int32).toInt ≤ (0:Int)) rfl
    refine ev_ic f_X11_isPort (nx := 20) (v := 0) rfl (by decide) rfl ?_
    refine ev_retK1 f_X11_isPort rfl rfl rfl ?_
    refine ev_t f_X11_heard (t1 := 23) (t2 := 8) rfl rfl rfl (by decide) ?_
    refine ev_loc f_X11_heard (nx := 24) rfl rfl rfl rfl ?_
    refine ev_ic f_X11_heard (nx := 25) (v := 1) rfl (by decide) rfl ?_
    refine ev_inV2 f_X11_heard (nx := 28) (lo2 := [(0, .ref 0), (1, .int 1)]) rfl rfl rfl rfl f_X11_refuse (hI.wf.s rfl) rfl rfl rfl rfl rfl ?_
    refine ev_loc f_X11_refuse (nx := 1) rfl rfl rfl rfl ?_
    refine ev_loc f_X11_refuse (nx := 2) rfl rfl rfl rfl ?_
    refine ev_putIT f_X11_refuse (nx := 5) rfl (hI.wf.s rfl) rfl rfl rfl (hI.put0 (hI.wf.s rfl) rfl rfl) (hX.upI rfl) (fun g4 e4 hI hX => ?_)
    refine ev_ic f_X11_refuse (nx := 6) (v := -1) rfl (by decide) rfl ?_
    refine ev_retK1 f_X11_refuse rfl rfl rfl ?_
    refine ev_aluvL f_X11_heard (nx := 29) (w := -1) rfl rfl rfl (by decide) rfl ?_
    exact ev_ret f_X11_heard rfl rfl rfl ⟨_, _, _, rfl, hI, hX, ⟨_, rfl, (show ∀ (u : Nat) (D : s_D), gr 0 6 = .ref u → t_VL gr u → t_CV gi gl u D → t_Cb D → (¬ (0 ≤ ar1.toInt ∧ ar1.toInt < D 0) → (g4 0 0).toInt = 1) ∧ ((0 ≤ ar1.toInt ∧ ar1.toInt < D 0) → (g4 0 0).toInt = 0) from (by
                                                            intro u D hu hl hc hb
                                                            have hm := hc.1.1
                                                            exact ⟨fun h => (by have ffs : (g4 0 0).toInt = 1 := (congrArg Int32.toInt (by rw [e4]; exact x_up2_at _ _ _ _ : g4 0 0 = 1)).trans (by decide); omega), fun h => (by have ffs : (g4 0 0).toInt = 1 := (congrArg Int32.toInt (by rw [e4]; exact x_up2_at _ _ _ _ : g4 0 0 = 1)).trans (by decide); omega)⟩))⟩⟩
  · have l5 : 0 ≤ ar1.toInt := t_lel (t_nlt h2) (by decide : (0:Int) ≤ (0:Int32).toInt)
    refine ev_loc f_X11_isPort (nx := 5) rfl rfl rfl rfl ?_
    refine ev_loc f_X11_isPort (nx := 6) rfl rfl rfl rfl ?_
    obtain ⟨a6, e6, p6⟩ := hI.2.2.2.1.1
    refine ev_getR f_X11_isPort (nx := 9) rfl (hI.wf.s rfl) rfl rfl e6 rfl rfl ?_
    refine ev_getI f_X11_isPort (nx := 12) rfl p6.1 rfl rfl rfl ?_
    obtain ⟨l7, u7⟩ := hI.b p6.1 (t_bdK rfl : t_bd 4 0 = some (0, 6))
    refine ev_if f_X11_isPort (t1 := 19) (t2 := 15) rfl rfl rfl (fun h8 => ?_) (fun h8 => ?_)
    · have r9 : (gi a6 0).toInt ≤ ar1.toInt := Int32.le_iff_toInt_le.mp h8
      refine ev_ic f_X11_isPort (nx := 20) (v := 0) rfl (by decide) rfl ?_
      refine ev_retK1 f_X11_isPort rfl rfl rfl ?_
      refine ev_t f_X11_heard (t1 := 23) (t2 := 8) rfl rfl rfl (by decide) ?_
      refine ev_loc f_X11_heard (nx := 24) rfl rfl rfl rfl ?_
      refine ev_ic f_X11_heard (nx := 25) (v := 1) rfl (by decide) rfl ?_
      refine ev_inV2 f_X11_heard (nx := 28) (lo2 := [(0, .ref 0), (1, .int 1)]) rfl rfl rfl rfl f_X11_refuse (hI.wf.s rfl) rfl rfl rfl rfl rfl ?_
      refine ev_loc f_X11_refuse (nx := 1) rfl rfl rfl rfl ?_
      refine ev_loc f_X11_refuse (nx := 2) rfl rfl rfl rfl ?_
      refine ev_putIT f_X11_refuse (nx := 5) rfl (hI.wf.s rfl) rfl rfl rfl (hI.put0 (hI.wf.s rfl) rfl rfl) (hX.upI rfl) (fun g10 e10 hI hX => ?_)
      refine ev_ic f_X11_refuse (nx := 6) (v := -1) rfl (by decide) rfl ?_
      refine ev_retK1 f_X11_refuse rfl rfl rfl ?_
      refine ev_aluvL f_X11_heard (nx := 29) (w := -1) rfl rfl rfl (by decide) rfl ?_
      exact ev_ret f_X11_heard rfl rfl rfl ⟨_, _, _, rfl, hI, hX, ⟨_, rfl, (show ∀ (u : Nat) (D : s_D), gr 0 6 = .ref u → t_VL gr u → t_CV gi gl u D → t_Cb D → (¬ (0 ≤ ar1.toInt ∧ ar1.toInt < D 0) → (g10 0 0).toInt = 1) ∧ ((0 ≤ ar1.toInt ∧ ar1.toInt < D 0) → (g10 0 0).toInt = 0) from (by
                                                            intro u D hu hl hc hb
                                                            have ha : a6 = u := Value.ref.inj (e6.symm.trans hu)
                                                            subst ha
                                                            have hm := hc.1.1
                                                            exact ⟨fun h => (by have ffs : (g10 0 0).toInt = 1 := (congrArg Int32.toInt (by rw [e10]; exact x_up2_at _ _ _ _ : g10 0 0 = 1)).trans (by decide); omega), fun h => (by have ffs : (g10 0 0).toInt = 1 := (congrArg Int32.toInt (by rw [e10]; exact x_up2_at _ _ _ _ : g10 0 0 = 1)).trans (by decide); omega)⟩))⟩⟩
    · have r11 : ar1.toInt < (gi a6 0).toInt := Int32.lt_iff_toInt_lt.mp (t_nle h8)
      have u12 : ar1.toInt ≤ 5 := t_ltu (t_nle h8) u7 rfl
      have l13 : 1 ≤ (gi a6 0).toInt := t_ltl (t_nle h8) l5 rfl
      refine ev_ic f_X11_isPort (nx := 16) (v := 1) rfl (by decide) rfl ?_
      refine ev_jmp f_X11_isPort (nx := 20) rfl rfl rfl ?_
      refine ev_retK1 f_X11_isPort rfl rfl rfl ?_
      refine ev_f f_X11_heard (t1 := 23) (t2 := 8) rfl rfl rfl (by decide) ?_
      refine ev_loc f_X11_heard (nx := 9) rfl rfl rfl rfl ?_
      refine ev_loc f_X11_heard (nx := 10) rfl rfl rfl rfl ?_
      refine ev_getR f_X11_heard (nx := 13) (v := .ref a6) rfl (hI.wf.s rfl) rfl rfl e6 rfl rfl ?_
      refine ev_loc f_X11_heard (nx := 14) rfl rfl rfl rfl ?_
      refine ev_cL f_X11_heard (nx := 17) (r := [.ref 0]) rfl rfl rfl rfl rfl rfl rfl (c_heardOf hI (a6) p6 (ar1)) rfl hX rfl (fun w14 gi14 gl14 gr14 hI hX hC14 => ?_)
      replace p6 := p6.ext hC14.2
      refine ev_inV2 f_X11_heard (nx := 20) (lo2 := [(0, .ref 0), (1, .long w14)]) rfl rfl rfl rfl f_X11_answerLong (hI.wf.s rfl) rfl rfl rfl rfl rfl ?_
      refine ev_loc f_X11_answerLong (nx := 1) rfl rfl rfl rfl ?_
      refine ev_ic f_X11_answerLong (nx := 2) (v := 0) rfl (by decide) rfl ?_
      refine ev_putIT f_X11_answerLong (nx := 5) rfl (hI.wf.s rfl) rfl rfl rfl (hI.put0 (hI.wf.s rfl) rfl rfl) (hX.upI rfl) (fun g15 e15 hI hX => ?_)
      refine ev_loc f_X11_answerLong (nx := 6) rfl rfl rfl rfl ?_
      refine ev_retK1 f_X11_answerLong rfl rfl rfl ?_
      refine ev_jmp f_X11_heard (nx := 29) rfl rfl rfl ?_
      exact ev_ret f_X11_heard rfl rfl rfl ⟨_, _, _, rfl, hI, hX, ⟨_, rfl, (show ∀ (u : Nat) (D : s_D), gr 0 6 = .ref u → t_VL gr u → t_CV gi gl u D → t_Cb D → (¬ (0 ≤ ar1.toInt ∧ ar1.toInt < D 0) → (g15 0 0).toInt = 1) ∧ ((0 ≤ ar1.toInt ∧ ar1.toInt < D 0) → (g15 0 0).toInt = 0) from (by
                                                            intro u D hu hl hc hb
                                                            have ha : a6 = u := Value.ref.inj (e6.symm.trans hu)
                                                            subst ha
                                                            have hm := hc.1.1
                                                            exact ⟨fun h => (by have ffs : (g15 0 0).toInt = 0 := (congrArg Int32.toInt (by rw [e15]; exact x_up2_at _ _ _ _ : g15 0 0 = 0)).trans (by decide); omega), fun h => (by have ffs : (g15 0 0).toInt = 0 := (congrArg Int32.toInt (by rw [e15]; exact x_up2_at _ _ _ _ : g15 0 0 = 0)).trans (by decide); omega)⟩))⟩⟩
noncomputable def wl_f_together : List (Nat × Nat) := [(0, 0)]
noncomputable def Q_f_together (gi : Nat → Nat → Int32) (gl : Nat → Nat → Int64) (gr : Nat → Nat → Value) (ar1 : Int32) (ar2 : Int32) (ar3 : Int32) : Int64 → (Nat → Nat → Int32) → (Nat → Nat → Int64) → (Nat → Nat → Value) → Prop := fun (v : Int64) (gi2 : Nat → Nat → Int32) (gl2 : Nat → Nat → Int64) (gr2 : Nat → Nat → Value) => ∀ (u : Nat) (D : s_D), gr 0 6 = .ref u → t_VL gr u → t_CV gi gl u D → t_Cb D → (¬ (0 ≤ ar1.toInt ∧ ar1.toInt < D 0 ∧ 0 ≤ ar2.toInt ∧ ar2.toInt < D 0 ∧ 0 ≤ ar3.toInt ∧ ar3.toInt ≤ 12) → (gi2 0 0).toInt = 1) ∧ ((0 ≤ ar1.toInt ∧ ar1.toInt < D 0 ∧ 0 ≤ ar2.toInt ∧ ar2.toInt < D 0 ∧ 0 ≤ ar3.toInt ∧ ar3.toInt ≤ 12) → (gi2 0 0).toInt = 0)
theorem c_f_together {X : x_Ext} {d : Nat} {sh : List (Nat ⊕ (Nat × Nat))} {gi : Nat → Nat → Int32} {gl : Nat → Nat → Int64} {gr : Nat → Nat → Value} (hI : t_I sh gi gr) (ar1 : Int32) (ar2 : Int32) (ar3 : Int32) : x_Me X (d + 4) n_X11_together [.ref 0, .int ar1, .int ar2, .int ar3] (sh, gi, gl, gr) (t_PL wl_f_together sh gi gl gr (Q_f_together gi gl gr ar1 ar2 ar3)) := by
  have hX : t_X wl_f_together sh gi gl gr gi gl gr := t_X.rf
  refine me_i f_X11_together (hI.wf.s rfl) rfl rfl rfl ?_
  refine ev_loc f_X11_together (nx := 1) rfl rfl rfl rfl ?_
  refine ev_loc f_X11_together (nx := 2) rfl rfl rfl rfl ?_
  refine ev_inV2 f_X11_together (nx := 5) (lo2 := [(0, .ref 0), (1, .int ar1)]) rfl rfl rfl rfl f_X11_isPort (hI.wf.s rfl) rfl rfl rfl rfl rfl ?_
  refine ev_loc f_X11_isPort (nx := 1) rfl rfl rfl rfl ?_
  refine ev_if f_X11_isPort (t1 := 19) (t2 := 4) rfl rfl rfl (fun h2 => ?_) (fun h2 => ?_)
  · have u3 : ar1.toInt ≤ (-1) := t_ltu h2 (by decide : (0:Int32).toInt ≤ (0:Int)) rfl
    refine ev_ic f_X11_isPort (nx := 20) (v := 0) rfl (by decide) rfl ?_
    refine ev_retK1 f_X11_isPort rfl rfl rfl ?_
    refine ev_t f_X11_together (t1 := 26) (t2 := 8) rfl rfl rfl (by decide) ?_
    refine ev_loc f_X11_together (nx := 27) rfl rfl rfl rfl ?_
    refine ev_ic f_X11_together (nx := 28) (v := 1) rfl (by decide) rfl ?_
    refine ev_inV2 f_X11_together (nx := 31) (lo2 := [(0, .ref 0), (1, .int 1)]) rfl rfl rfl rfl f_X11_refuse (hI.wf.s rfl) rfl rfl rfl rfl rfl ?_
    refine ev_loc f_X11_refuse (nx := 1) rfl rfl rfl rfl ?_
    refine ev_loc f_X11_refuse (nx := 2) rfl rfl rfl rfl ?_
    refine ev_putIT f_X11_refuse (nx := 5) rfl (hI.wf.s rfl) rfl rfl rfl (hI.put0 (hI.wf.s rfl) rfl rfl) (hX.upI rfl) (fun g4 e4 hI hX => ?_)
    refine ev_ic f_X11_refuse (nx := 6) (v := -1) rfl (by decide) rfl ?_
    refine ev_retK1 f_X11_refuse rfl rfl rfl ?_
    refine ev_aluvL f_X11_together (nx := 32) (w := -1) rfl rfl rfl (by decide) rfl ?_
    exact ev_ret f_X11_together rfl rfl rfl ⟨_, _, _, rfl, hI, hX, ⟨_, rfl, (show ∀ (u : Nat) (D : s_D), gr 0 6 = .ref u → t_VL gr u → t_CV gi gl u D → t_Cb D → (¬ (0 ≤ ar1.toInt ∧ ar1.toInt < D 0 ∧ 0 ≤ ar2.toInt ∧ ar2.toInt < D 0 ∧ 0 ≤ ar3.toInt ∧ ar3.toInt ≤ 12) → (g4 0 0).toInt = 1) ∧ ((0 ≤ ar1.toInt ∧ ar1.toInt < D 0 ∧ 0 ≤ ar2.toInt ∧ ar2.toInt < D 0 ∧ 0 ≤ ar3.toInt ∧ ar3.toInt ≤ 12) → (g4 0 0).toInt = 0) from (by
                                                            intro u D hu hl hc hb
                                                            have hm := hc.1.1
                                                            exact ⟨fun h => (by have ffs : (g4 0 0).toInt = 1 := (congrArg Int32.toInt (by rw [e4]; exact x_up2_at _ _ _ _ : g4 0 0 = 1)).trans (by decide); omega), fun h => (by have ffs : (g4 0 0).toInt = 1 := (congrArg Int32.toInt (by rw [e4]; exact x_up2_at _ _ _ _ : g4 0 0 = 1)).trans (by decide); omega)⟩))⟩⟩
  · have l5 : 0 ≤ ar1.toInt := t_lel (t_nlt h2) (by decide : (0:Int) ≤ (0:Int32).toInt)
    refine ev_loc f_X11_isPort (nx := 5) rfl rfl rfl rfl ?_
    refine ev_loc f_X11_isPort (nx := 6) rfl rfl rfl rfl ?_
    obtain ⟨a6, e6, p6⟩ := hI.2.2.2.1.1
    refine ev_getR f_X11_isPort (nx := 9) rfl (hI.wf.s rfl) rfl rfl e6 rfl rfl ?_
    refine ev_getI f_X11_isPort (nx := 12) rfl p6.1 rfl rfl rfl ?_
    obtain ⟨l7, u7⟩ := hI.b p6.1 (t_bdK rfl : t_bd 4 0 = some (0, 6))
    refine ev_if f_X11_isPort (t1 := 19) (t2 := 15) rfl rfl rfl (fun h8 => ?_) (fun h8 => ?_)
    · have r9 : (gi a6 0).toInt ≤ ar1.toInt := Int32.le_iff_toInt_le.mp h8
      refine ev_ic f_X11_isPort (nx := 20) (v := 0) rfl (by decide) rfl ?_
      refine ev_retK1 f_X11_isPort rfl rfl rfl ?_
      refine ev_t f_X11_together (t1 := 26) (t2 := 8) rfl rfl rfl (by decide) ?_
      refine ev_loc f_X11_together (nx := 27) rfl rfl rfl rfl ?_
      refine ev_ic f_X11_together (nx := 28) (v := 1) rfl (by decide) rfl ?_
      refine ev_inV2 f_X11_together (nx := 31) (lo2 := [(0, .ref 0), (1, .int 1)]) rfl rfl rfl rfl f_X11_refuse (hI.wf.s rfl) rfl rfl rfl rfl rfl ?_
      refine ev_loc f_X11_refuse (nx := 1) rfl rfl rfl rfl ?_
      refine ev_loc f_X11_refuse (nx := 2) rfl rfl rfl rfl ?_
      refine ev_putIT f_X11_refuse (nx := 5) rfl (hI.wf.s rfl) rfl rfl rfl (hI.put0 (hI.wf.s rfl) rfl rfl) (hX.upI rfl) (fun g10 e10 hI hX => ?_)
      refine ev_ic f_X11_refuse (nx := 6) (v := -1) rfl (by decide) rfl ?_
      refine ev_retK1 f_X11_refuse rfl rfl rfl ?_
      refine ev_aluvL f_X11_together (nx := 32) (w := -1) rfl rfl rfl (by decide) rfl ?_
      exact ev_ret f_X11_together rfl rfl rfl ⟨_, _, _, rfl, hI, hX, ⟨_, rfl, (show ∀ (u : Nat) (D : s_D), gr 0 6 = .ref u → t_VL gr u → t_CV gi gl u D → t_Cb D → (¬ (0 ≤ ar1.toInt ∧ ar1.toInt < D 0 ∧ 0 ≤ ar2.toInt ∧ ar2.toInt < D 0 ∧ 0 ≤ ar3.toInt ∧ ar3.toInt ≤ 12) → (g10 0 0).toInt = 1) ∧ ((0 ≤ ar1.toInt ∧ ar1.toInt < D 0 ∧ 0 ≤ ar2.toInt ∧ ar2.toInt < D 0 ∧ 0 ≤ ar3.toInt ∧ ar3.toInt ≤ 12) → (g10 0 0).toInt = 0) from (by
                                                            intro u D hu hl hc hb
                                                            have ha : a6 = u := Value.ref.inj (e6.symm.trans hu)
                                                            subst ha
                                                            have hm := hc.1.1
                                                            exact ⟨fun h => (by have ffs : (g10 0 0).toInt = 1 := (congrArg Int32.toInt (by rw [e10]; exact x_up2_at _ _ _ _ : g10 0 0 = 1)).trans (by decide); omega), fun h => (by have ffs : (g10 0 0).toInt = 1 := (congrArg Int32.toInt (by rw [e10]; exact x_up2_at _ _ _ _ : g10 0 0 = 1)).trans (by decide); omega)⟩))⟩⟩
    · have r11 : ar1.toInt < (gi a6 0).toInt := Int32.lt_iff_toInt_lt.mp (t_nle h8)
      have u12 : ar1.toInt ≤ 5 := t_ltu (t_nle h8) u7 rfl
      have l13 : 1 ≤ (gi a6 0).toInt := t_ltl (t_nle h8) l5 rfl
      refine ev_ic f_X11_isPort (nx := 16) (v := 1) rfl (by decide) rfl ?_
      refine ev_jmp f_X11_isPort (nx := 20) rfl rfl rfl ?_
      refine ev_retK1 f_X11_isPort rfl rfl rfl ?_
      refine ev_f f_X11_together (t1 := 26) (t2 := 8) rfl rfl rfl (by decide) ?_
      refine ev_loc f_X11_together (nx := 9) rfl rfl rfl rfl ?_
      refine ev_loc f_X11_together (nx := 10) rfl rfl rfl rfl ?_
      refine ev_inV2 f_X11_together (nx := 13) (lo2 := [(0, .ref 0), (1, .int ar2)]) rfl rfl rfl rfl f_X11_isPort (hI.wf.s rfl) rfl rfl rfl rfl rfl ?_
      refine ev_loc f_X11_isPort (nx := 1) rfl rfl rfl rfl ?_
      refine ev_if f_X11_isPort (t1 := 19) (t2 := 4) rfl rfl rfl (fun h14 => ?_) (fun h14 => ?_)
      · have u15 : ar2.toInt ≤ (-1) := t_ltu h14 (by decide : (0:Int32).toInt ≤ (0:Int)) rfl
        refine ev_ic f_X11_isPort (nx := 20) (v := 0) rfl (by decide) rfl ?_
        refine ev_retK1 f_X11_isPort rfl rfl rfl ?_
        refine ev_t f_X11_together (t1 := 26) (t2 := 16) rfl rfl rfl (by decide) ?_
        refine ev_loc f_X11_together (nx := 27) rfl rfl rfl rfl ?_
        refine ev_ic f_X11_together (nx := 28) (v := 1) rfl (by decide) rfl ?_
        refine ev_inV2 f_X11_together (nx := 31) (lo2 := [(0, .ref 0), (1, .int 1)]) rfl rfl rfl rfl f_X11_refuse (hI.wf.s rfl) rfl rfl rfl rfl rfl ?_
        refine ev_loc f_X11_refuse (nx := 1) rfl rfl rfl rfl ?_
        refine ev_loc f_X11_refuse (nx := 2) rfl rfl rfl rfl ?_
        refine ev_putIT f_X11_refuse (nx := 5) rfl (hI.wf.s rfl) rfl rfl rfl (hI.put0 (hI.wf.s rfl) rfl rfl) (hX.upI rfl) (fun g16 e16 hI hX => ?_)
        refine ev_ic f_X11_refuse (nx := 6) (v := -1) rfl (by decide) rfl ?_
        refine ev_retK1 f_X11_refuse rfl rfl rfl ?_
        refine ev_aluvL f_X11_together (nx := 32) (w := -1) rfl rfl rfl (by decide) rfl ?_
        exact ev_ret f_X11_together rfl rfl rfl ⟨_, _, _, rfl, hI, hX, ⟨_, rfl, (show ∀ (u : Nat) (D : s_D), gr 0 6 = .ref u → t_VL gr u → t_CV gi gl u D → t_Cb D → (¬ (0 ≤ ar1.toInt ∧ ar1.toInt < D 0 ∧ 0 ≤ ar2.toInt ∧ ar2.toInt < D 0 ∧ 0 ≤ ar3.toInt ∧ ar3.toInt ≤ 12) → (g16 0 0).toInt = 1) ∧ ((0 ≤ ar1.toInt ∧ ar1.toInt < D 0 ∧ 0 ≤ ar2.toInt ∧ ar2.toInt < D 0 ∧ 0 ≤ ar3.toInt ∧ ar3.toInt ≤ 12) → (g16 0 0).toInt = 0) from (by
                                                            intro u D hu hl hc hb
                                                            have ha : a6 = u := Value.ref.inj (e6.symm.trans hu)
                                                            subst ha
                                                            have hm := hc.1.1
                                                            exact ⟨fun h => (by have ffs : (g16 0 0).toInt = 1 := (congrArg Int32.toInt (by rw [e16]; exact x_up2_at _ _ _ _ : g16 0 0 = 1)).trans (by decide); omega), fun h => (by have ffs : (g16 0 0).toInt = 1 := (congrArg Int32.toInt (by rw [e16]; exact x_up2_at _ _ _ _ : g16 0 0 = 1)).trans (by decide); omega)⟩))⟩⟩
      · have l17 : 0 ≤ ar2.toInt := t_lel (t_nlt h14) (by decide : (0:Int) ≤ (0:Int32).toInt)
        refine ev_loc f_X11_isPort (nx := 5) rfl rfl rfl rfl ?_
        refine ev_loc f_X11_isPort (nx := 6) rfl rfl rfl rfl ?_
        refine ev_getR f_X11_isPort (nx := 9) (v := .ref a6) rfl (hI.wf.s rfl) rfl rfl e6 rfl rfl ?_
        refine ev_gvI f_X11_isPort (nx := 12) (w := (gi a6 0)) rfl p6.1 rfl rfl rfl rfl ?_
        refine ev_if f_X11_isPort (t1 := 19) (t2 := 15) rfl rfl rfl (fun h18 => ?_) (fun h18 => ?_)
        · have r19 : (gi a6 0).toInt ≤ ar2.toInt := Int32.le_iff_toInt_le.mp h18
          have l20 : 1 ≤ ar2.toInt := t_lel h18 l13
          refine ev_ic f_X11_isPort (nx := 20) (v := 0) rfl (by decide) rfl ?_
          refine ev_retK1 f_X11_isPort rfl rfl rfl ?_
          refine ev_t f_X11_together (t1 := 26) (t2 := 16) rfl rfl rfl (by decide) ?_
          refine ev_loc f_X11_together (nx := 27) rfl rfl rfl rfl ?_
          refine ev_ic f_X11_together (nx := 28) (v := 1) rfl (by decide) rfl ?_
          refine ev_inV2 f_X11_together (nx := 31) (lo2 := [(0, .ref 0), (1, .int 1)]) rfl rfl rfl rfl f_X11_refuse (hI.wf.s rfl) rfl rfl rfl rfl rfl ?_
          refine ev_loc f_X11_refuse (nx := 1) rfl rfl rfl rfl ?_
          refine ev_loc f_X11_refuse (nx := 2) rfl rfl rfl rfl ?_
          refine ev_putIT f_X11_refuse (nx := 5) rfl (hI.wf.s rfl) rfl rfl rfl (hI.put0 (hI.wf.s rfl) rfl rfl) (hX.upI rfl) (fun g21 e21 hI hX => ?_)
          refine ev_ic f_X11_refuse (nx := 6) (v := -1) rfl (by decide) rfl ?_
          refine ev_retK1 f_X11_refuse rfl rfl rfl ?_
          refine ev_aluvL f_X11_together (nx := 32) (w := -1) rfl rfl rfl (by decide) rfl ?_
          exact ev_ret f_X11_together rfl rfl rfl ⟨_, _, _, rfl, hI, hX, ⟨_, rfl, (show ∀ (u : Nat) (D : s_D), gr 0 6 = .ref u → t_VL gr u → t_CV gi gl u D → t_Cb D → (¬ (0 ≤ ar1.toInt ∧ ar1.toInt < D 0 ∧ 0 ≤ ar2.toInt ∧ ar2.toInt < D 0 ∧ 0 ≤ ar3.toInt ∧ ar3.toInt ≤ 12) → (g21 0 0).toInt = 1) ∧ ((0 ≤ ar1.toInt ∧ ar1.toInt < D 0 ∧ 0 ≤ ar2.toInt ∧ ar2.toInt < D 0 ∧ 0 ≤ ar3.toInt ∧ ar3.toInt ≤ 12) → (g21 0 0).toInt = 0) from (by
                                                            intro u D hu hl hc hb
                                                            have ha : a6 = u := Value.ref.inj (e6.symm.trans hu)
                                                            subst ha
                                                            have hm := hc.1.1
                                                            exact ⟨fun h => (by have ffs : (g21 0 0).toInt = 1 := (congrArg Int32.toInt (by rw [e21]; exact x_up2_at _ _ _ _ : g21 0 0 = 1)).trans (by decide); omega), fun h => (by have ffs : (g21 0 0).toInt = 1 := (congrArg Int32.toInt (by rw [e21]; exact x_up2_at _ _ _ _ : g21 0 0 = 1)).trans (by decide); omega)⟩))⟩⟩
        · have r22 : ar2.toInt < (gi a6 0).toInt := Int32.lt_iff_toInt_lt.mp (t_nle h18)
          have u23 : ar2.toInt ≤ 5 := t_ltu (t_nle h18) u7 rfl
          refine ev_ic f_X11_isPort (nx := 16) (v := 1) rfl (by decide) rfl ?_
          refine ev_jmp f_X11_isPort (nx := 20) rfl rfl rfl ?_
          refine ev_retK1 f_X11_isPort rfl rfl rfl ?_
          refine ev_f f_X11_together (t1 := 26) (t2 := 16) rfl rfl rfl (by decide) ?_
          refine ev_loc f_X11_together (nx := 17) rfl rfl rfl rfl ?_
          refine ev_if f_X11_together (t1 := 26) (t2 := 20) rfl rfl rfl (fun h24 => ?_) (fun h24 => ?_)
          · have u25 : ar3.toInt ≤ (-1) := t_ltu h24 (by decide : (0:Int32).toInt ≤ (0:Int)) rfl
            refine ev_loc f_X11_together (nx := 27) rfl rfl rfl rfl ?_
            refine ev_ic f_X11_together (nx := 28) (v := 1) rfl (by decide) rfl ?_
            refine ev_inV2 f_X11_together (nx := 31) (lo2 := [(0, .ref 0), (1, .int 1)]) rfl rfl rfl rfl f_X11_refuse (hI.wf.s rfl) rfl rfl rfl rfl rfl ?_
            refine ev_loc f_X11_refuse (nx := 1) rfl rfl rfl rfl ?_
            refine ev_loc f_X11_refuse (nx := 2) rfl rfl rfl rfl ?_
            refine ev_putIT f_X11_refuse (nx := 5) rfl (hI.wf.s rfl) rfl rfl rfl (hI.put0 (hI.wf.s rfl) rfl rfl) (hX.upI rfl) (fun g26 e26 hI hX => ?_)
            refine ev_ic f_X11_refuse (nx := 6) (v := -1) rfl (by decide) rfl ?_
            refine ev_retK1 f_X11_refuse rfl rfl rfl ?_
            refine ev_aluvL f_X11_together (nx := 32) (w := -1) rfl rfl rfl (by decide) rfl ?_
            exact ev_ret f_X11_together rfl rfl rfl ⟨_, _, _, rfl, hI, hX, ⟨_, rfl, (show ∀ (u : Nat) (D : s_D), gr 0 6 = .ref u → t_VL gr u → t_CV gi gl u D → t_Cb D → (¬ (0 ≤ ar1.toInt ∧ ar1.toInt < D 0 ∧ 0 ≤ ar2.toInt ∧ ar2.toInt < D 0 ∧ 0 ≤ ar3.toInt ∧ ar3.toInt ≤ 12) → (g26 0 0).toInt = 1) ∧ ((0 ≤ ar1.toInt ∧ ar1.toInt < D 0 ∧ 0 ≤ ar2.toInt ∧ ar2.toInt < D 0 ∧ 0 ≤ ar3.toInt ∧ ar3.toInt ≤ 12) → (g26 0 0).toInt = 0) from (by
                                                            intro u D hu hl hc hb
                                                            have ha : a6 = u := Value.ref.inj (e6.symm.trans hu)
                                                            subst ha
                                                            have hm := hc.1.1
                                                            exact ⟨fun h => (by have ffs : (g26 0 0).toInt = 1 := (congrArg Int32.toInt (by rw [e26]; exact x_up2_at _ _ _ _ : g26 0 0 = 1)).trans (by decide); omega), fun h => (by have ffs : (g26 0 0).toInt = 1 := (congrArg Int32.toInt (by rw [e26]; exact x_up2_at _ _ _ _ : g26 0 0 = 1)).trans (by decide); omega)⟩))⟩⟩
          · have l27 : 0 ≤ ar3.toInt := t_lel (t_nlt h24) (by decide : (0:Int) ≤ (0:Int32).toInt)
            refine ev_loc f_X11_together (nx := 21) rfl rfl rfl rfl ?_
            refine ev_bp f_X11_together (nx := 23) (v := 12) rfl (by decide) rfl ?_
            refine ev_if f_X11_together (t1 := 33) (t2 := 26) rfl rfl rfl (fun h28 => ?_) (fun h28 => ?_)
            · have u29 : ar3.toInt ≤ 12 := t_leu h28 (by decide : (12:Int32).toInt ≤ (12:Int))
              refine ev_loc f_X11_together (nx := 34) rfl rfl rfl rfl ?_
              refine ev_loc f_X11_together (nx := 35) rfl rfl rfl rfl ?_
              refine ev_getR f_X11_together (nx := 38) (v := .ref a6) rfl (hI.wf.s rfl) rfl rfl e6 rfl rfl ?_
              refine ev_loc f_X11_together (nx := 39) rfl rfl rfl rfl ?_
              refine ev_loc f_X11_together (nx := 40) rfl rfl rfl rfl ?_
              refine ev_loc f_X11_together (nx := 41) rfl rfl rfl rfl ?_
              refine ev_inV4 f_X11_together (nx := 44) (lo2 := [(0, .ref a6), (1, .int ar1), (2, .int ar2), (3, .int ar3)]) rfl rfl rfl rfl f_X5_bothHeard p6.1 rfl rfl rfl rfl rfl ?_
              refine ev_loc f_X5_bothHeard (nx := 1) rfl rfl rfl rfl ?_
              refine ev_loc f_X5_bothHeard (nx := 2) rfl rfl rfl rfl ?_
              refine ev_cL f_X5_bothHeard (nx := 5) (r := []) rfl rfl rfl rfl rfl rfl rfl (c_heardOf hI (a6) p6 (ar1)) rfl hX rfl (fun w30 gi30 gl30 gr30 hI hX hC30 => ?_)
              replace p6 := p6.ext hC30.2
              refine ev_loc f_X5_bothHeard (nx := 6) rfl rfl rfl rfl ?_
              refine ev_loc f_X5_bothHeard (nx := 7) rfl rfl rfl rfl ?_
              refine ev_cL f_X5_bothHeard (nx := 10) (r := [.long w30]) rfl rfl rfl rfl rfl rfl rfl (c_heardOf hI (a6) p6 (ar2)) rfl hX rfl (fun w31 gi31 gl31 gr31 hI hX hC31 => ?_)
              replace p6 := p6.ext hC31.2
              refine ev_loc f_X5_bothHeard (nx := 11) rfl rfl rfl rfl ?_
              refine ev_anyL f_X5_bothHeard (nx := 12) rfl rfl rfl rfl (fun z32 => ?_)
              refine ev_anyL f_X5_bothHeard (nx := 13) rfl rfl rfl rfl (fun z33 => ?_)
              refine ev_retK1 f_X5_bothHeard rfl rfl rfl ?_
              refine ev_inV2 f_X11_together (nx := 47) (lo2 := [(0, .ref 0), (1, .long z33)]) rfl rfl rfl rfl f_X11_answerLong (hI.wf.s rfl) rfl rfl rfl rfl rfl ?_
              refine ev_loc f_X11_answerLong (nx := 1) rfl rfl rfl rfl ?_
              refine ev_ic f_X11_answerLong (nx := 2) (v := 0) rfl (by decide) rfl ?_
              refine ev_putIT f_X11_answerLong (nx := 5) rfl (hI.wf.s rfl) rfl rfl rfl (hI.put0 (hI.wf.s rfl) rfl rfl) (hX.upI rfl) (fun g34 e34 hI hX => ?_)
              refine ev_loc f_X11_answerLong (nx := 6) rfl rfl rfl rfl ?_
              refine ev_retK1 f_X11_answerLong rfl rfl rfl ?_
              exact ev_ret f_X11_together rfl rfl rfl ⟨_, _, _, rfl, hI, hX, ⟨_, rfl, (show ∀ (u : Nat) (D : s_D), gr 0 6 = .ref u → t_VL gr u → t_CV gi gl u D → t_Cb D → (¬ (0 ≤ ar1.toInt ∧ ar1.toInt < D 0 ∧ 0 ≤ ar2.toInt ∧ ar2.toInt < D 0 ∧ 0 ≤ ar3.toInt ∧ ar3.toInt ≤ 12) → (g34 0 0).toInt = 1) ∧ ((0 ≤ ar1.toInt ∧ ar1.toInt < D 0 ∧ 0 ≤ ar2.toInt ∧ ar2.toInt < D 0 ∧ 0 ≤ ar3.toInt ∧ ar3.toInt ≤ 12) → (g34 0 0).toInt = 0) from (by
                                                            intro u D hu hl hc hb
                                                            have ha : a6 = u := Value.ref.inj (e6.symm.trans hu)
                                                            subst ha
                                                            have hm := hc.1.1
                                                            exact ⟨fun h => (by have ffs : (g34 0 0).toInt = 0 := (congrArg Int32.toInt (by rw [e34]; exact x_up2_at _ _ _ _ : g34 0 0 = 0)).trans (by decide); omega), fun h => (by have ffs : (g34 0 0).toInt = 0 := (congrArg Int32.toInt (by rw [e34]; exact x_up2_at _ _ _ _ : g34 0 0 = 0)).trans (by decide); omega)⟩))⟩⟩
            · have l35 : 13 ≤ ar3.toInt := t_ltl (t_nle h28) (by decide : (12:Int) ≤ (12:Int32).toInt) rfl
              refine ev_loc f_X11_together (nx := 27) rfl rfl rfl rfl ?_
              refine ev_ic f_X11_together (nx := 28) (v := 1) rfl (by decide) rfl ?_
              refine ev_inV2 f_X11_together (nx := 31) (lo2 := [(0, .ref 0), (1, .int 1)]) rfl rfl rfl rfl f_X11_refuse (hI.wf.s rfl) rfl rfl rfl rfl rfl ?_
              refine ev_loc f_X11_refuse (nx := 1) rfl rfl rfl rfl ?_
              refine ev_loc f_X11_refuse (nx := 2) rfl rfl rfl rfl ?_
              refine ev_putIT f_X11_refuse (nx := 5) rfl (hI.wf.s rfl) rfl rfl rfl (hI.put0 (hI.wf.s rfl) rfl rfl) (hX.upI rfl) (fun g36 e36 hI hX => ?_)
              refine ev_ic f_X11_refuse (nx := 6) (v := -1) rfl (by decide) rfl ?_
              refine ev_retK1 f_X11_refuse rfl rfl rfl ?_
              refine ev_aluvL f_X11_together (nx := 32) (w := -1) rfl rfl rfl (by decide) rfl ?_
              exact ev_ret f_X11_together rfl rfl rfl ⟨_, _, _, rfl, hI, hX, ⟨_, rfl, (show ∀ (u : Nat) (D : s_D), gr 0 6 = .ref u → t_VL gr u → t_CV gi gl u D → t_Cb D → (¬ (0 ≤ ar1.toInt ∧ ar1.toInt < D 0 ∧ 0 ≤ ar2.toInt ∧ ar2.toInt < D 0 ∧ 0 ≤ ar3.toInt ∧ ar3.toInt ≤ 12) → (g36 0 0).toInt = 1) ∧ ((0 ≤ ar1.toInt ∧ ar1.toInt < D 0 ∧ 0 ≤ ar2.toInt ∧ ar2.toInt < D 0 ∧ 0 ≤ ar3.toInt ∧ ar3.toInt ≤ 12) → (g36 0 0).toInt = 0) from (by
                                                            intro u D hu hl hc hb
                                                            have ha : a6 = u := Value.ref.inj (e6.symm.trans hu)
                                                            subst ha
                                                            have hm := hc.1.1
                                                            exact ⟨fun h => (by have ffs : (g36 0 0).toInt = 1 := (congrArg Int32.toInt (by rw [e36]; exact x_up2_at _ _ _ _ : g36 0 0 = 1)).trans (by decide); omega), fun h => (by have ffs : (g36 0 0).toInt = 1 := (congrArg Int32.toInt (by rw [e36]; exact x_up2_at _ _ _ _ : g36 0 0 = 1)).trans (by decide); omega)⟩))⟩⟩
/-! ===== printed by riv.py: STATUS, the class ===== -/
noncomputable def wl_f_lasts : List (Nat × Nat) := [(0, 0)]
noncomputable def Q_f_lasts (gi : Nat → Nat → Int32) (gl : Nat → Nat → Int64) (gr : Nat → Nat → Value) (ar1 : Int32) : Int32 → (Nat → Nat → Int32) → (Nat → Nat → Int64) → (Nat → Nat → Value) → Prop := fun (v : Int32) (gi2 : Nat → Nat → Int32) (gl2 : Nat → Nat → Int64) (gr2 : Nat → Nat → Value) => ∀ (u : Nat) (D : s_D), gr 0 6 = .ref u → t_VL gr u → t_CV gi gl u D → t_Cb D → (¬ (0 ≤ ar1.toInt ∧ ar1.toInt < D 0) → (gi2 0 0).toInt = 1) ∧ ((0 ≤ ar1.toInt ∧ ar1.toInt < D 0) → (gi2 0 0).toInt = 0)
theorem c_f_lasts {X : x_Ext} {d : Nat} {sh : List (Nat ⊕ (Nat × Nat))} {gi : Nat → Nat → Int32} {gl : Nat → Nat → Int64} {gr : Nat → Nat → Value} (hI : t_I sh gi gr) (ar1 : Int32) : x_Me X (d + 3) n_X11_lasts [.ref 0, .int ar1] (sh, gi, gl, gr) (t_PI wl_f_lasts sh gi gl gr (-2147483648) 2147483647 (Q_f_lasts gi gl gr ar1)) := by
  have hX : t_X wl_f_lasts sh gi gl gr gi gl gr := t_X.rf
  refine me_i f_X11_lasts (hI.wf.s rfl) rfl rfl rfl ?_
  refine ev_loc f_X11_lasts (nx := 1) rfl rfl rfl rfl ?_
  refine ev_loc f_X11_lasts (nx := 2) rfl rfl rfl rfl ?_
  refine ev_inV2 f_X11_lasts (nx := 5) (lo2 := [(0, .ref 0), (1, .int ar1)]) rfl rfl rfl rfl f_X11_isPort (hI.wf.s rfl) rfl rfl rfl rfl rfl ?_
  refine ev_loc f_X11_isPort (nx := 1) rfl rfl rfl rfl ?_
  refine ev_if f_X11_isPort (t1 := 19) (t2 := 4) rfl rfl rfl (fun h2 => ?_) (fun h2 => ?_)
  · have u3 : ar1.toInt ≤ (-1) := t_ltu h2 (by decide : (0:Int32).toInt ≤ (0:Int)) rfl
    refine ev_ic f_X11_isPort (nx := 20) (v := 0) rfl (by decide) rfl ?_
    refine ev_retK1 f_X11_isPort rfl rfl rfl ?_
    refine ev_t f_X11_lasts (t1 := 8) (t2 := 14) rfl rfl rfl (by decide) ?_
    refine ev_loc f_X11_lasts (nx := 9) rfl rfl rfl rfl ?_
    refine ev_ic f_X11_lasts (nx := 10) (v := 1) rfl (by decide) rfl ?_
    refine ev_inV2 f_X11_lasts (nx := 13) (lo2 := [(0, .ref 0), (1, .int 1)]) rfl rfl rfl rfl f_X11_refuse (hI.wf.s rfl) rfl rfl rfl rfl rfl ?_
    refine ev_loc f_X11_refuse (nx := 1) rfl rfl rfl rfl ?_
    refine ev_loc f_X11_refuse (nx := 2) rfl rfl rfl rfl ?_
    refine ev_putIT f_X11_refuse (nx := 5) rfl (hI.wf.s rfl) rfl rfl rfl (hI.put0 (hI.wf.s rfl) rfl rfl) (hX.upI rfl) (fun g4 e4 hI hX => ?_)
    refine ev_ic f_X11_refuse (nx := 6) (v := -1) rfl (by decide) rfl ?_
    refine ev_retK1 f_X11_refuse rfl rfl rfl ?_
    exact ev_ret f_X11_lasts rfl rfl rfl ⟨_, _, _, rfl, hI, hX, ⟨_, rfl, (Int.le_trans (by decide : ((-2147483648):Int) ≤ (-1)) (by decide : ((-1):Int) ≤ ((-1):Int32).toInt)), (Int.le_trans (by decide : ((-1):Int32).toInt ≤ ((-1):Int)) (by decide : ((-1):Int) ≤ 2147483647)), (show ∀ (u : Nat) (D : s_D), gr 0 6 = .ref u → t_VL gr u → t_CV gi gl u D → t_Cb D → (¬ (0 ≤ ar1.toInt ∧ ar1.toInt < D 0) → (g4 0 0).toInt = 1) ∧ ((0 ≤ ar1.toInt ∧ ar1.toInt < D 0) → (g4 0 0).toInt = 0) from (by
                                                            intro u D hu hl hc hb
                                                            have hm := hc.1.1
                                                            exact ⟨fun h => (by have ffs : (g4 0 0).toInt = 1 := (congrArg Int32.toInt (by rw [e4]; exact x_up2_at _ _ _ _ : g4 0 0 = 1)).trans (by decide); omega), fun h => (by have ffs : (g4 0 0).toInt = 1 := (congrArg Int32.toInt (by rw [e4]; exact x_up2_at _ _ _ _ : g4 0 0 = 1)).trans (by decide); omega)⟩))⟩⟩
  · have l5 : 0 ≤ ar1.toInt := t_lel (t_nlt h2) (by decide : (0:Int) ≤ (0:Int32).toInt)
    refine ev_loc f_X11_isPort (nx := 5) rfl rfl rfl rfl ?_
    refine ev_loc f_X11_isPort (nx := 6) rfl rfl rfl rfl ?_
    obtain ⟨a6, e6, p6⟩ := hI.2.2.2.1.1
    refine ev_getR f_X11_isPort (nx := 9) rfl (hI.wf.s rfl) rfl rfl e6 rfl rfl ?_
    refine ev_getI f_X11_isPort (nx := 12) rfl p6.1 rfl rfl rfl ?_
    obtain ⟨l7, u7⟩ := hI.b p6.1 (t_bdK rfl : t_bd 4 0 = some (0, 6))
    refine ev_if f_X11_isPort (t1 := 19) (t2 := 15) rfl rfl rfl (fun h8 => ?_) (fun h8 => ?_)
    · have r9 : (gi a6 0).toInt ≤ ar1.toInt := Int32.le_iff_toInt_le.mp h8
      refine ev_ic f_X11_isPort (nx := 20) (v := 0) rfl (by decide) rfl ?_
      refine ev_retK1 f_X11_isPort rfl rfl rfl ?_
      refine ev_t f_X11_lasts (t1 := 8) (t2 := 14) rfl rfl rfl (by decide) ?_
      refine ev_loc f_X11_lasts (nx := 9) rfl rfl rfl rfl ?_
      refine ev_ic f_X11_lasts (nx := 10) (v := 1) rfl (by decide) rfl ?_
      refine ev_inV2 f_X11_lasts (nx := 13) (lo2 := [(0, .ref 0), (1, .int 1)]) rfl rfl rfl rfl f_X11_refuse (hI.wf.s rfl) rfl rfl rfl rfl rfl ?_
      refine ev_loc f_X11_refuse (nx := 1) rfl rfl rfl rfl ?_
      refine ev_loc f_X11_refuse (nx := 2) rfl rfl rfl rfl ?_
      refine ev_putIT f_X11_refuse (nx := 5) rfl (hI.wf.s rfl) rfl rfl rfl (hI.put0 (hI.wf.s rfl) rfl rfl) (hX.upI rfl) (fun g10 e10 hI hX => ?_)
      refine ev_ic f_X11_refuse (nx := 6) (v := -1) rfl (by decide) rfl ?_
      refine ev_retK1 f_X11_refuse rfl rfl rfl ?_
      exact ev_ret f_X11_lasts rfl rfl rfl ⟨_, _, _, rfl, hI, hX, ⟨_, rfl, (Int.le_trans (by decide : ((-2147483648):Int) ≤ (-1)) (by decide : ((-1):Int) ≤ ((-1):Int32).toInt)), (Int.le_trans (by decide : ((-1):Int32).toInt ≤ ((-1):Int)) (by decide : ((-1):Int) ≤ 2147483647)), (show ∀ (u : Nat) (D : s_D), gr 0 6 = .ref u → t_VL gr u → t_CV gi gl u D → t_Cb D → (¬ (0 ≤ ar1.toInt ∧ ar1.toInt < D 0) → (g10 0 0).toInt = 1) ∧ ((0 ≤ ar1.toInt ∧ ar1.toInt < D 0) → (g10 0 0).toInt = 0) from (by
                                                            intro u D hu hl hc hb
                                                            have ha : a6 = u := Value.ref.inj (e6.symm.trans hu)
                                                            subst ha
                                                            have hm := hc.1.1
                                                            exact ⟨fun h => (by have ffs : (g10 0 0).toInt = 1 := (congrArg Int32.toInt (by rw [e10]; exact x_up2_at _ _ _ _ : g10 0 0 = 1)).trans (by decide); omega), fun h => (by have ffs : (g10 0 0).toInt = 1 := (congrArg Int32.toInt (by rw [e10]; exact x_up2_at _ _ _ _ : g10 0 0 = 1)).trans (by decide); omega)⟩))⟩⟩
    · have r11 : ar1.toInt < (gi a6 0).toInt := Int32.lt_iff_toInt_lt.mp (t_nle h8)
      have u12 : ar1.toInt ≤ 5 := t_ltu (t_nle h8) u7 rfl
      have l13 : 1 ≤ (gi a6 0).toInt := t_ltl (t_nle h8) l5 rfl
      refine ev_ic f_X11_isPort (nx := 16) (v := 1) rfl (by decide) rfl ?_
      refine ev_jmp f_X11_isPort (nx := 20) rfl rfl rfl ?_
      refine ev_retK1 f_X11_isPort rfl rfl rfl ?_
      refine ev_f f_X11_lasts (t1 := 8) (t2 := 14) rfl rfl rfl (by decide) ?_
      refine ev_loc f_X11_lasts (nx := 15) rfl rfl rfl rfl ?_
      refine ev_bp f_X11_lasts (nx := 17) (v := 64) rfl (by decide) rfl ?_
      refine ev_loc f_X11_lasts (nx := 18) rfl rfl rfl rfl ?_
      refine ev_getR f_X11_lasts (nx := 21) (v := .ref a6) rfl (hI.wf.s rfl) rfl rfl e6 rfl rfl ?_
      refine ev_loc f_X11_lasts (nx := 22) rfl rfl rfl rfl ?_
      refine ev_cL f_X11_lasts (nx := 25) (r := [.int 64, .ref 0]) rfl rfl rfl rfl rfl rfl rfl (c_heardOf hI (a6) p6 (ar1)) rfl hX rfl (fun w14 gi14 gl14 gr14 hI hX hC14 => ?_)
      replace p6 := p6.ext hC14.2
      refine ev_inS1 f_X11_lasts (nx := 28) (lo2 := [(0, .long w14)]) rfl rfl rfl rfl f_J13_numberOfLeadingZeros_95d88 rfl rfl rfl rfl ?_
      refine ev_loc f_J13_numberOfLeadingZeros_95d88 (nx := 1) rfl rfl rfl rfl ?_
      refine ev_bp f_J13_numberOfLeadingZeros_95d88 (nx := 3) (v := 32) rfl (by decide) rfl ?_
      refine ev_anyL f_J13_numberOfLeadingZeros_95d88 (nx := 4) rfl rfl rfl rfl (fun z15 => ?_)
      refine ev_anyI f_J13_numberOfLeadingZeros_95d88 (nx := 5) rfl rfl rfl rfl (fun z16 => ?_)
      refine ev_loc f_J13_numberOfLeadingZeros_95d88 (nx := 6) (lo' := [(2, .int z16), (0, .long w14)]) rfl rfl rfl rfl ?_
      refine ev_loc f_J13_numberOfLeadingZeros_95d88 (nx := 7) rfl rfl rfl rfl ?_
      refine ev_if f_J13_numberOfLeadingZeros_95d88 (t1 := 10) (t2 := 21) rfl rfl rfl (fun h17 => ?_) (fun h17 => ?_)
      · have u18 : z16.toInt ≤ 0 := t_equ h17 (by decide : (0:Int32).toInt ≤ (0:Int))
        have l19 : 0 ≤ z16.toInt := t_eql h17 (by decide : (0:Int) ≤ (0:Int32).toInt)
        refine ev_bp f_J13_numberOfLeadingZeros_95d88 (nx := 12) (v := 32) rfl (by decide) rfl ?_
        refine ev_loc f_J13_numberOfLeadingZeros_95d88 (nx := 13) rfl rfl rfl rfl ?_
        refine ev_anyI f_J13_numberOfLeadingZeros_95d88 (nx := 14) rfl rfl rfl rfl (fun z20 => ?_)
        refine ev_inS1 f_J13_numberOfLeadingZeros_95d88 (nx := 17) (lo2 := [(0, .int z20)]) rfl rfl rfl rfl f_J6_numberOfLeadingZeros_0f7a4 rfl rfl rfl rfl ?_
        refine ev_loc f_J6_numberOfLeadingZeros_0f7a4 (nx := 1) rfl rfl rfl rfl ?_
        refine ev_if f_J6_numberOfLeadingZeros_0f7a4 (t1 := 15) (t2 := 4) rfl rfl rfl (fun h21 => ?_) (fun h21 => ?_)
        · have l22 : 1 ≤ z20.toInt := t_ltl h21 (by decide : (0:Int) ≤ (0:Int32).toInt) rfl
          refine ev_bp f_J6_numberOfLeadingZeros_0f7a4 (nx := 17) (v := 31) rfl (by decide) rfl ?_
          refine ev_loc f_J6_numberOfLeadingZeros_0f7a4 (nx := 18) (lo' := [(1, .int 31), (0, .int z20)]) rfl rfl rfl rfl ?_
          refine ev_loc f_J6_numberOfLeadingZeros_0f7a4 (nx := 19) rfl rfl rfl rfl ?_
          refine ev_ldW f_J6_numberOfLeadingZeros_0f7a4 (nx := 22) (v := 65536) rfl (by decide) rfl ?_
          refine ev_if f_J6_numberOfLeadingZeros_0f7a4 (t1 := 33) (t2 := 25) rfl rfl rfl (fun h23 => ?_) (fun h23 => ?_)
          · have u24 : z20.toInt ≤ 65535 := t_ltu h23 (by decide : (65536:Int32).toInt ≤ (65536:Int)) rfl
            refine ev_loc f_J6_numberOfLeadingZeros_0f7a4 (nx := 34) rfl rfl rfl rfl ?_
            refine ev_sp f_J6_numberOfLeadingZeros_0f7a4 (nx := 37) (v := 256) rfl (by decide) rfl ?_
            refine ev_if f_J6_numberOfLeadingZeros_0f7a4 (t1 := 48) (t2 := 40) rfl rfl rfl (fun h25 => ?_) (fun h25 => ?_)
            · have u26 : z20.toInt ≤ 255 := t_ltu h25 (by decide : (256:Int32).toInt ≤ (256:Int)) rfl
              refine ev_loc f_J6_numberOfLeadingZeros_0f7a4 (nx := 49) rfl rfl rfl rfl ?_
              refine ev_bp f_J6_numberOfLeadingZeros_0f7a4 (nx := 51) (v := 16) rfl (by decide) rfl ?_
              refine ev_if f_J6_numberOfLeadingZeros_0f7a4 (t1 := 61) (t2 := 54) rfl rfl rfl (fun h27 => ?_) (fun h27 => ?_)
              · have u28 : z20.toInt ≤ 15 := t_ltu h27 (by decide : (16:Int32).toInt ≤ (16:Int)) rfl
                refine ev_loc f_J6_numberOfLeadingZeros_0f7a4 (nx := 62) rfl rfl rfl rfl ?_
                refine ev_ic f_J6_numberOfLeadingZeros_0f7a4 (nx := 63) (v := 4) rfl (by decide) rfl ?_
                refine ev_if f_J6_numberOfLeadingZeros_0f7a4 (t1 := 73) (t2 := 66) rfl rfl rfl (fun h29 => ?_) (fun h29 => ?_)
                · have u30 : z20.toInt ≤ 3 := t_ltu h29 (by decide : (4:Int32).toInt ≤ (4:Int)) rfl
                  refine ev_loc f_J6_numberOfLeadingZeros_0f7a4 (nx := 74) rfl rfl rfl rfl ?_
                  refine ev_loc f_J6_numberOfLeadingZeros_0f7a4 (nx := 75) rfl rfl rfl rfl ?_
                  refine ev_ic f_J6_numberOfLeadingZeros_0f7a4 (nx := 76) (v := 1) rfl (by decide) rfl ?_
                  refine ev_anyI f_J6_numberOfLeadingZeros_0f7a4 (nx := 77) rfl rfl rfl rfl (fun z31 => ?_)
                  refine ev_anyI f_J6_numberOfLeadingZeros_0f7a4 (nx := 78) rfl rfl rfl rfl (fun z32 => ?_)
                  refine ev_retK1 f_J6_numberOfLeadingZeros_0f7a4 rfl rfl rfl ?_
                  refine ev_anyI f_J13_numberOfLeadingZeros_95d88 (nx := 18) rfl rfl rfl rfl (fun z33 => ?_)
                  refine ev_jmp f_J13_numberOfLeadingZeros_95d88 (nx := 25) rfl rfl rfl ?_
                  refine ev_retK1 f_J13_numberOfLeadingZeros_95d88 rfl rfl rfl ?_
                  refine ev_anyI f_X11_lasts (nx := 29) rfl rfl rfl rfl (fun z34 => ?_)
                  refine ev_inV2 f_X11_lasts (nx := 32) (lo2 := [(0, .ref 0), (1, .int z34)]) rfl rfl rfl rfl f_X11_answer (hI.wf.s rfl) rfl rfl rfl rfl rfl ?_
                  refine ev_loc f_X11_answer (nx := 1) rfl rfl rfl rfl ?_
                  refine ev_ic f_X11_answer (nx := 2) (v := 0) rfl (by decide) rfl ?_
                  refine ev_putIT f_X11_answer (nx := 5) rfl (hI.wf.s rfl) rfl rfl rfl (hI.put0 (hI.wf.s rfl) rfl rfl) (hX.upI rfl) (fun g35 e35 hI hX => ?_)
                  refine ev_loc f_X11_answer (nx := 6) rfl rfl rfl rfl ?_
                  refine ev_retK1 f_X11_answer rfl rfl rfl ?_
                  exact ev_ret f_X11_lasts rfl rfl rfl ⟨_, _, _, rfl, hI, hX, ⟨_, rfl, (t_lo z34), (t_hi z34), (show ∀ (u : Nat) (D : s_D), gr 0 6 = .ref u → t_VL gr u → t_CV gi gl u D → t_Cb D → (¬ (0 ≤ ar1.toInt ∧ ar1.toInt < D 0) → (g35 0 0).toInt = 1) ∧ ((0 ≤ ar1.toInt ∧ ar1.toInt < D 0) → (g35 0 0).toInt = 0) from (by
                                                            intro u D hu hl hc hb
                                                            have ha : a6 = u := Value.ref.inj (e6.symm.trans hu)
                                                            subst ha
                                                            have hm := hc.1.1
                                                            exact ⟨fun h => (by have ffs : (g35 0 0).toInt = 0 := (congrArg Int32.toInt (by rw [e35]; exact x_up2_at _ _ _ _ : g35 0 0 = 0)).trans (by decide); omega), fun h => (by have ffs : (g35 0 0).toInt = 0 := (congrArg Int32.toInt (by rw [e35]; exact x_up2_at _ _ _ _ : g35 0 0 = 0)).trans (by decide); omega)⟩))⟩⟩
                · have l36 : 4 ≤ z20.toInt := t_lel (t_nlt h29) (by decide : (4:Int) ≤ (4:Int32).toInt)
                  refine ev_incv f_J6_numberOfLeadingZeros_0f7a4 (nx := 69) (c := -2) (w := 29) (lo' := [(1, .int 29), (0, .int z20)]) rfl rfl (by decide) (by decide) rfl rfl rfl ?_
                  refine ev_loc f_J6_numberOfLeadingZeros_0f7a4 (nx := 70) rfl rfl rfl rfl ?_
                  refine ev_ic f_J6_numberOfLeadingZeros_0f7a4 (nx := 71) (v := 2) rfl (by decide) rfl ?_
                  refine ev_anyI f_J6_numberOfLeadingZeros_0f7a4 (nx := 72) rfl rfl rfl rfl (fun z37 => ?_)
                  refine ev_loc f_J6_numberOfLeadingZeros_0f7a4 (nx := 73) (lo' := [(0, .int z37), (1, .int 29)]) rfl rfl rfl rfl ?_
                  refine ev_loc f_J6_numberOfLeadingZeros_0f7a4 (nx := 74) rfl rfl rfl rfl ?_
                  refine ev_loc f_J6_numberOfLeadingZeros_0f7a4 (nx := 75) rfl rfl rfl rfl ?_
                  refine ev_ic f_J6_numberOfLeadingZeros_0f7a4 (nx := 76) (v := 1) rfl (by decide) rfl ?_
                  refine ev_anyI f_J6_numberOfLeadingZeros_0f7a4 (nx := 77) rfl rfl rfl rfl (fun z38 => ?_)
                  refine ev_anyI f_J6_numberOfLeadingZeros_0f7a4 (nx := 78) rfl rfl rfl rfl (fun z39 => ?_)
                  refine ev_retK1 f_J6_numberOfLeadingZeros_0f7a4 rfl rfl rfl ?_
                  refine ev_anyI f_J13_numberOfLeadingZeros_95d88 (nx := 18) rfl rfl rfl rfl (fun z40 => ?_)
                  refine ev_jmp f_J13_numberOfLeadingZeros_95d88 (nx := 25) rfl rfl rfl ?_
                  refine ev_retK1 f_J13_numberOfLeadingZeros_95d88 rfl rfl rfl ?_
                  refine ev_anyI f_X11_lasts (nx := 29) rfl rfl rfl rfl (fun z41 => ?_)
                  refine ev_inV2 f_X11_lasts (nx := 32) (lo2 := [(0, .ref 0), (1, .int z41)]) rfl rfl rfl rfl f_X11_answer (hI.wf.s rfl) rfl rfl rfl rfl rfl ?_
                  refine ev_loc f_X11_answer (nx := 1) rfl rfl rfl rfl ?_
                  refine ev_ic f_X11_answer (nx := 2) (v := 0) rfl (by decide) rfl ?_
                  refine ev_putIT f_X11_answer (nx := 5) rfl (hI.wf.s rfl) rfl rfl rfl (hI.put0 (hI.wf.s rfl) rfl rfl) (hX.upI rfl) (fun g42 e42 hI hX => ?_)
                  refine ev_loc f_X11_answer (nx := 6) rfl rfl rfl rfl ?_
                  refine ev_retK1 f_X11_answer rfl rfl rfl ?_
                  exact ev_ret f_X11_lasts rfl rfl rfl ⟨_, _, _, rfl, hI, hX, ⟨_, rfl, (t_lo z41), (t_hi z41), (show ∀ (u : Nat) (D : s_D), gr 0 6 = .ref u → t_VL gr u → t_CV gi gl u D → t_Cb D → (¬ (0 ≤ ar1.toInt ∧ ar1.toInt < D 0) → (g42 0 0).toInt = 1) ∧ ((0 ≤ ar1.toInt ∧ ar1.toInt < D 0) → (g42 0 0).toInt = 0) from (by
                                                            intro u D hu hl hc hb
                                                            have ha : a6 = u := Value.ref.inj (e6.symm.trans hu)
                                                            subst ha
                                                            have hm := hc.1.1
                                                            exact ⟨fun h => (by have ffs : (g42 0 0).toInt = 0 := (congrArg Int32.toInt (by rw [e42]; exact x_up2_at _ _ _ _ : g42 0 0 = 0)).trans (by decide); omega), fun h => (by have ffs : (g42 0 0).toInt = 0 := (congrArg Int32.toInt (by rw [e42]; exact x_up2_at _ _ _ _ : g42 0 0 = 0)).trans (by decide); omega)⟩))⟩⟩
              · have l43 : 16 ≤ z20.toInt := t_lel (t_nlt h27) (by decide : (16:Int) ≤ (16:Int32).toInt)
                refine ev_incv f_J6_numberOfLeadingZeros_0f7a4 (nx := 57) (c := -4) (w := 27) (lo' := [(1, .int 27), (0, .int z20)]) rfl rfl (by decide) (by decide) rfl rfl rfl ?_
                refine ev_loc f_J6_numberOfLeadingZeros_0f7a4 (nx := 58) rfl rfl rfl rfl ?_
                refine ev_ic f_J6_numberOfLeadingZeros_0f7a4 (nx := 59) (v := 4) rfl (by decide) rfl ?_
                refine ev_anyI f_J6_numberOfLeadingZeros_0f7a4 (nx := 60) rfl rfl rfl rfl (fun z44 => ?_)
                refine ev_loc f_J6_numberOfLeadingZeros_0f7a4 (nx := 61) (lo' := [(0, .int z44), (1, .int 27)]) rfl rfl rfl rfl ?_
                refine ev_loc f_J6_numberOfLeadingZeros_0f7a4 (nx := 62) rfl rfl rfl rfl ?_
                refine ev_ic f_J6_numberOfLeadingZeros_0f7a4 (nx := 63) (v := 4) rfl (by decide) rfl ?_
                refine ev_if f_J6_numberOfLeadingZeros_0f7a4 (t1 := 73) (t2 := 66) rfl rfl rfl (fun h45 => ?_) (fun h45 => ?_)
                · have u46 : z44.toInt ≤ 3 := t_ltu h45 (by decide : (4:Int32).toInt ≤ (4:Int)) rfl
                  refine ev_loc f_J6_numberOfLeadingZeros_0f7a4 (nx := 74) rfl rfl rfl rfl ?_
                  refine ev_loc f_J6_numberOfLeadingZeros_0f7a4 (nx := 75) rfl rfl rfl rfl ?_
                  refine ev_ic f_J6_numberOfLeadingZeros_0f7a4 (nx := 76) (v := 1) rfl (by decide) rfl ?_
                  refine ev_anyI f_J6_numberOfLeadingZeros_0f7a4 (nx := 77) rfl rfl rfl rfl (fun z47 => ?_)
                  refine ev_anyI f_J6_numberOfLeadingZeros_0f7a4 (nx := 78) rfl rfl rfl rfl (fun z48 => ?_)
                  refine ev_retK1 f_J6_numberOfLeadingZeros_0f7a4 rfl rfl rfl ?_
                  refine ev_anyI f_J13_numberOfLeadingZeros_95d88 (nx := 18) rfl rfl rfl rfl (fun z49 => ?_)
                  refine ev_jmp f_J13_numberOfLeadingZeros_95d88 (nx := 25) rfl rfl rfl ?_
                  refine ev_retK1 f_J13_numberOfLeadingZeros_95d88 rfl rfl rfl ?_
                  refine ev_anyI f_X11_lasts (nx := 29) rfl rfl rfl rfl (fun z50 => ?_)
                  refine ev_inV2 f_X11_lasts (nx := 32) (lo2 := [(0, .ref 0), (1, .int z50)]) rfl rfl rfl rfl f_X11_answer (hI.wf.s rfl) rfl rfl rfl rfl rfl ?_
                  refine ev_loc f_X11_answer (nx := 1) rfl rfl rfl rfl ?_
                  refine ev_ic f_X11_answer (nx := 2) (v := 0) rfl (by decide) rfl ?_
                  refine ev_putIT f_X11_answer (nx := 5) rfl (hI.wf.s rfl) rfl rfl rfl (hI.put0 (hI.wf.s rfl) rfl rfl) (hX.upI rfl) (fun g51 e51 hI hX => ?_)
                  refine ev_loc f_X11_answer (nx := 6) rfl rfl rfl rfl ?_
                  refine ev_retK1 f_X11_answer rfl rfl rfl ?_
                  exact ev_ret f_X11_lasts rfl rfl rfl ⟨_, _, _, rfl, hI, hX, ⟨_, rfl, (t_lo z50), (t_hi z50), (show ∀ (u : Nat) (D : s_D), gr 0 6 = .ref u → t_VL gr u → t_CV gi gl u D → t_Cb D → (¬ (0 ≤ ar1.toInt ∧ ar1.toInt < D 0) → (g51 0 0).toInt = 1) ∧ ((0 ≤ ar1.toInt ∧ ar1.toInt < D 0) → (g51 0 0).toInt = 0) from (by
                                                            intro u D hu hl hc hb
                                                            have ha : a6 = u := Value.ref.inj (e6.symm.trans hu)
                                                            subst ha
                                                            have hm := hc.1.1
                                                            exact ⟨fun h => (by have ffs : (g51 0 0).toInt = 0 := (congrArg Int32.toInt (by rw [e51]; exact x_up2_at _ _ _ _ : g51 0 0 = 0)).trans (by decide); omega), fun h => (by have ffs : (g51 0 0).toInt = 0 := (congrArg Int32.toInt (by rw [e51]; exact x_up2_at _ _ _ _ : g51 0 0 = 0)).trans (by decide); omega)⟩))⟩⟩
                · have l52 : 4 ≤ z44.toInt := t_lel (t_nlt h45) (by decide : (4:Int) ≤ (4:Int32).toInt)
                  refine ev_incv f_J6_numberOfLeadingZeros_0f7a4 (nx := 69) (c := -2) (w := 25) (lo' := [(1, .int 25), (0, .int z44)]) rfl rfl (by decide) (by decide) rfl rfl rfl ?_
                  refine ev_loc f_J6_numberOfLeadingZeros_0f7a4 (nx := 70) rfl rfl rfl rfl ?_
                  refine ev_ic f_J6_numberOfLeadingZeros_0f7a4 (nx := 71) (v := 2) rfl (by decide) rfl ?_
                  refine ev_anyI f_J6_numberOfLeadingZeros_0f7a4 (nx := 72) rfl rfl rfl rfl (fun z53 => ?_)
                  refine ev_loc f_J6_numberOfLeadingZeros_0f7a4 (nx := 73) (lo' := [(0, .int z53), (1, .int 25)]) rfl rfl rfl rfl ?_
                  refine ev_loc f_J6_numberOfLeadingZeros_0f7a4 (nx := 74) rfl rfl rfl rfl ?_
                  refine ev_loc f_J6_numberOfLeadingZeros_0f7a4 (nx := 75) rfl rfl rfl rfl ?_
                  refine ev_ic f_J6_numberOfLeadingZeros_0f7a4 (nx := 76) (v := 1) rfl (by decide) rfl ?_
                  refine ev_anyI f_J6_numberOfLeadingZeros_0f7a4 (nx := 77) rfl rfl rfl rfl (fun z54 => ?_)
                  refine ev_anyI f_J6_numberOfLeadingZeros_0f7a4 (nx := 78) rfl rfl rfl rfl (fun z55 => ?_)
                  refine ev_retK1 f_J6_numberOfLeadingZeros_0f7a4 rfl rfl rfl ?_
                  refine ev_anyI f_J13_numberOfLeadingZeros_95d88 (nx := 18) rfl rfl rfl rfl (fun z56 => ?_)
                  refine ev_jmp f_J13_numberOfLeadingZeros_95d88 (nx := 25) rfl rfl rfl ?_
                  refine ev_retK1 f_J13_numberOfLeadingZeros_95d88 rfl rfl rfl ?_
                  refine ev_anyI f_X11_lasts (nx := 29) rfl rfl rfl rfl (fun z57 => ?_)
                  refine ev_inV2 f_X11_lasts (nx := 32) (lo2 := [(0, .ref 0), (1, .int z57)]) rfl rfl rfl rfl f_X11_answer (hI.wf.s rfl) rfl rfl rfl rfl rfl ?_
                  refine ev_loc f_X11_answer (nx := 1) rfl rfl rfl rfl ?_
                  refine ev_ic f_X11_answer (nx := 2) (v := 0) rfl (by decide) rfl ?_
                  refine ev_putIT f_X11_answer (nx := 5) rfl (hI.wf.s rfl) rfl rfl rfl (hI.put0 (hI.wf.s rfl) rfl rfl) (hX.upI rfl) (fun g58 e58 hI hX => ?_)
                  refine ev_loc f_X11_answer (nx := 6) rfl rfl rfl rfl ?_
                  refine ev_retK1 f_X11_answer rfl rfl rfl ?_
                  exact ev_ret f_X11_lasts rfl rfl rfl ⟨_, _, _, rfl, hI, hX, ⟨_, rfl, (t_lo z57), (t_hi z57), (show ∀ (u : Nat) (D : s_D), gr 0 6 = .ref u → t_VL gr u → t_CV gi gl u D → t_Cb D → (¬ (0 ≤ ar1.toInt ∧ ar1.toInt < D 0) → (g58 0 0).toInt = 1) ∧ ((0 ≤ ar1.toInt ∧ ar1.toInt < D 0) → (g58 0 0).toInt = 0) from (by
                                                            intro u D hu hl hc hb
                                                            have ha : a6 = u := Value.ref.inj (e6.symm.trans hu)
                                                            subst ha
                                                            have hm := hc.1.1
                                                            exact ⟨fun h => (by have ffs : (g58 0 0).toInt = 0 := (congrArg Int32.toInt (by rw [e58]; exact x_up2_at _ _ _ _ : g58 0 0 = 0)).trans (by decide); omega), fun h => (by have ffs : (g58 0 0).toInt = 0 := (congrArg Int32.toInt (by rw [e58]; exact x_up2_at _ _ _ _ : g58 0 0 = 0)).trans (by decide); omega)⟩))⟩⟩
            · have l59 : 256 ≤ z20.toInt := t_lel (t_nlt h25) (by decide : (256:Int) ≤ (256:Int32).toInt)
              refine ev_incv f_J6_numberOfLeadingZeros_0f7a4 (nx := 43) (c := -8) (w := 23) (lo' := [(1, .int 23), (0, .int z20)]) rfl rfl (by decide) (by decide) rfl rfl rfl ?_
              refine ev_loc f_J6_numberOfLeadingZeros_0f7a4 (nx := 44) rfl rfl rfl rfl ?_
              refine ev_bp f_J6_numberOfLeadingZeros_0f7a4 (nx := 46) (v := 8) rfl (by decide) rfl ?_
              refine ev_anyI f_J6_numberOfLeadingZeros_0f7a4 (nx := 47) rfl rfl rfl rfl (fun z60 => ?_)
              refine ev_loc f_J6_numberOfLeadingZeros_0f7a4 (nx := 48) (lo' := [(0, .int z60), (1, .int 23)]) rfl rfl rfl rfl ?_
              refine ev_loc f_J6_numberOfLeadingZeros_0f7a4 (nx := 49) rfl rfl rfl rfl ?_
              refine ev_bp f_J6_numberOfLeadingZeros_0f7a4 (nx := 51) (v := 16) rfl (by decide) rfl ?_
              refine ev_if f_J6_numberOfLeadingZeros_0f7a4 (t1 := 61) (t2 := 54) rfl rfl rfl (fun h61 => ?_) (fun h61 => ?_)
              · have u62 : z60.toInt ≤ 15 := t_ltu h61 (by decide : (16:Int32).toInt ≤ (16:Int)) rfl
                refine ev_loc f_J6_numberOfLeadingZeros_0f7a4 (nx := 62) rfl rfl rfl rfl ?_
                refine ev_ic f_J6_numberOfLeadingZeros_0f7a4 (nx := 63) (v := 4) rfl (by decide) rfl ?_
                refine ev_if f_J6_numberOfLeadingZeros_0f7a4 (t1 := 73) (t2 := 66) rfl rfl rfl (fun h63 => ?_) (fun h63 => ?_)
                · have u64 : z60.toInt ≤ 3 := t_ltu h63 (by decide : (4:Int32).toInt ≤ (4:Int)) rfl
                  refine ev_loc f_J6_numberOfLeadingZeros_0f7a4 (nx := 74) rfl rfl rfl rfl ?_
                  refine ev_loc f_J6_numberOfLeadingZeros_0f7a4 (nx := 75) rfl rfl rfl rfl ?_
                  refine ev_ic f_J6_numberOfLeadingZeros_0f7a4 (nx := 76) (v := 1) rfl (by decide) rfl ?_
                  refine ev_anyI f_J6_numberOfLeadingZeros_0f7a4 (nx := 77) rfl rfl rfl rfl (fun z65 => ?_)
                  refine ev_anyI f_J6_numberOfLeadingZeros_0f7a4 (nx := 78) rfl rfl rfl rfl (fun z66 => ?_)
                  refine ev_retK1 f_J6_numberOfLeadingZeros_0f7a4 rfl rfl rfl ?_
                  refine ev_anyI f_J13_numberOfLeadingZeros_95d88 (nx := 18) rfl rfl rfl rfl (fun z67 => ?_)
                  refine ev_jmp f_J13_numberOfLeadingZeros_95d88 (nx := 25) rfl rfl rfl ?_
                  refine ev_retK1 f_J13_numberOfLeadingZeros_95d88 rfl rfl rfl ?_
                  refine ev_anyI f_X11_lasts (nx := 29) rfl rfl rfl rfl (fun z68 => ?_)
                  refine ev_inV2 f_X11_lasts (nx := 32) (lo2 := [(0, .ref 0), (1, .int z68)]) rfl rfl rfl rfl f_X11_answer (hI.wf.s rfl) rfl rfl rfl rfl rfl ?_
                  refine ev_loc f_X11_answer (nx := 1) rfl rfl rfl rfl ?_
                  refine ev_ic f_X11_answer (nx := 2) (v := 0) rfl (by decide) rfl ?_
                  refine ev_putIT f_X11_answer (nx := 5) rfl (hI.wf.s rfl) rfl rfl rfl (hI.put0 (hI.wf.s rfl) rfl rfl) (hX.upI rfl) (fun g69 e69 hI hX => ?_)
                  refine ev_loc f_X11_answer (nx := 6) rfl rfl rfl rfl ?_
                  refine ev_retK1 f_X11_answer rfl rfl rfl ?_
                  exact ev_ret f_X11_lasts rfl rfl rfl ⟨_, _, _, rfl, hI, hX, ⟨_, rfl, (t_lo z68), (t_hi z68), (show ∀ (u : Nat) (D : s_D), gr 0 6 = .ref u → t_VL gr u → t_CV gi gl u D → t_Cb D → (¬ (0 ≤ ar1.toInt ∧ ar1.toInt < D 0) → (g69 0 0).toInt = 1) ∧ ((0 ≤ ar1.toInt ∧ ar1.toInt < D 0) → (g69 0 0).toInt = 0) from (by
                                                            intro u D hu hl hc hb
                                                            have ha : a6 = u := Value.ref.inj (e6.symm.trans hu)
                                                            subst ha
                                                            have hm := hc.1.1
                                                            exact ⟨fun h => (by have ffs : (g69 0 0).toInt = 0 := (congrArg Int32.toInt (by rw [e69]; exact x_up2_at _ _ _ _ : g69 0 0 = 0)).trans (by decide); omega), fun h => (by have ffs : (g69 0 0).toInt = 0 := (congrArg Int32.toInt (by rw [e69]; exact x_up2_at _ _ _ _ : g69 0 0 = 0)).trans (by decide); omega)⟩))⟩⟩
                · have l70 : 4 ≤ z60.toInt := t_lel (t_nlt h63) (by decide : (4:Int) ≤ (4:Int32).toInt)
                  refine ev_incv f_J6_numberOfLeadingZeros_0f7a4 (nx := 69) (c := -2) (w := 21) (lo' := [(1, .int 21), (0, .int z60)]) rfl rfl (by decide) (by decide) rfl rfl rfl ?_
                  refine ev_loc f_J6_numberOfLeadingZeros_0f7a4 (nx := 70) rfl rfl rfl rfl ?_
                  refine ev_ic f_J6_numberOfLeadingZeros_0f7a4 (nx := 71) (v := 2) rfl (by decide) rfl ?_
                  refine ev_anyI f_J6_numberOfLeadingZeros_0f7a4 (nx := 72) rfl rfl rfl rfl (fun z71 => ?_)
                  refine ev_loc f_J6_numberOfLeadingZeros_0f7a4 (nx := 73) (lo' := [(0, .int z71), (1, .int 21)]) rfl rfl rfl rfl ?_
                  refine ev_loc f_J6_numberOfLeadingZeros_0f7a4 (nx := 74) rfl rfl rfl rfl ?_
                  refine ev_loc f_J6_numberOfLeadingZeros_0f7a4 (nx := 75) rfl rfl rfl rfl ?_
                  refine ev_ic f_J6_numberOfLeadingZeros_0f7a4 (nx := 76) (v := 1) rfl (by decide) rfl ?_
                  refine ev_anyI f_J6_numberOfLeadingZeros_0f7a4 (nx := 77) rfl rfl rfl rfl (fun z72 => ?_)
                  refine ev_anyI f_J6_numberOfLeadingZeros_0f7a4 (nx := 78) rfl rfl rfl rfl (fun z73 => ?_)
                  refine ev_retK1 f_J6_numberOfLeadingZeros_0f7a4 rfl rfl rfl ?_
                  refine ev_anyI f_J13_numberOfLeadingZeros_95d88 (nx := 18) rfl rfl rfl rfl (fun z74 => ?_)
                  refine ev_jmp f_J13_numberOfLeadingZeros_95d88 (nx := 25) rfl rfl rfl ?_
                  refine ev_retK1 f_J13_numberOfLeadingZeros_95d88 rfl rfl rfl ?_
                  refine ev_anyI f_X11_lasts (nx := 29) rfl rfl rfl rfl (fun z75 => ?_)
                  refine ev_inV2 f_X11_lasts (nx := 32) (lo2 := [(0, .ref 0), (1, .int z75)]) rfl rfl rfl rfl f_X11_answer (hI.wf.s rfl) rfl rfl rfl rfl rfl ?_
                  refine ev_loc f_X11_answer (nx := 1) rfl rfl rfl rfl ?_
                  refine ev_ic f_X11_answer (nx := 2) (v := 0) rfl (by decide) rfl ?_
                  refine ev_putIT f_X11_answer (nx := 5) rfl (hI.wf.s rfl) rfl rfl rfl (hI.put0 (hI.wf.s rfl) rfl rfl) (hX.upI rfl) (fun g76 e76 hI hX => ?_)
                  refine ev_loc f_X11_answer (nx := 6) rfl rfl rfl rfl ?_
                  refine ev_retK1 f_X11_answer rfl rfl rfl ?_
                  exact ev_ret f_X11_lasts rfl rfl rfl ⟨_, _, _, rfl, hI, hX, ⟨_, rfl, (t_lo z75), (t_hi z75), (show ∀ (u : Nat) (D : s_D), gr 0 6 = .ref u → t_VL gr u → t_CV gi gl u D → t_Cb D → (¬ (0 ≤ ar1.toInt ∧ ar1.toInt < D 0) → (g76 0 0).toInt = 1) ∧ ((0 ≤ ar1.toInt ∧ ar1.toInt < D 0) → (g76 0 0).toInt = 0) from (by
                                                            intro u D hu hl hc hb
                                                            have ha : a6 = u := Value.ref.inj (e6.symm.trans hu)
                                                            subst ha
                                                            have hm := hc.1.1
                                                            exact ⟨fun h => (by have ffs : (g76 0 0).toInt = 0 := (congrArg Int32.toInt (by rw [e76]; exact x_up2_at _ _ _ _ : g76 0 0 = 0)).trans (by decide); omega), fun h => (by have ffs : (g76 0 0).toInt = 0 := (congrArg Int32.toInt (by rw [e76]; exact x_up2_at _ _ _ _ : g76 0 0 = 0)).trans (by decide); omega)⟩))⟩⟩
              · have l77 : 16 ≤ z60.toInt := t_lel (t_nlt h61) (by decide : (16:Int) ≤ (16:Int32).toInt)
                refine ev_incv f_J6_numberOfLeadingZeros_0f7a4 (nx := 57) (c := -4) (w := 19) (lo' := [(1, .int 19), (0, .int z60)]) rfl rfl (by decide) (by decide) rfl rfl rfl ?_
                refine ev_loc f_J6_numberOfLeadingZeros_0f7a4 (nx := 58) rfl rfl rfl rfl ?_
                refine ev_ic f_J6_numberOfLeadingZeros_0f7a4 (nx := 59) (v := 4) rfl (by decide) rfl ?_
                refine ev_anyI f_J6_numberOfLeadingZeros_0f7a4 (nx := 60) rfl rfl rfl rfl (fun z78 => ?_)
                refine ev_loc f_J6_numberOfLeadingZeros_0f7a4 (nx := 61) (lo' := [(0, .int z78), (1, .int 19)]) rfl rfl rfl rfl ?_
                refine ev_loc f_J6_numberOfLeadingZeros_0f7a4 (nx := 62) rfl rfl rfl rfl ?_
                refine ev_ic f_J6_numberOfLeadingZeros_0f7a4 (nx := 63) (v := 4) rfl (by decide) rfl ?_
                refine ev_if f_J6_numberOfLeadingZeros_0f7a4 (t1 := 73) (t2 := 66) rfl rfl rfl (fun h79 => ?_) (fun h79 => ?_)
                · have u80 : z78.toInt ≤ 3 := t_ltu h79 (by decide : (4:Int32).toInt ≤ (4:Int)) rfl
                  refine ev_loc f_J6_numberOfLeadingZeros_0f7a4 (nx := 74) rfl rfl rfl rfl ?_
                  refine ev_loc f_J6_numberOfLeadingZeros_0f7a4 (nx := 75) rfl rfl rfl rfl ?_
                  refine ev_ic f_J6_numberOfLeadingZeros_0f7a4 (nx := 76) (v := 1) rfl (by decide) rfl ?_
                  refine ev_anyI f_J6_numberOfLeadingZeros_0f7a4 (nx := 77) rfl rfl rfl rfl (fun z81 => ?_)
                  refine ev_anyI f_J6_numberOfLeadingZeros_0f7a4 (nx := 78) rfl rfl rfl rfl (fun z82 => ?_)
                  refine ev_retK1 f_J6_numberOfLeadingZeros_0f7a4 rfl rfl rfl ?_
                  refine ev_anyI f_J13_numberOfLeadingZeros_95d88 (nx := 18) rfl rfl rfl rfl (fun z83 => ?_)
                  refine ev_jmp f_J13_numberOfLeadingZeros_95d88 (nx := 25) rfl rfl rfl ?_
                  refine ev_retK1 f_J13_numberOfLeadingZeros_95d88 rfl rfl rfl ?_
                  refine ev_anyI f_X11_lasts (nx := 29) rfl rfl rfl rfl (fun z84 => ?_)
                  refine ev_inV2 f_X11_lasts (nx := 32) (lo2 := [(0, .ref 0), (1, .int z84)]) rfl rfl rfl rfl f_X11_answer (hI.wf.s rfl) rfl rfl rfl rfl rfl ?_
                  refine ev_loc f_X11_answer (nx := 1) rfl rfl rfl rfl ?_
                  refine ev_ic f_X11_answer (nx := 2) (v := 0) rfl (by decide) rfl ?_
                  refine ev_putIT f_X11_answer (nx := 5) rfl (hI.wf.s rfl) rfl rfl rfl (hI.put0 (hI.wf.s rfl) rfl rfl) (hX.upI rfl) (fun g85 e85 hI hX => ?_)
                  refine ev_loc f_X11_answer (nx := 6) rfl rfl rfl rfl ?_
                  refine ev_retK1 f_X11_answer rfl rfl rfl ?_
                  exact ev_ret f_X11_lasts rfl rfl rfl ⟨_, _, _, rfl, hI, hX, ⟨_, rfl, (t_lo z84), (t_hi z84), (show ∀ (u : Nat) (D : s_D), gr 0 6 = .ref u → t_VL gr u → t_CV gi gl u D → t_Cb D → (¬ (0 ≤ ar1.toInt ∧ ar1.toInt < D 0) → (g85 0 0).toInt = 1) ∧ ((0 ≤ ar1.toInt ∧ ar1.toInt < D 0) → (g85 0 0).toInt = 0) from (by
                                                            intro u D hu hl hc hb
                                                            have ha : a6 = u := Value.ref.inj (e6.symm.trans hu)
                                                            subst ha
                                                            have hm := hc.1.1
                                                            exact ⟨fun h => (by have ffs : (g85 0 0).toInt = 0 := (congrArg Int32.toInt (by rw [e85]; exact x_up2_at _ _ _ _ : g85 0 0 = 0)).trans (by decide); omega), fun h => (by have ffs : (g85 0 0).toInt = 0 := (congrArg Int32.toInt (by rw [e85]; exact x_up2_at _ _ _ _ : g85 0 0 = 0)).trans (by decide); omega)⟩))⟩⟩
                · have l86 : 4 ≤ z78.toInt := t_lel (t_nlt h79) (by decide : (4:Int) ≤ (4:Int32).toInt)
                  refine ev_incv f_J6_numberOfLeadingZeros_0f7a4 (nx := 69) (c := -2) (w := 17) (lo' := [(1, .int 17), (0, .int z78)]) rfl rfl (by decide) (by decide) rfl rfl rfl ?_
                  refine ev_loc f_J6_numberOfLeadingZeros_0f7a4 (nx := 70) rfl rfl rfl rfl ?_
                  refine ev_ic f_J6_numberOfLeadingZeros_0f7a4 (nx := 71) (v := 2) rfl (by decide) rfl ?_
                  refine ev_anyI f_J6_numberOfLeadingZeros_0f7a4 (nx := 72) rfl rfl rfl rfl (fun z87 => ?_)
                  refine ev_loc f_J6_numberOfLeadingZeros_0f7a4 (nx := 73) (lo' := [(0, .int z87), (1, .int 17)]) rfl rfl rfl rfl ?_
                  refine ev_loc f_J6_numberOfLeadingZeros_0f7a4 (nx := 74) rfl rfl rfl rfl ?_
                  refine ev_loc f_J6_numberOfLeadingZeros_0f7a4 (nx := 75) rfl rfl rfl rfl ?_
                  refine ev_ic f_J6_numberOfLeadingZeros_0f7a4 (nx := 76) (v := 1) rfl (by decide) rfl ?_
                  refine ev_anyI f_J6_numberOfLeadingZeros_0f7a4 (nx := 77) rfl rfl rfl rfl (fun z88 => ?_)
                  refine ev_anyI f_J6_numberOfLeadingZeros_0f7a4 (nx := 78) rfl rfl rfl rfl (fun z89 => ?_)
                  refine ev_retK1 f_J6_numberOfLeadingZeros_0f7a4 rfl rfl rfl ?_
                  refine ev_anyI f_J13_numberOfLeadingZeros_95d88 (nx := 18) rfl rfl rfl rfl (fun z90 => ?_)
                  refine ev_jmp f_J13_numberOfLeadingZeros_95d88 (nx := 25) rfl rfl rfl ?_
                  refine ev_retK1 f_J13_numberOfLeadingZeros_95d88 rfl rfl rfl ?_
                  refine ev_anyI f_X11_lasts (nx := 29) rfl rfl rfl rfl (fun z91 => ?_)
                  refine ev_inV2 f_X11_lasts (nx := 32) (lo2 := [(0, .ref 0), (1, .int z91)]) rfl rfl rfl rfl f_X11_answer (hI.wf.s rfl) rfl rfl rfl rfl rfl ?_
                  refine ev_loc f_X11_answer (nx := 1) rfl rfl rfl rfl ?_
                  refine ev_ic f_X11_answer (nx := 2) (v := 0) rfl (by decide) rfl ?_
                  refine ev_putIT f_X11_answer (nx := 5) rfl (hI.wf.s rfl) rfl rfl rfl (hI.put0 (hI.wf.s rfl) rfl rfl) (hX.upI rfl) (fun g92 e92 hI hX => ?_)
                  refine ev_loc f_X11_answer (nx := 6) rfl rfl rfl rfl ?_
                  refine ev_retK1 f_X11_answer rfl rfl rfl ?_
                  exact ev_ret f_X11_lasts rfl rfl rfl ⟨_, _, _, rfl, hI, hX, ⟨_, rfl, (t_lo z91), (t_hi z91), (show ∀ (u : Nat) (D : s_D), gr 0 6 = .ref u → t_VL gr u → t_CV gi gl u D → t_Cb D → (¬ (0 ≤ ar1.toInt ∧ ar1.toInt < D 0) → (g92 0 0).toInt = 1) ∧ ((0 ≤ ar1.toInt ∧ ar1.toInt < D 0) → (g92 0 0).toInt = 0) from (by
                                                            intro u D hu hl hc hb
                                                            have ha : a6 = u := Value.ref.inj (e6.symm.trans hu)
                                                            subst ha
                                                            have hm := hc.1.1
                                                            exact ⟨fun h => (by have ffs : (g92 0 0).toInt = 0 := (congrArg Int32.toInt (by rw [e92]; exact x_up2_at _ _ _ _ : g92 0 0 = 0)).trans (by decide); omega), fun h => (by have ffs : (g92 0 0).toInt = 0 := (congrArg Int32.toInt (by rw [e92]; exact x_up2_at _ _ _ _ : g92 0 0 = 0)).trans (by decide); omega)⟩))⟩⟩
          · have l93 : 65536 ≤ z20.toInt := t_lel (t_nlt h23) (by decide : (65536:Int) ≤ (65536:Int32).toInt)
            refine ev_incv f_J6_numberOfLeadingZeros_0f7a4 (nx := 28) (c := -16) (w := 15) (lo' := [(1, .int 15), (0, .int z20)]) rfl rfl (by decide) (by decide) rfl rfl rfl ?_
            refine ev_loc f_J6_numberOfLeadingZeros_0f7a4 (nx := 29) rfl rfl rfl rfl ?_
            refine ev_bp f_J6_numberOfLeadingZeros_0f7a4 (nx := 31) (v := 16) rfl (by decide) rfl ?_
            refine ev_anyI f_J6_numberOfLeadingZeros_0f7a4 (nx := 32) rfl rfl rfl rfl (fun z94 => ?_)
            refine ev_loc f_J6_numberOfLeadingZeros_0f7a4 (nx := 33) (lo' := [(0, .int z94), (1, .int 15)]) rfl rfl rfl rfl ?_
            refine ev_loc f_J6_numberOfLeadingZeros_0f7a4 (nx := 34) rfl rfl rfl rfl ?_
            refine ev_sp f_J6_numberOfLeadingZeros_0f7a4 (nx := 37) (v := 256) rfl (by decide) rfl ?_
            refine ev_if f_J6_numberOfLeadingZeros_0f7a4 (t1 := 48) (t2 := 40) rfl rfl rfl (fun h95 => ?_) (fun h95 => ?_)
            · have u96 : z94.toInt ≤ 255 := t_ltu h95 (by decide : (256:Int32).toInt ≤ (256:Int)) rfl
              refine ev_loc f_J6_numberOfLeadingZeros_0f7a4 (nx := 49) rfl rfl rfl rfl ?_
              refine ev_bp f_J6_numberOfLeadingZeros_0f7a4 (nx := 51) (v := 16) rfl (by decide) rfl ?_
              refine ev_if f_J6_numberOfLeadingZeros_0f7a4 (t1 := 61) (t2 := 54) rfl rfl rfl (fun h97 => ?_) (fun h97 => ?_)
              · have u98 : z94.toInt ≤ 15 := t_ltu h97 (by decide : (16:Int32).toInt ≤ (16:Int)) rfl
                refine ev_loc f_J6_numberOfLeadingZeros_0f7a4 (nx := 62) rfl rfl rfl rfl ?_
                refine ev_ic f_J6_numberOfLeadingZeros_0f7a4 (nx := 63) (v := 4) rfl (by decide) rfl ?_
                refine ev_if f_J6_numberOfLeadingZeros_0f7a4 (t1 := 73) (t2 := 66) rfl rfl rfl (fun h99 => ?_) (fun h99 => ?_)
                · have u100 : z94.toInt ≤ 3 := t_ltu h99 (by decide : (4:Int32).toInt ≤ (4:Int)) rfl
                  refine ev_loc f_J6_numberOfLeadingZeros_0f7a4 (nx := 74) rfl rfl rfl rfl ?_
                  refine ev_loc f_J6_numberOfLeadingZeros_0f7a4 (nx := 75) rfl rfl rfl rfl ?_
                  refine ev_ic f_J6_numberOfLeadingZeros_0f7a4 (nx := 76) (v := 1) rfl (by decide) rfl ?_
                  refine ev_anyI f_J6_numberOfLeadingZeros_0f7a4 (nx := 77) rfl rfl rfl rfl (fun z101 => ?_)
                  refine ev_anyI f_J6_numberOfLeadingZeros_0f7a4 (nx := 78) rfl rfl rfl rfl (fun z102 => ?_)
                  refine ev_retK1 f_J6_numberOfLeadingZeros_0f7a4 rfl rfl rfl ?_
                  refine ev_anyI f_J13_numberOfLeadingZeros_95d88 (nx := 18) rfl rfl rfl rfl (fun z103 => ?_)
                  refine ev_jmp f_J13_numberOfLeadingZeros_95d88 (nx := 25) rfl rfl rfl ?_
                  refine ev_retK1 f_J13_numberOfLeadingZeros_95d88 rfl rfl rfl ?_
                  refine ev_anyI f_X11_lasts (nx := 29) rfl rfl rfl rfl (fun z104 => ?_)
                  refine ev_inV2 f_X11_lasts (nx := 32) (lo2 := [(0, .ref 0), (1, .int z104)]) rfl rfl rfl rfl f_X11_answer (hI.wf.s rfl) rfl rfl rfl rfl rfl ?_
                  refine ev_loc f_X11_answer (nx := 1) rfl rfl rfl rfl ?_
                  refine ev_ic f_X11_answer (nx := 2) (v := 0) rfl (by decide) rfl ?_
                  refine ev_putIT f_X11_answer (nx := 5) rfl (hI.wf.s rfl) rfl rfl rfl (hI.put0 (hI.wf.s rfl) rfl rfl) (hX.upI rfl) (fun g105 e105 hI hX => ?_)
                  refine ev_loc f_X11_answer (nx := 6) rfl rfl rfl rfl ?_
                  refine ev_retK1 f_X11_answer rfl rfl rfl ?_
                  exact ev_ret f_X11_lasts rfl rfl rfl ⟨_, _, _, rfl, hI, hX, ⟨_, rfl, (t_lo z104), (t_hi z104), (show ∀ (u : Nat) (D : s_D), gr 0 6 = .ref u → t_VL gr u → t_CV gi gl u D → t_Cb D → (¬ (0 ≤ ar1.toInt ∧ ar1.toInt < D 0) → (g105 0 0).toInt = 1) ∧ ((0 ≤ ar1.toInt ∧ ar1.toInt < D 0) → (g105 0 0).toInt = 0) from (by
                                                            intro u D hu hl hc hb
                                                            have ha : a6 = u := Value.ref.inj (e6.symm.trans hu)
                                                            subst ha
                                                            have hm := hc.1.1
                                                            exact ⟨fun h => (by have ffs : (g105 0 0).toInt = 0 := (congrArg Int32.toInt (by rw [e105]; exact x_up2_at _ _ _ _ : g105 0 0 = 0)).trans (by decide); omega), fun h => (by have ffs : (g105 0 0).toInt = 0 := (congrArg Int32.toInt (by rw [e105]; exact x_up2_at _ _ _ _ : g105 0 0 = 0)).trans (by decide); omega)⟩))⟩⟩
                · have l106 : 4 ≤ z94.toInt := t_lel (t_nlt h99) (by decide : (4:Int) ≤ (4:Int32).toInt)
                  refine ev_incv f_J6_numberOfLeadingZeros_0f7a4 (nx := 69) (c := -2) (w := 13) (lo' := [(1, .int 13), (0, .int z94)]) rfl rfl (by decide) (by decide) rfl rfl rfl ?_
                  refine ev_loc f_J6_numberOfLeadingZeros_0f7a4 (nx := 70) rfl rfl rfl rfl ?_
                  refine ev_ic f_J6_numberOfLeadingZeros_0f7a4 (nx := 71) (v := 2) rfl (by decide) rfl ?_
                  refine ev_anyI f_J6_numberOfLeadingZeros_0f7a4 (nx := 72) rfl rfl rfl rfl (fun z107 => ?_)
                  refine ev_loc f_J6_numberOfLeadingZeros_0f7a4 (nx := 73) (lo' := [(0, .int z107), (1, .int 13)]) rfl rfl rfl rfl ?_
                  refine ev_loc f_J6_numberOfLeadingZeros_0f7a4 (nx := 74) rfl rfl rfl rfl ?_
                  refine ev_loc f_J6_numberOfLeadingZeros_0f7a4 (nx := 75) rfl rfl rfl rfl ?_
                  refine ev_ic f_J6_numberOfLeadingZeros_0f7a4 (nx := 76) (v := 1) rfl (by decide) rfl ?_
                  refine ev_anyI f_J6_numberOfLeadingZeros_0f7a4 (nx := 77) rfl rfl rfl rfl (fun z108 => ?_)
                  refine ev_anyI f_J6_numberOfLeadingZeros_0f7a4 (nx := 78) rfl rfl rfl rfl (fun z109 => ?_)
                  refine ev_retK1 f_J6_numberOfLeadingZeros_0f7a4 rfl rfl rfl ?_
                  refine ev_anyI f_J13_numberOfLeadingZeros_95d88 (nx := 18) rfl rfl rfl rfl (fun z110 => ?_)
                  refine ev_jmp f_J13_numberOfLeadingZeros_95d88 (nx := 25) rfl rfl rfl ?_
                  refine ev_retK1 f_J13_numberOfLeadingZeros_95d88 rfl rfl rfl ?_
                  refine ev_anyI f_X11_lasts (nx := 29) rfl rfl rfl rfl (fun z111 => ?_)
                  refine ev_inV2 f_X11_lasts (nx := 32) (lo2 := [(0, .ref 0), (1, .int z111)]) rfl rfl rfl rfl f_X11_answer (hI.wf.s rfl) rfl rfl rfl rfl rfl ?_
                  refine ev_loc f_X11_answer (nx := 1) rfl rfl rfl rfl ?_
                  refine ev_ic f_X11_answer (nx := 2) (v := 0) rfl (by decide) rfl ?_
                  refine ev_putIT f_X11_answer (nx := 5) rfl (hI.wf.s rfl) rfl rfl rfl (hI.put0 (hI.wf.s rfl) rfl rfl) (hX.upI rfl) (fun g112 e112 hI hX => ?_)
                  refine ev_loc f_X11_answer (nx := 6) rfl rfl rfl rfl ?_
                  refine ev_retK1 f_X11_answer rfl rfl rfl ?_
                  exact ev_ret f_X11_lasts rfl rfl rfl ⟨_, _, _, rfl, hI, hX, ⟨_, rfl, (t_lo z111), (t_hi z111), (show ∀ (u : Nat) (D : s_D), gr 0 6 = .ref u → t_VL gr u → t_CV gi gl u D → t_Cb D → (¬ (0 ≤ ar1.toInt ∧ ar1.toInt < D 0) → (g112 0 0).toInt = 1) ∧ ((0 ≤ ar1.toInt ∧ ar1.toInt < D 0) → (g112 0 0).toInt = 0) from (by
                                                            intro u D hu hl hc hb
                                                            have ha : a6 = u := Value.ref.inj (e6.symm.trans hu)
                                                            subst ha
                                                            have hm := hc.1.1
                                                            exact ⟨fun h => (by have ffs : (g112 0 0).toInt = 0 := (congrArg Int32.toInt (by rw [e112]; exact x_up2_at _ _ _ _ : g112 0 0 = 0)).trans (by decide); omega), fun h => (by have ffs : (g112 0 0).toInt = 0 := (congrArg Int32.toInt (by rw [e112]; exact x_up2_at _ _ _ _ : g112 0 0 = 0)).trans (by decide); omega)⟩))⟩⟩
              · have l113 : 16 ≤ z94.toInt := t_lel (t_nlt h97) (by decide : (16:Int) ≤ (16:Int32).toInt)
                refine ev_incv f_J6_numberOfLeadingZeros_0f7a4 (nx := 57) (c := -4) (w := 11) (lo' := [(1, .int 11), (0, .int z94)]) rfl rfl (by decide) (by decide) rfl rfl rfl ?_
                refine ev_loc f_J6_numberOfLeadingZeros_0f7a4 (nx := 58) rfl rfl rfl rfl ?_
                refine ev_ic f_J6_numberOfLeadingZeros_0f7a4 (nx := 59) (v := 4) rfl (by decide) rfl ?_
                refine ev_anyI f_J6_numberOfLeadingZeros_0f7a4 (nx := 60) rfl rfl rfl rfl (fun z114 => ?_)
                refine ev_loc f_J6_numberOfLeadingZeros_0f7a4 (nx := 61) (lo' := [(0, .int z114), (1, .int 11)]) rfl rfl rfl rfl ?_
                refine ev_loc f_J6_numberOfLeadingZeros_0f7a4 (nx := 62) rfl rfl rfl rfl ?_
                refine ev_ic f_J6_numberOfLeadingZeros_0f7a4 (nx := 63) (v := 4) rfl (by decide) rfl ?_
                refine ev_if f_J6_numberOfLeadingZeros_0f7a4 (t1 := 73) (t2 := 66) rfl rfl rfl (fun h115 => ?_) (fun h115 => ?_)
                · have u116 : z114.toInt ≤ 3 := t_ltu h115 (by decide : (4:Int32).toInt ≤ (4:Int)) rfl
                  refine ev_loc f_J6_numberOfLeadingZeros_0f7a4 (nx := 74) rfl rfl rfl rfl ?_
                  refine ev_loc f_J6_numberOfLeadingZeros_0f7a4 (nx := 75) rfl rfl rfl rfl ?_
                  refine ev_ic f_J6_numberOfLeadingZeros_0f7a4 (nx := 76) (v := 1) rfl (by decide) rfl ?_
                  refine ev_anyI f_J6_numberOfLeadingZeros_0f7a4 (nx := 77) rfl rfl rfl rfl (fun z117 => ?_)
                  refine ev_anyI f_J6_numberOfLeadingZeros_0f7a4 (nx := 78) rfl rfl rfl rfl (fun z118 => ?_)
                  refine ev_retK1 f_J6_numberOfLeadingZeros_0f7a4 rfl rfl rfl ?_
                  refine ev_anyI f_J13_numberOfLeadingZeros_95d88 (nx := 18) rfl rfl rfl rfl (fun z119 => ?_)
                  refine ev_jmp f_J13_numberOfLeadingZeros_95d88 (nx := 25) rfl rfl rfl ?_
                  refine ev_retK1 f_J13_numberOfLeadingZeros_95d88 rfl rfl rfl ?_
                  refine ev_anyI f_X11_lasts (nx := 29) rfl rfl rfl rfl (fun z120 => ?_)
                  refine ev_inV2 f_X11_lasts (nx := 32) (lo2 := [(0, .ref 0), (1, .int z120)]) rfl rfl rfl rfl f_X11_answer (hI.wf.s rfl) rfl rfl rfl rfl rfl ?_
                  refine ev_loc f_X11_answer (nx := 1) rfl rfl rfl rfl ?_
                  refine ev_ic f_X11_answer (nx := 2) (v := 0) rfl (by decide) rfl ?_
                  refine ev_putIT f_X11_answer (nx := 5) rfl (hI.wf.s rfl) rfl rfl rfl (hI.put0 (hI.wf.s rfl) rfl rfl) (hX.upI rfl) (fun g121 e121 hI hX => ?_)
                  refine ev_loc f_X11_answer (nx := 6) rfl rfl rfl rfl ?_
                  refine ev_retK1 f_X11_answer rfl rfl rfl ?_
                  exact ev_ret f_X11_lasts rfl rfl rfl ⟨_, _, _, rfl, hI, hX, ⟨_, rfl, (t_lo z120), (t_hi z120), (show ∀ (u : Nat) (D : s_D), gr 0 6 = .ref u → t_VL gr u → t_CV gi gl u D → t_Cb D → (¬ (0 ≤ ar1.toInt ∧ ar1.toInt < D 0) → (g121 0 0).toInt = 1) ∧ ((0 ≤ ar1.toInt ∧ ar1.toInt < D 0) → (g121 0 0).toInt = 0) from (by
                                                            intro u D hu hl hc hb
                                                            have ha : a6 = u := Value.ref.inj (e6.symm.trans hu)
                                                            subst ha
                                                            have hm := hc.1.1
                                                            exact ⟨fun h => (by have ffs : (g121 0 0).toInt = 0 := (congrArg Int32.toInt (by rw [e121]; exact x_up2_at _ _ _ _ : g121 0 0 = 0)).trans (by decide); omega), fun h => (by have ffs : (g121 0 0).toInt = 0 := (congrArg Int32.toInt (by rw [e121]; exact x_up2_at _ _ _ _ : g121 0 0 = 0)).trans (by decide); omega)⟩))⟩⟩
                · have l122 : 4 ≤ z114.toInt := t_lel (t_nlt h115) (by decide : (4:Int) ≤ (4:Int32).toInt)
                  refine ev_incv f_J6_numberOfLeadingZeros_0f7a4 (nx := 69) (c := -2) (w := 9) (lo' := [(1, .int 9), (0, .int z114)]) rfl rfl (by decide) (by decide) rfl rfl rfl ?_
                  refine ev_loc f_J6_numberOfLeadingZeros_0f7a4 (nx := 70) rfl rfl rfl rfl ?_
                  refine ev_ic f_J6_numberOfLeadingZeros_0f7a4 (nx := 71) (v := 2) rfl (by decide) rfl ?_
                  refine ev_anyI f_J6_numberOfLeadingZeros_0f7a4 (nx := 72) rfl rfl rfl rfl (fun z123 => ?_)
                  refine ev_loc f_J6_numberOfLeadingZeros_0f7a4 (nx := 73) (lo' := [(0, .int z123), (1, .int 9)]) rfl rfl rfl rfl ?_
                  refine ev_loc f_J6_numberOfLeadingZeros_0f7a4 (nx := 74) rfl rfl rfl rfl ?_
                  refine ev_loc f_J6_numberOfLeadingZeros_0f7a4 (nx := 75) rfl rfl rfl rfl ?_
                  refine ev_ic f_J6_numberOfLeadingZeros_0f7a4 (nx := 76) (v := 1) rfl (by decide) rfl ?_
                  refine ev_anyI f_J6_numberOfLeadingZeros_0f7a4 (nx := 77) rfl rfl rfl rfl (fun z124 => ?_)
                  refine ev_anyI f_J6_numberOfLeadingZeros_0f7a4 (nx := 78) rfl rfl rfl rfl (fun z125 => ?_)
                  refine ev_retK1 f_J6_numberOfLeadingZeros_0f7a4 rfl rfl rfl ?_
                  refine ev_anyI f_J13_numberOfLeadingZeros_95d88 (nx := 18) rfl rfl rfl rfl (fun z126 => ?_)
                  refine ev_jmp f_J13_numberOfLeadingZeros_95d88 (nx := 25) rfl rfl rfl ?_
                  refine ev_retK1 f_J13_numberOfLeadingZeros_95d88 rfl rfl rfl ?_
                  refine ev_anyI f_X11_lasts (nx := 29) rfl rfl rfl rfl (fun z127 => ?_)
                  refine ev_inV2 f_X11_lasts (nx := 32) (lo2 := [(0, .ref 0), (1, .int z127)]) rfl rfl rfl rfl f_X11_answer (hI.wf.s rfl) rfl rfl rfl rfl rfl ?_
                  refine ev_loc f_X11_answer (nx := 1) rfl rfl rfl rfl ?_
                  refine ev_ic f_X11_answer (nx := 2) (v := 0) rfl (by decide) rfl ?_
                  refine ev_putIT f_X11_answer (nx := 5) rfl (hI.wf.s rfl) rfl rfl rfl (hI.put0 (hI.wf.s rfl) rfl rfl) (hX.upI rfl) (fun g128 e128 hI hX => ?_)
                  refine ev_loc f_X11_answer (nx := 6) rfl rfl rfl rfl ?_
                  refine ev_retK1 f_X11_answer rfl rfl rfl ?_
                  exact ev_ret f_X11_lasts rfl rfl rfl ⟨_, _, _, rfl, hI, hX, ⟨_, rfl, (t_lo z127), (t_hi z127), (show ∀ (u : Nat) (D : s_D), gr 0 6 = .ref u → t_VL gr u → t_CV gi gl u D → t_Cb D → (¬ (0 ≤ ar1.toInt ∧ ar1.toInt < D 0) → (g128 0 0).toInt = 1) ∧ ((0 ≤ ar1.toInt ∧ ar1.toInt < D 0) → (g128 0 0).toInt = 0) from (by
                                                            intro u D hu hl hc hb
                                                            have ha : a6 = u := Value.ref.inj (e6.symm.trans hu)
                                                            subst ha
                                                            have hm := hc.1.1
                                                            exact ⟨fun h => (by have ffs : (g128 0 0).toInt = 0 := (congrArg Int32.toInt (by rw [e128]; exact x_up2_at _ _ _ _ : g128 0 0 = 0)).trans (by decide); omega), fun h => (by have ffs : (g128 0 0).toInt = 0 := (congrArg Int32.toInt (by rw [e128]; exact x_up2_at _ _ _ _ : g128 0 0 = 0)).trans (by decide); omega)⟩))⟩⟩
            · have l129 : 256 ≤ z94.toInt := t_lel (t_nlt h95) (by decide : (256:Int) ≤ (256:Int32).toInt)
              refine ev_incv f_J6_numberOfLeadingZeros_0f7a4 (nx := 43) (c := -8) (w := 7) (lo' := [(1, .int 7), (0, .int z94)]) rfl rfl (by decide) (by decide) rfl rfl rfl ?_
              refine ev_loc f_J6_numberOfLeadingZeros_0f7a4 (nx := 44) rfl rfl rfl rfl ?_
              refine ev_bp f_J6_numberOfLeadingZeros_0f7a4 (nx := 46) (v := 8) rfl (by decide) rfl ?_
              refine ev_anyI f_J6_numberOfLeadingZeros_0f7a4 (nx := 47) rfl rfl rfl rfl (fun z130 => ?_)
              refine ev_loc f_J6_numberOfLeadingZeros_0f7a4 (nx := 48) (lo' := [(0, .int z130), (1, .int 7)]) rfl rfl rfl rfl ?_
              refine ev_loc f_J6_numberOfLeadingZeros_0f7a4 (nx := 49) rfl rfl rfl rfl ?_
              refine ev_bp f_J6_numberOfLeadingZeros_0f7a4 (nx := 51) (v := 16) rfl (by decide) rfl ?_
              refine ev_if f_J6_numberOfLeadingZeros_0f7a4 (t1 := 61) (t2 := 54) rfl rfl rfl (fun h131 => ?_) (fun h131 => ?_)
              · have u132 : z130.toInt ≤ 15 := t_ltu h131 (by decide : (16:Int32).toInt ≤ (16:Int)) rfl
                refine ev_loc f_J6_numberOfLeadingZeros_0f7a4 (nx := 62) rfl rfl rfl rfl ?_
                refine ev_ic f_J6_numberOfLeadingZeros_0f7a4 (nx := 63) (v := 4) rfl (by decide) rfl ?_
                refine ev_if f_J6_numberOfLeadingZeros_0f7a4 (t1 := 73) (t2 := 66) rfl rfl rfl (fun h133 => ?_) (fun h133 => ?_)
                · have u134 : z130.toInt ≤ 3 := t_ltu h133 (by decide : (4:Int32).toInt ≤ (4:Int)) rfl
                  refine ev_loc f_J6_numberOfLeadingZeros_0f7a4 (nx := 74) rfl rfl rfl rfl ?_
                  refine ev_loc f_J6_numberOfLeadingZeros_0f7a4 (nx := 75) rfl rfl rfl rfl ?_
                  refine ev_ic f_J6_numberOfLeadingZeros_0f7a4 (nx := 76) (v := 1) rfl (by decide) rfl ?_
                  refine ev_anyI f_J6_numberOfLeadingZeros_0f7a4 (nx := 77) rfl rfl rfl rfl (fun z135 => ?_)
                  refine ev_anyI f_J6_numberOfLeadingZeros_0f7a4 (nx := 78) rfl rfl rfl rfl (fun z136 => ?_)
                  refine ev_retK1 f_J6_numberOfLeadingZeros_0f7a4 rfl rfl rfl ?_
                  refine ev_anyI f_J13_numberOfLeadingZeros_95d88 (nx := 18) rfl rfl rfl rfl (fun z137 => ?_)
                  refine ev_jmp f_J13_numberOfLeadingZeros_95d88 (nx := 25) rfl rfl rfl ?_
                  refine ev_retK1 f_J13_numberOfLeadingZeros_95d88 rfl rfl rfl ?_
                  refine ev_anyI f_X11_lasts (nx := 29) rfl rfl rfl rfl (fun z138 => ?_)
                  refine ev_inV2 f_X11_lasts (nx := 32) (lo2 := [(0, .ref 0), (1, .int z138)]) rfl rfl rfl rfl f_X11_answer (hI.wf.s rfl) rfl rfl rfl rfl rfl ?_
                  refine ev_loc f_X11_answer (nx := 1) rfl rfl rfl rfl ?_
                  refine ev_ic f_X11_answer (nx := 2) (v := 0) rfl (by decide) rfl ?_
                  refine ev_putIT f_X11_answer (nx := 5) rfl (hI.wf.s rfl) rfl rfl rfl (hI.put0 (hI.wf.s rfl) rfl rfl) (hX.upI rfl) (fun g139 e139 hI hX => ?_)
                  refine ev_loc f_X11_answer (nx := 6) rfl rfl rfl rfl ?_
                  refine ev_retK1 f_X11_answer rfl rfl rfl ?_
                  exact ev_ret f_X11_lasts rfl rfl rfl ⟨_, _, _, rfl, hI, hX, ⟨_, rfl, (t_lo z138), (t_hi z138), (show ∀ (u : Nat) (D : s_D), gr 0 6 = .ref u → t_VL gr u → t_CV gi gl u D → t_Cb D → (¬ (0 ≤ ar1.toInt ∧ ar1.toInt < D 0) → (g139 0 0).toInt = 1) ∧ ((0 ≤ ar1.toInt ∧ ar1.toInt < D 0) → (g139 0 0).toInt = 0) from (by
                                                            intro u D hu hl hc hb
                                                            have ha : a6 = u := Value.ref.inj (e6.symm.trans hu)
                                                            subst ha
                                                            have hm := hc.1.1
                                                            exact ⟨fun h => (by have ffs : (g139 0 0).toInt = 0 := (congrArg Int32.toInt (by rw [e139]; exact x_up2_at _ _ _ _ : g139 0 0 = 0)).trans (by decide); omega), fun h => (by have ffs : (g139 0 0).toInt = 0 := (congrArg Int32.toInt (by rw [e139]; exact x_up2_at _ _ _ _ : g139 0 0 = 0)).trans (by decide); omega)⟩))⟩⟩
                · have l140 : 4 ≤ z130.toInt := t_lel (t_nlt h133) (by decide : (4:Int) ≤ (4:Int32).toInt)
                  refine ev_incv f_J6_numberOfLeadingZeros_0f7a4 (nx := 69) (c := -2) (w := 5) (lo' := [(1, .int 5), (0, .int z130)]) rfl rfl (by decide) (by decide) rfl rfl rfl ?_
                  refine ev_loc f_J6_numberOfLeadingZeros_0f7a4 (nx := 70) rfl rfl rfl rfl ?_
                  refine ev_ic f_J6_numberOfLeadingZeros_0f7a4 (nx := 71) (v := 2) rfl (by decide) rfl ?_
                  refine ev_anyI f_J6_numberOfLeadingZeros_0f7a4 (nx := 72) rfl rfl rfl rfl (fun z141 => ?_)
                  refine ev_loc f_J6_numberOfLeadingZeros_0f7a4 (nx := 73) (lo' := [(0, .int z141), (1, .int 5)]) rfl rfl rfl rfl ?_
                  refine ev_loc f_J6_numberOfLeadingZeros_0f7a4 (nx := 74) rfl rfl rfl rfl ?_
                  refine ev_loc f_J6_numberOfLeadingZeros_0f7a4 (nx := 75) rfl rfl rfl rfl ?_
                  refine ev_ic f_J6_numberOfLeadingZeros_0f7a4 (nx := 76) (v := 1) rfl (by decide) rfl ?_
                  refine ev_anyI f_J6_numberOfLeadingZeros_0f7a4 (nx := 77) rfl rfl rfl rfl (fun z142 => ?_)
                  refine ev_anyI f_J6_numberOfLeadingZeros_0f7a4 (nx := 78) rfl rfl rfl rfl (fun z143 => ?_)
                  refine ev_retK1 f_J6_numberOfLeadingZeros_0f7a4 rfl rfl rfl ?_
                  refine ev_anyI f_J13_numberOfLeadingZeros_95d88 (nx := 18) rfl rfl rfl rfl (fun z144 => ?_)
                  refine ev_jmp f_J13_numberOfLeadingZeros_95d88 (nx := 25) rfl rfl rfl ?_
                  refine ev_retK1 f_J13_numberOfLeadingZeros_95d88 rfl rfl rfl ?_
                  refine ev_anyI f_X11_lasts (nx := 29) rfl rfl rfl rfl (fun z145 => ?_)
                  refine ev_inV2 f_X11_lasts (nx := 32) (lo2 := [(0, .ref 0), (1, .int z145)]) rfl rfl rfl rfl f_X11_answer (hI.wf.s rfl) rfl rfl rfl rfl rfl ?_
                  refine ev_loc f_X11_answer (nx := 1) rfl rfl rfl rfl ?_
                  refine ev_ic f_X11_answer (nx := 2) (v := 0) rfl (by decide) rfl ?_
                  refine ev_putIT f_X11_answer (nx := 5) rfl (hI.wf.s rfl) rfl rfl rfl (hI.put0 (hI.wf.s rfl) rfl rfl) (hX.upI rfl) (fun g146 e146 hI hX => ?_)
                  refine ev_loc f_X11_answer (nx := 6) rfl rfl rfl rfl ?_
                  refine ev_retK1 f_X11_answer rfl rfl rfl ?_
                  exact ev_ret f_X11_lasts rfl rfl rfl ⟨_, _, _, rfl, hI, hX, ⟨_, rfl, (t_lo z145), (t_hi z145), (show ∀ (u : Nat) (D : s_D), gr 0 6 = .ref u → t_VL gr u → t_CV gi gl u D → t_Cb D → (¬ (0 ≤ ar1.toInt ∧ ar1.toInt < D 0) → (g146 0 0).toInt = 1) ∧ ((0 ≤ ar1.toInt ∧ ar1.toInt < D 0) → (g146 0 0).toInt = 0) from (by
                                                            intro u D hu hl hc hb
                                                            have ha : a6 = u := Value.ref.inj (e6.symm.trans hu)
                                                            subst ha
                                                            have hm := hc.1.1
                                                            exact ⟨fun h => (by have ffs : (g146 0 0).toInt = 0 := (congrArg Int32.toInt (by rw [e146]; exact x_up2_at _ _ _ _ : g146 0 0 = 0)).trans (by decide); omega), fun h => (by have ffs : (g146 0 0).toInt = 0 := (congrArg Int32.toInt (by rw [e146]; exact x_up2_at _ _ _ _ : g146 0 0 = 0)).trans (by decide); omega)⟩))⟩⟩
              · have l147 : 16 ≤ z130.toInt := t_lel (t_nlt h131) (by decide : (16:Int) ≤ (16:Int32).toInt)
                refine ev_incv f_J6_numberOfLeadingZeros_0f7a4 (nx := 57) (c := -4) (w := 3) (lo' := [(1, .int 3), (0, .int z130)]) rfl rfl (by decide) (by decide) rfl rfl rfl ?_
                refine ev_loc f_J6_numberOfLeadingZeros_0f7a4 (nx := 58) rfl rfl rfl rfl ?_
                refine ev_ic f_J6_numberOfLeadingZeros_0f7a4 (nx := 59) (v := 4) rfl (by decide) rfl ?_
                refine ev_anyI f_J6_numberOfLeadingZeros_0f7a4 (nx := 60) rfl rfl rfl rfl (fun z148 => ?_)
                refine ev_loc f_J6_numberOfLeadingZeros_0f7a4 (nx := 61) (lo' := [(0, .int z148), (1, .int 3)]) rfl rfl rfl rfl ?_
                refine ev_loc f_J6_numberOfLeadingZeros_0f7a4 (nx := 62) rfl rfl rfl rfl ?_
                refine ev_ic f_J6_numberOfLeadingZeros_0f7a4 (nx := 63) (v := 4) rfl (by decide) rfl ?_
                refine ev_if f_J6_numberOfLeadingZeros_0f7a4 (t1 := 73) (t2 := 66) rfl rfl rfl (fun h149 => ?_) (fun h149 => ?_)
                · have u150 : z148.toInt ≤ 3 := t_ltu h149 (by decide : (4:Int32).toInt ≤ (4:Int)) rfl
                  refine ev_loc f_J6_numberOfLeadingZeros_0f7a4 (nx := 74) rfl rfl rfl rfl ?_
                  refine ev_loc f_J6_numberOfLeadingZeros_0f7a4 (nx := 75) rfl rfl rfl rfl ?_
                  refine ev_ic f_J6_numberOfLeadingZeros_0f7a4 (nx := 76) (v := 1) rfl (by decide) rfl ?_
                  refine ev_anyI f_J6_numberOfLeadingZeros_0f7a4 (nx := 77) rfl rfl rfl rfl (fun z151 => ?_)
                  refine ev_anyI f_J6_numberOfLeadingZeros_0f7a4 (nx := 78) rfl rfl rfl rfl (fun z152 => ?_)
                  refine ev_retK1 f_J6_numberOfLeadingZeros_0f7a4 rfl rfl rfl ?_
                  refine ev_anyI f_J13_numberOfLeadingZeros_95d88 (nx := 18) rfl rfl rfl rfl (fun z153 => ?_)
                  refine ev_jmp f_J13_numberOfLeadingZeros_95d88 (nx := 25) rfl rfl rfl ?_
                  refine ev_retK1 f_J13_numberOfLeadingZeros_95d88 rfl rfl rfl ?_
                  refine ev_anyI f_X11_lasts (nx := 29) rfl rfl rfl rfl (fun z154 => ?_)
                  refine ev_inV2 f_X11_lasts (nx := 32) (lo2 := [(0, .ref 0), (1, .int z154)]) rfl rfl rfl rfl f_X11_answer (hI.wf.s rfl) rfl rfl rfl rfl rfl ?_
                  refine ev_loc f_X11_answer (nx := 1) rfl rfl rfl rfl ?_
                  refine ev_ic f_X11_answer (nx := 2) (v := 0) rfl (by decide) rfl ?_
                  refine ev_putIT f_X11_answer (nx := 5) rfl (hI.wf.s rfl) rfl rfl rfl (hI.put0 (hI.wf.s rfl) rfl rfl) (hX.upI rfl) (fun g155 e155 hI hX => ?_)
                  refine ev_loc f_X11_answer (nx := 6) rfl rfl rfl rfl ?_
                  refine ev_retK1 f_X11_answer rfl rfl rfl ?_
                  exact ev_ret f_X11_lasts rfl rfl rfl ⟨_, _, _, rfl, hI, hX, ⟨_, rfl, (t_lo z154), (t_hi z154), (show ∀ (u : Nat) (D : s_D), gr 0 6 = .ref u → t_VL gr u → t_CV gi gl u D → t_Cb D → (¬ (0 ≤ ar1.toInt ∧ ar1.toInt < D 0) → (g155 0 0).toInt = 1) ∧ ((0 ≤ ar1.toInt ∧ ar1.toInt < D 0) → (g155 0 0).toInt = 0) from (by
                                                            intro u D hu hl hc hb
                                                            have ha : a6 = u := Value.ref.inj (e6.symm.trans hu)
                                                            subst ha
                                                            have hm := hc.1.1
                                                            exact ⟨fun h => (by have ffs : (g155 0 0).toInt = 0 := (congrArg Int32.toInt (by rw [e155]; exact x_up2_at _ _ _ _ : g155 0 0 = 0)).trans (by decide); omega), fun h => (by have ffs : (g155 0 0).toInt = 0 := (congrArg Int32.toInt (by rw [e155]; exact x_up2_at _ _ _ _ : g155 0 0 = 0)).trans (by decide); omega)⟩))⟩⟩
                · have l156 : 4 ≤ z148.toInt := t_lel (t_nlt h149) (by decide : (4:Int) ≤ (4:Int32).toInt)
                  refine ev_incv f_J6_numberOfLeadingZeros_0f7a4 (nx := 69) (c := -2) (w := 1) (lo' := [(1, .int 1), (0, .int z148)]) rfl rfl (by decide) (by decide) rfl rfl rfl ?_
                  refine ev_loc f_J6_numberOfLeadingZeros_0f7a4 (nx := 70) rfl rfl rfl rfl ?_
                  refine ev_ic f_J6_numberOfLeadingZeros_0f7a4 (nx := 71) (v := 2) rfl (by decide) rfl ?_
                  refine ev_anyI f_J6_numberOfLeadingZeros_0f7a4 (nx := 72) rfl rfl rfl rfl (fun z157 => ?_)
                  refine ev_loc f_J6_numberOfLeadingZeros_0f7a4 (nx := 73) (lo' := [(0, .int z157), (1, .int 1)]) rfl rfl rfl rfl ?_
                  refine ev_loc f_J6_numberOfLeadingZeros_0f7a4 (nx := 74) rfl rfl rfl rfl ?_
                  refine ev_loc f_J6_numberOfLeadingZeros_0f7a4 (nx := 75) rfl rfl rfl rfl ?_
                  refine ev_ic f_J6_numberOfLeadingZeros_0f7a4 (nx := 76) (v := 1) rfl (by decide) rfl ?_
                  refine ev_anyI f_J6_numberOfLeadingZeros_0f7a4 (nx := 77) rfl rfl rfl rfl (fun z158 => ?_)
                  refine ev_anyI f_J6_numberOfLeadingZeros_0f7a4 (nx := 78) rfl rfl rfl rfl (fun z159 => ?_)
                  refine ev_retK1 f_J6_numberOfLeadingZeros_0f7a4 rfl rfl rfl ?_
                  refine ev_anyI f_J13_numberOfLeadingZeros_95d88 (nx := 18) rfl rfl rfl rfl (fun z160 => ?_)
                  refine ev_jmp f_J13_numberOfLeadingZeros_95d88 (nx := 25) rfl rfl rfl ?_
                  refine ev_retK1 f_J13_numberOfLeadingZeros_95d88 rfl rfl rfl ?_
                  refine ev_anyI f_X11_lasts (nx := 29) rfl rfl rfl rfl (fun z161 => ?_)
                  refine ev_inV2 f_X11_lasts (nx := 32) (lo2 := [(0, .ref 0), (1, .int z161)]) rfl rfl rfl rfl f_X11_answer (hI.wf.s rfl) rfl rfl rfl rfl rfl ?_
                  refine ev_loc f_X11_answer (nx := 1) rfl rfl rfl rfl ?_
                  refine ev_ic f_X11_answer (nx := 2) (v := 0) rfl (by decide) rfl ?_
                  refine ev_putIT f_X11_answer (nx := 5) rfl (hI.wf.s rfl) rfl rfl rfl (hI.put0 (hI.wf.s rfl) rfl rfl) (hX.upI rfl) (fun g162 e162 hI hX => ?_)
                  refine ev_loc f_X11_answer (nx := 6) rfl rfl rfl rfl ?_
                  refine ev_retK1 f_X11_answer rfl rfl rfl ?_
                  exact ev_ret f_X11_lasts rfl rfl rfl ⟨_, _, _, rfl, hI, hX, ⟨_, rfl, (t_lo z161), (t_hi z161), (show ∀ (u : Nat) (D : s_D), gr 0 6 = .ref u → t_VL gr u → t_CV gi gl u D → t_Cb D → (¬ (0 ≤ ar1.toInt ∧ ar1.toInt < D 0) → (g162 0 0).toInt = 1) ∧ ((0 ≤ ar1.toInt ∧ ar1.toInt < D 0) → (g162 0 0).toInt = 0) from (by
                                                            intro u D hu hl hc hb
                                                            have ha : a6 = u := Value.ref.inj (e6.symm.trans hu)
                                                            subst ha
                                                            have hm := hc.1.1
                                                            exact ⟨fun h => (by have ffs : (g162 0 0).toInt = 0 := (congrArg Int32.toInt (by rw [e162]; exact x_up2_at _ _ _ _ : g162 0 0 = 0)).trans (by decide); omega), fun h => (by have ffs : (g162 0 0).toInt = 0 := (congrArg Int32.toInt (by rw [e162]; exact x_up2_at _ _ _ _ : g162 0 0 = 0)).trans (by decide); omega)⟩))⟩⟩
        · have u163 : z20.toInt ≤ 0 := t_leu (t_nlt h21) (by decide : (0:Int32).toInt ≤ (0:Int))
          refine ev_loc f_J6_numberOfLeadingZeros_0f7a4 (nx := 5) rfl rfl rfl rfl ?_
          refine ev_if f_J6_numberOfLeadingZeros_0f7a4 (t1 := 8) (t2 := 13) rfl rfl rfl (fun h164 => ?_) (fun h164 => ?_)
          · have l165 : 0 ≤ z20.toInt := t_eql h164 (by decide : (0:Int) ≤ (0:Int32).toInt)
            refine ev_bp f_J6_numberOfLeadingZeros_0f7a4 (nx := 10) (v := 32) rfl (by decide) rfl ?_
            refine ev_jmp f_J6_numberOfLeadingZeros_0f7a4 (nx := 14) rfl rfl rfl ?_
            refine ev_retK1 f_J6_numberOfLeadingZeros_0f7a4 rfl rfl rfl ?_
            refine ev_aluvI f_J13_numberOfLeadingZeros_95d88 (nx := 18) (w := 64) rfl rfl rfl (by decide) rfl ?_
            refine ev_jmp f_J13_numberOfLeadingZeros_95d88 (nx := 25) rfl rfl rfl ?_
            refine ev_retK1 f_J13_numberOfLeadingZeros_95d88 rfl rfl rfl ?_
            refine ev_aluvI f_X11_lasts (nx := 29) (w := 0) rfl rfl rfl (by decide) rfl ?_
            refine ev_inV2 f_X11_lasts (nx := 32) (lo2 := [(0, .ref 0), (1, .int 0)]) rfl rfl rfl rfl f_X11_answer (hI.wf.s rfl) rfl rfl rfl rfl rfl ?_
            refine ev_loc f_X11_answer (nx := 1) rfl rfl rfl rfl ?_
            refine ev_ic f_X11_answer (nx := 2) (v := 0) rfl (by decide) rfl ?_
            refine ev_putIT f_X11_answer (nx := 5) rfl (hI.wf.s rfl) rfl rfl rfl (hI.put0 (hI.wf.s rfl) rfl rfl) (hX.upI rfl) (fun g166 e166 hI hX => ?_)
            refine ev_loc f_X11_answer (nx := 6) rfl rfl rfl rfl ?_
            refine ev_retK1 f_X11_answer rfl rfl rfl ?_
            exact ev_ret f_X11_lasts rfl rfl rfl ⟨_, _, _, rfl, hI, hX, ⟨_, rfl, (Int.le_trans (by decide : ((-2147483648):Int) ≤ 0) (by decide : (0:Int) ≤ (0:Int32).toInt)), (Int.le_trans (by decide : (0:Int32).toInt ≤ (0:Int)) (by decide : (0:Int) ≤ 2147483647)), (show ∀ (u : Nat) (D : s_D), gr 0 6 = .ref u → t_VL gr u → t_CV gi gl u D → t_Cb D → (¬ (0 ≤ ar1.toInt ∧ ar1.toInt < D 0) → (g166 0 0).toInt = 1) ∧ ((0 ≤ ar1.toInt ∧ ar1.toInt < D 0) → (g166 0 0).toInt = 0) from (by
                                                            intro u D hu hl hc hb
                                                            have ha : a6 = u := Value.ref.inj (e6.symm.trans hu)
                                                            subst ha
                                                            have hm := hc.1.1
                                                            exact ⟨fun h => (by have ffs : (g166 0 0).toInt = 0 := (congrArg Int32.toInt (by rw [e166]; exact x_up2_at _ _ _ _ : g166 0 0 = 0)).trans (by decide); omega), fun h => (by have ffs : (g166 0 0).toInt = 0 := (congrArg Int32.toInt (by rw [e166]; exact x_up2_at _ _ _ _ : g166 0 0 = 0)).trans (by decide); omega)⟩))⟩⟩
          · have r167 : z20.toInt ≠ 0 := fun e => h164 (Int32.toInt_inj.mp (e.trans (by decide : (0:Int) = (0 : Int32).toInt)))
            have u168 : z20.toInt ≤ (-1) := t_neu h164 u163 rfl rfl
            refine ev_ic f_J6_numberOfLeadingZeros_0f7a4 (nx := 14) (v := 0) rfl (by decide) rfl ?_
            refine ev_retK1 f_J6_numberOfLeadingZeros_0f7a4 rfl rfl rfl ?_
            refine ev_aluvI f_J13_numberOfLeadingZeros_95d88 (nx := 18) (w := 32) rfl rfl rfl (by decide) rfl ?_
            refine ev_jmp f_J13_numberOfLeadingZeros_95d88 (nx := 25) rfl rfl rfl ?_
            refine ev_retK1 f_J13_numberOfLeadingZeros_95d88 rfl rfl rfl ?_
            refine ev_aluvI f_X11_lasts (nx := 29) (w := 32) rfl rfl rfl (by decide) rfl ?_
            refine ev_inV2 f_X11_lasts (nx := 32) (lo2 := [(0, .ref 0), (1, .int 32)]) rfl rfl rfl rfl f_X11_answer (hI.wf.s rfl) rfl rfl rfl rfl rfl ?_
            refine ev_loc f_X11_answer (nx := 1) rfl rfl rfl rfl ?_
            refine ev_ic f_X11_answer (nx := 2) (v := 0) rfl (by decide) rfl ?_
            refine ev_putIT f_X11_answer (nx := 5) rfl (hI.wf.s rfl) rfl rfl rfl (hI.put0 (hI.wf.s rfl) rfl rfl) (hX.upI rfl) (fun g169 e169 hI hX => ?_)
            refine ev_loc f_X11_answer (nx := 6) rfl rfl rfl rfl ?_
            refine ev_retK1 f_X11_answer rfl rfl rfl ?_
            exact ev_ret f_X11_lasts rfl rfl rfl ⟨_, _, _, rfl, hI, hX, ⟨_, rfl, (Int.le_trans (by decide : ((-2147483648):Int) ≤ 32) (by decide : (32:Int) ≤ (32:Int32).toInt)), (Int.le_trans (by decide : (32:Int32).toInt ≤ (32:Int)) (by decide : (32:Int) ≤ 2147483647)), (show ∀ (u : Nat) (D : s_D), gr 0 6 = .ref u → t_VL gr u → t_CV gi gl u D → t_Cb D → (¬ (0 ≤ ar1.toInt ∧ ar1.toInt < D 0) → (g169 0 0).toInt = 1) ∧ ((0 ≤ ar1.toInt ∧ ar1.toInt < D 0) → (g169 0 0).toInt = 0) from (by
                                                            intro u D hu hl hc hb
                                                            have ha : a6 = u := Value.ref.inj (e6.symm.trans hu)
                                                            subst ha
                                                            have hm := hc.1.1
                                                            exact ⟨fun h => (by have ffs : (g169 0 0).toInt = 0 := (congrArg Int32.toInt (by rw [e169]; exact x_up2_at _ _ _ _ : g169 0 0 = 0)).trans (by decide); omega), fun h => (by have ffs : (g169 0 0).toInt = 0 := (congrArg Int32.toInt (by rw [e169]; exact x_up2_at _ _ _ _ : g169 0 0 = 0)).trans (by decide); omega)⟩))⟩⟩
      · have r170 : z16.toInt ≠ 0 := fun e => h17 (Int32.toInt_inj.mp (e.trans (by decide : (0:Int) = (0 : Int32).toInt)))
        refine ev_loc f_J13_numberOfLeadingZeros_95d88 (nx := 22) rfl rfl rfl rfl ?_
        refine ev_inS1 f_J13_numberOfLeadingZeros_95d88 (nx := 25) (lo2 := [(0, .int z16)]) rfl rfl rfl rfl f_J6_numberOfLeadingZeros_0f7a4 rfl rfl rfl rfl ?_
        refine ev_loc f_J6_numberOfLeadingZeros_0f7a4 (nx := 1) rfl rfl rfl rfl ?_
        refine ev_if f_J6_numberOfLeadingZeros_0f7a4 (t1 := 15) (t2 := 4) rfl rfl rfl (fun h171 => ?_) (fun h171 => ?_)
        · have l172 : 1 ≤ z16.toInt := t_ltl h171 (by decide : (0:Int) ≤ (0:Int32).toInt) rfl
          refine ev_bp f_J6_numberOfLeadingZeros_0f7a4 (nx := 17) (v := 31) rfl (by decide) rfl ?_
          refine ev_loc f_J6_numberOfLeadingZeros_0f7a4 (nx := 18) (lo' := [(1, .int 31), (0, .int z16)]) rfl rfl rfl rfl ?_
          refine ev_loc f_J6_numberOfLeadingZeros_0f7a4 (nx := 19) rfl rfl rfl rfl ?_
          refine ev_ldW f_J6_numberOfLeadingZeros_0f7a4 (nx := 22) (v := 65536) rfl (by decide) rfl ?_
          refine ev_if f_J6_numberOfLeadingZeros_0f7a4 (t1 := 33) (t2 := 25) rfl rfl rfl (fun h173 => ?_) (fun h173 => ?_)
          · have u174 : z16.toInt ≤ 65535 := t_ltu h173 (by decide : (65536:Int32).toInt ≤ (65536:Int)) rfl
            refine ev_loc f_J6_numberOfLeadingZeros_0f7a4 (nx := 34) rfl rfl rfl rfl ?_
            refine ev_sp f_J6_numberOfLeadingZeros_0f7a4 (nx := 37) (v := 256) rfl (by decide) rfl ?_
            refine ev_if f_J6_numberOfLeadingZeros_0f7a4 (t1 := 48) (t2 := 40) rfl rfl rfl (fun h175 => ?_) (fun h175 => ?_)
            · have u176 : z16.toInt ≤ 255 := t_ltu h175 (by decide : (256:Int32).toInt ≤ (256:Int)) rfl
              refine ev_loc f_J6_numberOfLeadingZeros_0f7a4 (nx := 49) rfl rfl rfl rfl ?_
              refine ev_bp f_J6_numberOfLeadingZeros_0f7a4 (nx := 51) (v := 16) rfl (by decide) rfl ?_
              refine ev_if f_J6_numberOfLeadingZeros_0f7a4 (t1 := 61) (t2 := 54) rfl rfl rfl (fun h177 => ?_) (fun h177 => ?_)
              · have u178 : z16.toInt ≤ 15 := t_ltu h177 (by decide : (16:Int32).toInt ≤ (16:Int)) rfl
                refine ev_loc f_J6_numberOfLeadingZeros_0f7a4 (nx := 62) rfl rfl rfl rfl ?_
                refine ev_ic f_J6_numberOfLeadingZeros_0f7a4 (nx := 63) (v := 4) rfl (by decide) rfl ?_
                refine ev_if f_J6_numberOfLeadingZeros_0f7a4 (t1 := 73) (t2 := 66) rfl rfl rfl (fun h179 => ?_) (fun h179 => ?_)
                · have u180 : z16.toInt ≤ 3 := t_ltu h179 (by decide : (4:Int32).toInt ≤ (4:Int)) rfl
                  refine ev_loc f_J6_numberOfLeadingZeros_0f7a4 (nx := 74) rfl rfl rfl rfl ?_
                  refine ev_loc f_J6_numberOfLeadingZeros_0f7a4 (nx := 75) rfl rfl rfl rfl ?_
                  refine ev_ic f_J6_numberOfLeadingZeros_0f7a4 (nx := 76) (v := 1) rfl (by decide) rfl ?_
                  refine ev_anyI f_J6_numberOfLeadingZeros_0f7a4 (nx := 77) rfl rfl rfl rfl (fun z181 => ?_)
                  refine ev_anyI f_J6_numberOfLeadingZeros_0f7a4 (nx := 78) rfl rfl rfl rfl (fun z182 => ?_)
                  refine ev_retK1 f_J6_numberOfLeadingZeros_0f7a4 rfl rfl rfl ?_
                  refine ev_retK1 f_J13_numberOfLeadingZeros_95d88 rfl rfl rfl ?_
                  refine ev_anyI f_X11_lasts (nx := 29) rfl rfl rfl rfl (fun z183 => ?_)
                  refine ev_inV2 f_X11_lasts (nx := 32) (lo2 := [(0, .ref 0), (1, .int z183)]) rfl rfl rfl rfl f_X11_answer (hI.wf.s rfl) rfl rfl rfl rfl rfl ?_
                  refine ev_loc f_X11_answer (nx := 1) rfl rfl rfl rfl ?_
                  refine ev_ic f_X11_answer (nx := 2) (v := 0) rfl (by decide) rfl ?_
                  refine ev_putIT f_X11_answer (nx := 5) rfl (hI.wf.s rfl) rfl rfl rfl (hI.put0 (hI.wf.s rfl) rfl rfl) (hX.upI rfl) (fun g184 e184 hI hX => ?_)
                  refine ev_loc f_X11_answer (nx := 6) rfl rfl rfl rfl ?_
                  refine ev_retK1 f_X11_answer rfl rfl rfl ?_
                  exact ev_ret f_X11_lasts rfl rfl rfl ⟨_, _, _, rfl, hI, hX, ⟨_, rfl, (t_lo z183), (t_hi z183), (show ∀ (u : Nat) (D : s_D), gr 0 6 = .ref u → t_VL gr u → t_CV gi gl u D → t_Cb D → (¬ (0 ≤ ar1.toInt ∧ ar1.toInt < D 0) → (g184 0 0).toInt = 1) ∧ ((0 ≤ ar1.toInt ∧ ar1.toInt < D 0) → (g184 0 0).toInt = 0) from (by
                                                            intro u D hu hl hc hb
                                                            have ha : a6 = u := Value.ref.inj (e6.symm.trans hu)
                                                            subst ha
                                                            have hm := hc.1.1
                                                            exact ⟨fun h => (by have ffs : (g184 0 0).toInt = 0 := (congrArg Int32.toInt (by rw [e184]; exact x_up2_at _ _ _ _ : g184 0 0 = 0)).trans (by decide); omega), fun h => (by have ffs : (g184 0 0).toInt = 0 := (congrArg Int32.toInt (by rw [e184]; exact x_up2_at _ _ _ _ : g184 0 0 = 0)).trans (by decide); omega)⟩))⟩⟩
                · have l185 : 4 ≤ z16.toInt := t_lel (t_nlt h179) (by decide : (4:Int) ≤ (4:Int32).toInt)
                  refine ev_incv f_J6_numberOfLeadingZeros_0f7a4 (nx := 69) (c := -2) (w := 29) (lo' := [(1, .int 29), (0, .int z16)]) rfl rfl (by decide) (by decide) rfl rfl rfl ?_
                  refine ev_loc f_J6_numberOfLeadingZeros_0f7a4 (nx := 70) rfl rfl rfl rfl ?_
                  refine ev_ic f_J6_numberOfLeadingZeros_0f7a4 (nx := 71) (v := 2) rfl (by decide) rfl ?_
                  refine ev_anyI f_J6_numberOfLeadingZeros_0f7a4 (nx := 72) rfl rfl rfl rfl (fun z186 => ?_)
                  refine ev_loc f_J6_numberOfLeadingZeros_0f7a4 (nx := 73) (lo' := [(0, .int z186), (1, .int 29)]) rfl rfl rfl rfl ?_
                  refine ev_loc f_J6_numberOfLeadingZeros_0f7a4 (nx := 74) rfl rfl rfl rfl ?_
                  refine ev_loc f_J6_numberOfLeadingZeros_0f7a4 (nx := 75) rfl rfl rfl rfl ?_
                  refine ev_ic f_J6_numberOfLeadingZeros_0f7a4 (nx := 76) (v := 1) rfl (by decide) rfl ?_
                  refine ev_anyI f_J6_numberOfLeadingZeros_0f7a4 (nx := 77) rfl rfl rfl rfl (fun z187 => ?_)
                  refine ev_anyI f_J6_numberOfLeadingZeros_0f7a4 (nx := 78) rfl rfl rfl rfl (fun z188 => ?_)
                  refine ev_retK1 f_J6_numberOfLeadingZeros_0f7a4 rfl rfl rfl ?_
                  refine ev_retK1 f_J13_numberOfLeadingZeros_95d88 rfl rfl rfl ?_
                  refine ev_anyI f_X11_lasts (nx := 29) rfl rfl rfl rfl (fun z189 => ?_)
                  refine ev_inV2 f_X11_lasts (nx := 32) (lo2 := [(0, .ref 0), (1, .int z189)]) rfl rfl rfl rfl f_X11_answer (hI.wf.s rfl) rfl rfl rfl rfl rfl ?_
                  refine ev_loc f_X11_answer (nx := 1) rfl rfl rfl rfl ?_
                  refine ev_ic f_X11_answer (nx := 2) (v := 0) rfl (by decide) rfl ?_
                  refine ev_putIT f_X11_answer (nx := 5) rfl (hI.wf.s rfl) rfl rfl rfl (hI.put0 (hI.wf.s rfl) rfl rfl) (hX.upI rfl) (fun g190 e190 hI hX => ?_)
                  refine ev_loc f_X11_answer (nx := 6) rfl rfl rfl rfl ?_
                  refine ev_retK1 f_X11_answer rfl rfl rfl ?_
                  exact ev_ret f_X11_lasts rfl rfl rfl ⟨_, _, _, rfl, hI, hX, ⟨_, rfl, (t_lo z189), (t_hi z189), (show ∀ (u : Nat) (D : s_D), gr 0 6 = .ref u → t_VL gr u → t_CV gi gl u D → t_Cb D → (¬ (0 ≤ ar1.toInt ∧ ar1.toInt < D 0) → (g190 0 0).toInt = 1) ∧ ((0 ≤ ar1.toInt ∧ ar1.toInt < D 0) → (g190 0 0).toInt = 0) from (by
                                                            intro u D hu hl hc hb
                                                            have ha : a6 = u := Value.ref.inj (e6.symm.trans hu)
                                                            subst ha
                                                            have hm := hc.1.1
                                                            exact ⟨fun h => (by have ffs : (g190 0 0).toInt = 0 := (congrArg Int32.toInt (by rw [e190]; exact x_up2_at _ _ _ _ : g190 0 0 = 0)).trans (by decide); omega), fun h => (by have ffs : (g190 0 0).toInt = 0 := (congrArg Int32.toInt (by rw [e190]; exact x_up2_at _ _ _ _ : g190 0 0 = 0)).trans (by decide); omega)⟩))⟩⟩
              · have l191 : 16 ≤ z16.toInt := t_lel (t_nlt h177) (by decide : (16:Int) ≤ (16:Int32).toInt)
                refine ev_incv f_J6_numberOfLeadingZeros_0f7a4 (nx := 57) (c := -4) (w := 27) (lo' := [(1, .int 27), (0, .int z16)]) rfl rfl (by decide) (by decide) rfl rfl rfl ?_
                refine ev_loc f_J6_numberOfLeadingZeros_0f7a4 (nx := 58) rfl rfl rfl rfl ?_
                refine ev_ic f_J6_numberOfLeadingZeros_0f7a4 (nx := 59) (v := 4) rfl (by decide) rfl ?_
                refine ev_anyI f_J6_numberOfLeadingZeros_0f7a4 (nx := 60) rfl rfl rfl rfl (fun z192 => ?_)
                refine ev_loc f_J6_numberOfLeadingZeros_0f7a4 (nx := 61) (lo' := [(0, .int z192), (1, .int 27)]) rfl rfl rfl rfl ?_
                refine ev_loc f_J6_numberOfLeadingZeros_0f7a4 (nx := 62) rfl rfl rfl rfl ?_
                refine ev_ic f_J6_numberOfLeadingZeros_0f7a4 (nx := 63) (v := 4) rfl (by decide) rfl ?_
                refine ev_if f_J6_numberOfLeadingZeros_0f7a4 (t1 := 73) (t2 := 66) rfl rfl rfl (fun h193 => ?_) (fun h193 => ?_)
                · have u194 : z192.toInt ≤ 3 := t_ltu h193 (by decide : (4:Int32).toInt ≤ (4:Int)) rfl
                  refine ev_loc f_J6_numberOfLeadingZeros_0f7a4 (nx := 74) rfl rfl rfl rfl ?_
                  refine ev_loc f_J6_numberOfLeadingZeros_0f7a4 (nx := 75) rfl rfl rfl rfl ?_
                  refine ev_ic f_J6_numberOfLeadingZeros_0f7a4 (nx := 76) (v := 1) rfl (by decide) rfl ?_
                  refine ev_anyI f_J6_numberOfLeadingZeros_0f7a4 (nx := 77) rfl rfl rfl rfl (fun z195 => ?_)
                  refine ev_anyI f_J6_numberOfLeadingZeros_0f7a4 (nx := 78) rfl rfl rfl rfl (fun z196 => ?_)
                  refine ev_retK1 f_J6_numberOfLeadingZeros_0f7a4 rfl rfl rfl ?_
                  refine ev_retK1 f_J13_numberOfLeadingZeros_95d88 rfl rfl rfl ?_
                  refine ev_anyI f_X11_lasts (nx := 29) rfl rfl rfl rfl (fun z197 => ?_)
                  refine ev_inV2 f_X11_lasts (nx := 32) (lo2 := [(0, .ref 0), (1, .int z197)]) rfl rfl rfl rfl f_X11_answer (hI.wf.s rfl) rfl rfl rfl rfl rfl ?_
                  refine ev_loc f_X11_answer (nx := 1) rfl rfl rfl rfl ?_
                  refine ev_ic f_X11_answer (nx := 2) (v := 0) rfl (by decide) rfl ?_
                  refine ev_putIT f_X11_answer (nx := 5) rfl (hI.wf.s rfl) rfl rfl rfl (hI.put0 (hI.wf.s rfl) rfl rfl) (hX.upI rfl) (fun g198 e198 hI hX => ?_)
                  refine ev_loc f_X11_answer (nx := 6) rfl rfl rfl rfl ?_
                  refine ev_retK1 f_X11_answer rfl rfl rfl ?_
                  exact ev_ret f_X11_lasts rfl rfl rfl ⟨_, _, _, rfl, hI, hX, ⟨_, rfl, (t_lo z197), (t_hi z197), (show ∀ (u : Nat) (D : s_D), gr 0 6 = .ref u → t_VL gr u → t_CV gi gl u D → t_Cb D → (¬ (0 ≤ ar1.toInt ∧ ar1.toInt < D 0) → (g198 0 0).toInt = 1) ∧ ((0 ≤ ar1.toInt ∧ ar1.toInt < D 0) → (g198 0 0).toInt = 0) from (by
                                                            intro u D hu hl hc hb
                                                            have ha : a6 = u := Value.ref.inj (e6.symm.trans hu)
                                                            subst ha
                                                            have hm := hc.1.1
                                                            exact ⟨fun h => (by have ffs : (g198 0 0).toInt = 0 := (congrArg Int32.toInt (by rw [e198]; exact x_up2_at _ _ _ _ : g198 0 0 = 0)).trans (by decide); omega), fun h => (by have ffs : (g198 0 0).toInt = 0 := (congrArg Int32.toInt (by rw [e198]; exact x_up2_at _ _ _ _ : g198 0 0 = 0)).trans (by decide); omega)⟩))⟩⟩
                · have l199 : 4 ≤ z192.toInt := t_lel (t_nlt h193) (by decide : (4:Int) ≤ (4:Int32).toInt)
                  refine ev_incv f_J6_numberOfLeadingZeros_0f7a4 (nx := 69) (c := -2) (w := 25) (lo' := [(1, .int 25), (0, .int z192)]) rfl rfl (by decide) (by decide) rfl rfl rfl ?_
                  refine ev_loc f_J6_numberOfLeadingZeros_0f7a4 (nx := 70) rfl rfl rfl rfl ?_
                  refine ev_ic f_J6_numberOfLeadingZeros_0f7a4 (nx := 71) (v := 2) rfl (by decide) rfl ?_
                  refine ev_anyI f_J6_numberOfLeadingZeros_0f7a4 (nx := 72) rfl rfl rfl rfl (fun z200 => ?_)
                  refine ev_loc f_J6_numberOfLeadingZeros_0f7a4 (nx := 73) (lo' := [(0, .int z200), (1, .int 25)]) rfl rfl rfl rfl ?_
                  refine ev_loc f_J6_numberOfLeadingZeros_0f7a4 (nx := 74) rfl rfl rfl rfl ?_
                  refine ev_loc f_J6_numberOfLeadingZeros_0f7a4 (nx := 75) rfl rfl rfl rfl ?_
                  refine ev_ic f_J6_numberOfLeadingZeros_0f7a4 (nx := 76) (v := 1) rfl (by decide) rfl ?_
                  refine ev_anyI f_J6_numberOfLeadingZeros_0f7a4 (nx := 77) rfl rfl rfl rfl (fun z201 => ?_)
                  refine ev_anyI f_J6_numberOfLeadingZeros_0f7a4 (nx := 78) rfl rfl rfl rfl (fun z202 => ?_)
                  refine ev_retK1 f_J6_numberOfLeadingZeros_0f7a4 rfl rfl rfl ?_
                  refine ev_retK1 f_J13_numberOfLeadingZeros_95d88 rfl rfl rfl ?_
                  refine ev_anyI f_X11_lasts (nx := 29) rfl rfl rfl rfl (fun z203 => ?_)
                  refine ev_inV2 f_X11_lasts (nx := 32) (lo2 := [(0, .ref 0), (1, .int z203)]) rfl rfl rfl rfl f_X11_answer (hI.wf.s rfl) rfl rfl rfl rfl rfl ?_
                  refine ev_loc f_X11_answer (nx := 1) rfl rfl rfl rfl ?_
                  refine ev_ic f_X11_answer (nx := 2) (v := 0) rfl (by decide) rfl ?_
                  refine ev_putIT f_X11_answer (nx := 5) rfl (hI.wf.s rfl) rfl rfl rfl (hI.put0 (hI.wf.s rfl) rfl rfl) (hX.upI rfl) (fun g204 e204 hI hX => ?_)
                  refine ev_loc f_X11_answer (nx := 6) rfl rfl rfl rfl ?_
                  refine ev_retK1 f_X11_answer rfl rfl rfl ?_
                  exact ev_ret f_X11_lasts rfl rfl rfl ⟨_, _, _, rfl, hI, hX, ⟨_, rfl, (t_lo z203), (t_hi z203), (show ∀ (u : Nat) (D : s_D), gr 0 6 = .ref u → t_VL gr u → t_CV gi gl u D → t_Cb D → (¬ (0 ≤ ar1.toInt ∧ ar1.toInt < D 0) → (g204 0 0).toInt = 1) ∧ ((0 ≤ ar1.toInt ∧ ar1.toInt < D 0) → (g204 0 0).toInt = 0) from (by
                                                            intro u D hu hl hc hb
                                                            have ha : a6 = u := Value.ref.inj (e6.symm.trans hu)
                                                            subst ha
                                                            have hm := hc.1.1
                                                            exact ⟨fun h => (by have ffs : (g204 0 0).toInt = 0 := (congrArg Int32.toInt (by rw [e204]; exact x_up2_at _ _ _ _ : g204 0 0 = 0)).trans (by decide); omega), fun h => (by have ffs : (g204 0 0).toInt = 0 := (congrArg Int32.toInt (by rw [e204]; exact x_up2_at _ _ _ _ : g204 0 0 = 0)).trans (by decide); omega)⟩))⟩⟩
            · have l205 : 256 ≤ z16.toInt := t_lel (t_nlt h175) (by decide : (256:Int) ≤ (256:Int32).toInt)
              refine ev_incv f_J6_numberOfLeadingZeros_0f7a4 (nx := 43) (c := -8) (w := 23) (lo' := [(1, .int 23), (0, .int z16)]) rfl rfl (by decide) (by decide) rfl rfl rfl ?_
              refine ev_loc f_J6_numberOfLeadingZeros_0f7a4 (nx := 44) rfl rfl rfl rfl ?_
              refine ev_bp f_J6_numberOfLeadingZeros_0f7a4 (nx := 46) (v := 8) rfl (by decide) rfl ?_
              refine ev_anyI f_J6_numberOfLeadingZeros_0f7a4 (nx := 47) rfl rfl rfl rfl (fun z206 => ?_)
              refine ev_loc f_J6_numberOfLeadingZeros_0f7a4 (nx := 48) (lo' := [(0, .int z206), (1, .int 23)]) rfl rfl rfl rfl ?_
              refine ev_loc f_J6_numberOfLeadingZeros_0f7a4 (nx := 49) rfl rfl rfl rfl ?_
              refine ev_bp f_J6_numberOfLeadingZeros_0f7a4 (nx := 51) (v := 16) rfl (by decide) rfl ?_
              refine ev_if f_J6_numberOfLeadingZeros_0f7a4 (t1 := 61) (t2 := 54) rfl rfl rfl (fun h207 => ?_) (fun h207 => ?_)
              · have u208 : z206.toInt ≤ 15 := t_ltu h207 (by decide : (16:Int32).toInt ≤ (16:Int)) rfl
                refine ev_loc f_J6_numberOfLeadingZeros_0f7a4 (nx := 62) rfl rfl rfl rfl ?_
                refine ev_ic f_J6_numberOfLeadingZeros_0f7a4 (nx := 63) (v := 4) rfl (by decide) rfl ?_
                refine ev_if f_J6_numberOfLeadingZeros_0f7a4 (t1 := 73) (t2 := 66) rfl rfl rfl (fun h209 => ?_) (fun h209 => ?_)
                · have u210 : z206.toInt ≤ 3 := t_ltu h209 (by decide : (4:Int32).toInt ≤ (4:Int)) rfl
                  refine ev_loc f_J6_numberOfLeadingZeros_0f7a4 (nx := 74) rfl rfl rfl rfl ?_
                  refine ev_loc f_J6_numberOfLeadingZeros_0f7a4 (nx := 75) rfl rfl rfl rfl ?_
                  refine ev_ic f_J6_numberOfLeadingZeros_0f7a4 (nx := 76) (v := 1) rfl (by decide) rfl ?_
                  refine ev_anyI f_J6_numberOfLeadingZeros_0f7a4 (nx := 77) rfl rfl rfl rfl (fun z211 => ?_)
                  refine ev_anyI f_J6_numberOfLeadingZeros_0f7a4 (nx := 78) rfl rfl rfl rfl (fun z212 => ?_)
                  refine ev_retK1 f_J6_numberOfLeadingZeros_0f7a4 rfl rfl rfl ?_
                  refine ev_retK1 f_J13_numberOfLeadingZeros_95d88 rfl rfl rfl ?_
                  refine ev_anyI f_X11_lasts (nx := 29) rfl rfl rfl rfl (fun z213 => ?_)
                  refine ev_inV2 f_X11_lasts (nx := 32) (lo2 := [(0, .ref 0), (1, .int z213)]) rfl rfl rfl rfl f_X11_answer (hI.wf.s rfl) rfl rfl rfl rfl rfl ?_
                  refine ev_loc f_X11_answer (nx := 1) rfl rfl rfl rfl ?_
                  refine ev_ic f_X11_answer (nx := 2) (v := 0) rfl (by decide) rfl ?_
                  refine ev_putIT f_X11_answer (nx := 5) rfl (hI.wf.s rfl) rfl rfl rfl (hI.put0 (hI.wf.s rfl) rfl rfl) (hX.upI rfl) (fun g214 e214 hI hX => ?_)
                  refine ev_loc f_X11_answer (nx := 6) rfl rfl rfl rfl ?_
                  refine ev_retK1 f_X11_answer rfl rfl rfl ?_
                  exact ev_ret f_X11_lasts rfl rfl rfl ⟨_, _, _, rfl, hI, hX, ⟨_, rfl, (t_lo z213), (t_hi z213), (show ∀ (u : Nat) (D : s_D), gr 0 6 = .ref u → t_VL gr u → t_CV gi gl u D → t_Cb D → (¬ (0 ≤ ar1.toInt ∧ ar1.toInt < D 0) → (g214 0 0).toInt = 1) ∧ ((0 ≤ ar1.toInt ∧ ar1.toInt < D 0) → (g214 0 0).toInt = 0) from (by
                                                            intro u D hu hl hc hb
                                                            have ha : a6 = u := Value.ref.inj (e6.symm.trans hu)
                                                            subst ha
                                                            have hm := hc.1.1
                                                            exact ⟨fun h => (by have ffs : (g214 0 0).toInt = 0 := (congrArg Int32.toInt (by rw [e214]; exact x_up2_at _ _ _ _ : g214 0 0 = 0)).trans (by decide); omega), fun h => (by have ffs : (g214 0 0).toInt = 0 := (congrArg Int32.toInt (by rw [e214]; exact x_up2_at _ _ _ _ : g214 0 0 = 0)).trans (by decide); omega)⟩))⟩⟩
                · have l215 : 4 ≤ z206.toInt := t_lel (t_nlt h209) (by decide : (4:Int) ≤ (4:Int32).toInt)
                  refine ev_incv f_J6_numberOfLeadingZeros_0f7a4 (nx := 69) (c := -2) (w := 21) (lo' := [(1, .int 21), (0, .int z206)]) rfl rfl (by decide) (by decide) rfl rfl rfl ?_
                  refine ev_loc f_J6_numberOfLeadingZeros_0f7a4 (nx := 70) rfl rfl rfl rfl ?_
                  refine ev_ic f_J6_numberOfLeadingZeros_0f7a4 (nx := 71) (v := 2) rfl (by decide) rfl ?_
                  refine ev_anyI f_J6_numberOfLeadingZeros_0f7a4 (nx := 72) rfl rfl rfl rfl (fun z216 => ?_)
                  refine ev_loc f_J6_numberOfLeadingZeros_0f7a4 (nx := 73) (lo' := [(0, .int z216), (1, .int 21)]) rfl rfl rfl rfl ?_
                  refine ev_loc f_J6_numberOfLeadingZeros_0f7a4 (nx := 74) rfl rfl rfl rfl ?_
                  refine ev_loc f_J6_numberOfLeadingZeros_0f7a4 (nx := 75) rfl rfl rfl rfl ?_
                  refine ev_ic f_J6_numberOfLeadingZeros_0f7a4 (nx := 76) (v := 1) rfl (by decide) rfl ?_
                  refine ev_anyI f_J6_numberOfLeadingZeros_0f7a4 (nx := 77) rfl rfl rfl rfl (fun z217 => ?_)
                  refine ev_anyI f_J6_numberOfLeadingZeros_0f7a4 (nx := 78) rfl rfl rfl rfl (fun z218 => ?_)
                  refine ev_retK1 f_J6_numberOfLeadingZeros_0f7a4 rfl rfl rfl ?_
                  refine ev_retK1 f_J13_numberOfLeadingZeros_95d88 rfl rfl rfl ?_
                  refine ev_anyI f_X11_lasts (nx := 29) rfl rfl rfl rfl (fun z219 => ?_)
                  refine ev_inV2 f_X11_lasts (nx := 32) (lo2 := [(0, .ref 0), (1, .int z219)]) rfl rfl rfl rfl f_X11_answer (hI.wf.s rfl) rfl rfl rfl rfl rfl ?_
                  refine ev_loc f_X11_answer (nx := 1) rfl rfl rfl rfl ?_
                  refine ev_ic f_X11_answer (nx := 2) (v := 0) rfl (by decide) rfl ?_
                  refine ev_putIT f_X11_answer (nx := 5) rfl (hI.wf.s rfl) rfl rfl rfl (hI.put0 (hI.wf.s rfl) rfl rfl) (hX.upI rfl) (fun g220 e220 hI hX => ?_)
                  refine ev_loc f_X11_answer (nx := 6) rfl rfl rfl rfl ?_
                  refine ev_retK1 f_X11_answer rfl rfl rfl ?_
                  exact ev_ret f_X11_lasts rfl rfl rfl ⟨_, _, _, rfl, hI, hX, ⟨_, rfl, (t_lo z219), (t_hi z219), (show ∀ (u : Nat) (D : s_D), gr 0 6 = .ref u → t_VL gr u → t_CV gi gl u D → t_Cb D → (¬ (0 ≤ ar1.toInt ∧ ar1.toInt < D 0) → (g220 0 0).toInt = 1) ∧ ((0 ≤ ar1.toInt ∧ ar1.toInt < D 0) → (g220 0 0).toInt = 0) from (by
                                                            intro u D hu hl hc hb
                                                            have ha : a6 = u := Value.ref.inj (e6.symm.trans hu)
                                                            subst ha
                                                            have hm := hc.1.1
                                                            exact ⟨fun h => (by have ffs : (g220 0 0).toInt = 0 := (congrArg Int32.toInt (by rw [e220]; exact x_up2_at _ _ _ _ : g220 0 0 = 0)).trans (by decide); omega), fun h => (by have ffs : (g220 0 0).toInt = 0 := (congrArg Int32.toInt (by rw [e220]; exact x_up2_at _ _ _ _ : g220 0 0 = 0)).trans (by decide); omega)⟩))⟩⟩
              · have l221 : 16 ≤ z206.toInt := t_lel (t_nlt h207) (by decide : (16:Int) ≤ (16:Int32).toInt)
                refine ev_incv f_J6_numberOfLeadingZeros_0f7a4 (nx := 57) (c := -4) (w := 19) (lo' := [(1, .int 19), (0, .int z206)]) rfl rfl (by decide) (by decide) rfl rfl rfl ?_
                refine ev_loc f_J6_numberOfLeadingZeros_0f7a4 (nx := 58) rfl rfl rfl rfl ?_
                refine ev_ic f_J6_numberOfLeadingZeros_0f7a4 (nx := 59) (v := 4) rfl (by decide) rfl ?_
                refine ev_anyI f_J6_numberOfLeadingZeros_0f7a4 (nx := 60) rfl rfl rfl rfl (fun z222 => ?_)
                refine ev_loc f_J6_numberOfLeadingZeros_0f7a4 (nx := 61) (lo' := [(0, .int z222), (1, .int 19)]) rfl rfl rfl rfl ?_
                refine ev_loc f_J6_numberOfLeadingZeros_0f7a4 (nx := 62) rfl rfl rfl rfl ?_
                refine ev_ic f_J6_numberOfLeadingZeros_0f7a4 (nx := 63) (v := 4) rfl (by decide) rfl ?_
                refine ev_if f_J6_numberOfLeadingZeros_0f7a4 (t1 := 73) (t2 := 66) rfl rfl rfl (fun h223 => ?_) (fun h223 => ?_)
                · have u224 : z222.toInt ≤ 3 := t_ltu h223 (by decide : (4:Int32).toInt ≤ (4:Int)) rfl
                  refine ev_loc f_J6_numberOfLeadingZeros_0f7a4 (nx := 74) rfl rfl rfl rfl ?_
                  refine ev_loc f_J6_numberOfLeadingZeros_0f7a4 (nx := 75) rfl rfl rfl rfl ?_
                  refine ev_ic f_J6_numberOfLeadingZeros_0f7a4 (nx := 76) (v := 1) rfl (by decide) rfl ?_
                  refine ev_anyI f_J6_numberOfLeadingZeros_0f7a4 (nx := 77) rfl rfl rfl rfl (fun z225 => ?_)
                  refine ev_anyI f_J6_numberOfLeadingZeros_0f7a4 (nx := 78) rfl rfl rfl rfl (fun z226 => ?_)
                  refine ev_retK1 f_J6_numberOfLeadingZeros_0f7a4 rfl rfl rfl ?_
                  refine ev_retK1 f_J13_numberOfLeadingZeros_95d88 rfl rfl rfl ?_
                  refine ev_anyI f_X11_lasts (nx := 29) rfl rfl rfl rfl (fun z227 => ?_)
                  refine ev_inV2 f_X11_lasts (nx := 32) (lo2 := [(0, .ref 0), (1, .int z227)]) rfl rfl rfl rfl f_X11_answer (hI.wf.s rfl) rfl rfl rfl rfl rfl ?_
                  refine ev_loc f_X11_answer (nx := 1) rfl rfl rfl rfl ?_
                  refine ev_ic f_X11_answer (nx := 2) (v := 0) rfl (by decide) rfl ?_
                  refine ev_putIT f_X11_answer (nx := 5) rfl (hI.wf.s rfl) rfl rfl rfl (hI.put0 (hI.wf.s rfl) rfl rfl) (hX.upI rfl) (fun g228 e228 hI hX => ?_)
                  refine ev_loc f_X11_answer (nx := 6) rfl rfl rfl rfl ?_
                  refine ev_retK1 f_X11_answer rfl rfl rfl ?_
                  exact ev_ret f_X11_lasts rfl rfl rfl ⟨_, _, _, rfl, hI, hX, ⟨_, rfl, (t_lo z227), (t_hi z227), (show ∀ (u : Nat) (D : s_D), gr 0 6 = .ref u → t_VL gr u → t_CV gi gl u D → t_Cb D → (¬ (0 ≤ ar1.toInt ∧ ar1.toInt < D 0) → (g228 0 0).toInt = 1) ∧ ((0 ≤ ar1.toInt ∧ ar1.toInt < D 0) → (g228 0 0).toInt = 0) from (by
                                                            intro u D hu hl hc hb
                                                            have ha : a6 = u := Value.ref.inj (e6.symm.trans hu)
                                                            subst ha
                                                            have hm := hc.1.1
                                                            exact ⟨fun h => (by have ffs : (g228 0 0).toInt = 0 := (congrArg Int32.toInt (by rw [e228]; exact x_up2_at _ _ _ _ : g228 0 0 = 0)).trans (by decide); omega), fun h => (by have ffs : (g228 0 0).toInt = 0 := (congrArg Int32.toInt (by rw [e228]; exact x_up2_at _ _ _ _ : g228 0 0 = 0)).trans (by decide); omega)⟩))⟩⟩
                · have l229 : 4 ≤ z222.toInt := t_lel (t_nlt h223) (by decide : (4:Int) ≤ (4:Int32).toInt)
                  refine ev_incv f_J6_numberOfLeadingZeros_0f7a4 (nx := 69) (c := -2) (w := 17) (lo' := [(1, .int 17), (0, .int z222)]) rfl rfl (by decide) (by decide) rfl rfl rfl ?_
                  refine ev_loc f_J6_numberOfLeadingZeros_0f7a4 (nx := 70) rfl rfl rfl rfl ?_
                  refine ev_ic f_J6_numberOfLeadingZeros_0f7a4 (nx := 71) (v := 2) rfl (by decide) rfl ?_
                  refine ev_anyI f_J6_numberOfLeadingZeros_0f7a4 (nx := 72) rfl rfl rfl rfl (fun z230 => ?_)
                  refine ev_loc f_J6_numberOfLeadingZeros_0f7a4 (nx := 73) (lo' := [(0, .int z230), (1, .int 17)]) rfl rfl rfl rfl ?_
                  refine ev_loc f_J6_numberOfLeadingZeros_0f7a4 (nx := 74) rfl rfl rfl rfl ?_
                  refine ev_loc f_J6_numberOfLeadingZeros_0f7a4 (nx := 75) rfl rfl rfl rfl ?_
                  refine ev_ic f_J6_numberOfLeadingZeros_0f7a4 (nx := 76) (v := 1) rfl (by decide) rfl ?_
                  refine ev_anyI f_J6_numberOfLeadingZeros_0f7a4 (nx := 77) rfl rfl rfl rfl (fun z231 => ?_)
                  refine ev_anyI f_J6_numberOfLeadingZeros_0f7a4 (nx := 78) rfl rfl rfl rfl (fun z232 => ?_)
                  refine ev_retK1 f_J6_numberOfLeadingZeros_0f7a4 rfl rfl rfl ?_
                  refine ev_retK1 f_J13_numberOfLeadingZeros_95d88 rfl rfl rfl ?_
                  refine ev_anyI f_X11_lasts (nx := 29) rfl rfl rfl rfl (fun z233 => ?_)
                  refine ev_inV2 f_X11_lasts (nx := 32) (lo2 := [(0, .ref 0), (1, .int z233)]) rfl rfl rfl rfl f_X11_answer (hI.wf.s rfl) rfl rfl rfl rfl rfl ?_
                  refine ev_loc f_X11_answer (nx := 1) rfl rfl rfl rfl ?_
                  refine ev_ic f_X11_answer (nx := 2) (v := 0) rfl (by decide) rfl ?_
                  refine ev_putIT f_X11_answer (nx := 5) rfl (hI.wf.s rfl) rfl rfl rfl (hI.put0 (hI.wf.s rfl) rfl rfl) (hX.upI rfl) (fun g234 e234 hI hX => ?_)
                  refine ev_loc f_X11_answer (nx := 6) rfl rfl rfl rfl ?_
                  refine ev_retK1 f_X11_answer rfl rfl rfl ?_
                  exact ev_ret f_X11_lasts rfl rfl rfl ⟨_, _, _, rfl, hI, hX, ⟨_, rfl, (t_lo z233), (t_hi z233), (show ∀ (u : Nat) (D : s_D), gr 0 6 = .ref u → t_VL gr u → t_CV gi gl u D → t_Cb D → (¬ (0 ≤ ar1.toInt ∧ ar1.toInt < D 0) → (g234 0 0).toInt = 1) ∧ ((0 ≤ ar1.toInt ∧ ar1.toInt < D 0) → (g234 0 0).toInt = 0) from (by
                                                            intro u D hu hl hc hb
                                                            have ha : a6 = u := Value.ref.inj (e6.symm.trans hu)
                                                            subst ha
                                                            have hm := hc.1.1
                                                            exact ⟨fun h => (by have ffs : (g234 0 0).toInt = 0 := (congrArg Int32.toInt (by rw [e234]; exact x_up2_at _ _ _ _ : g234 0 0 = 0)).trans (by decide); omega), fun h => (by have ffs : (g234 0 0).toInt = 0 := (congrArg Int32.toInt (by rw [e234]; exact x_up2_at _ _ _ _ : g234 0 0 = 0)).trans (by decide); omega)⟩))⟩⟩
          · have l235 : 65536 ≤ z16.toInt := t_lel (t_nlt h173) (by decide : (65536:Int) ≤ (65536:Int32).toInt)
            refine ev_incv f_J6_numberOfLeadingZeros_0f7a4 (nx := 28) (c := -16) (w := 15) (lo' := [(1, .int 15), (0, .int z16)]) rfl rfl (by decide) (by decide) rfl rfl rfl ?_
            refine ev_loc f_J6_numberOfLeadingZeros_0f7a4 (nx := 29) rfl rfl rfl rfl ?_
            refine ev_bp f_J6_numberOfLeadingZeros_0f7a4 (nx := 31) (v := 16) rfl (by decide) rfl ?_
            refine ev_anyI f_J6_numberOfLeadingZeros_0f7a4 (nx := 32) rfl rfl rfl rfl (fun z236 => ?_)
            refine ev_loc f_J6_numberOfLeadingZeros_0f7a4 (nx := 33) (lo' := [(0, .int z236), (1, .int 15)]) rfl rfl rfl rfl ?_
            refine ev_loc f_J6_numberOfLeadingZeros_0f7a4 (nx := 34) rfl rfl rfl rfl ?_
            refine ev_sp f_J6_numberOfLeadingZeros_0f7a4 (nx := 37) (v := 256) rfl (by decide) rfl ?_
            refine ev_if f_J6_numberOfLeadingZeros_0f7a4 (t1 := 48) (t2 := 40) rfl rfl rfl (fun h237 => ?_) (fun h237 => ?_)
            · have u238 : z236.toInt ≤ 255 := t_ltu h237 (by decide : (256:Int32).toInt ≤ (256:Int)) rfl
              refine ev_loc f_J6_numberOfLeadingZeros_0f7a4 (nx := 49) rfl rfl rfl rfl ?_
              refine ev_bp f_J6_numberOfLeadingZeros_0f7a4 (nx := 51) (v := 16) rfl (by decide) rfl ?_
              refine ev_if f_J6_numberOfLeadingZeros_0f7a4 (t1 := 61) (t2 := 54) rfl rfl rfl (fun h239 => ?_) (fun h239 => ?_)
              · have u240 : z236.toInt ≤ 15 := t_ltu h239 (by decide : (16:Int32).toInt ≤ (16:Int)) rfl
                refine ev_loc f_J6_numberOfLeadingZeros_0f7a4 (nx := 62) rfl rfl rfl rfl ?_
                refine ev_ic f_J6_numberOfLeadingZeros_0f7a4 (nx := 63) (v := 4) rfl (by decide) rfl ?_
                refine ev_if f_J6_numberOfLeadingZeros_0f7a4 (t1 := 73) (t2 := 66) rfl rfl rfl (fun h241 => ?_) (fun h241 => ?_)
                · have u242 : z236.toInt ≤ 3 := t_ltu h241 (by decide : (4:Int32).toInt ≤ (4:Int)) rfl
                  refine ev_loc f_J6_numberOfLeadingZeros_0f7a4 (nx := 74) rfl rfl rfl rfl ?_
                  refine ev_loc f_J6_numberOfLeadingZeros_0f7a4 (nx := 75) rfl rfl rfl rfl ?_
                  refine ev_ic f_J6_numberOfLeadingZeros_0f7a4 (nx := 76) (v := 1) rfl (by decide) rfl ?_
                  refine ev_anyI f_J6_numberOfLeadingZeros_0f7a4 (nx := 77) rfl rfl rfl rfl (fun z243 => ?_)
                  refine ev_anyI f_J6_numberOfLeadingZeros_0f7a4 (nx := 78) rfl rfl rfl rfl (fun z244 => ?_)
                  refine ev_retK1 f_J6_numberOfLeadingZeros_0f7a4 rfl rfl rfl ?_
                  refine ev_retK1 f_J13_numberOfLeadingZeros_95d88 rfl rfl rfl ?_
                  refine ev_anyI f_X11_lasts (nx := 29) rfl rfl rfl rfl (fun z245 => ?_)
                  refine ev_inV2 f_X11_lasts (nx := 32) (lo2 := [(0, .ref 0), (1, .int z245)]) rfl rfl rfl rfl f_X11_answer (hI.wf.s rfl) rfl rfl rfl rfl rfl ?_
                  refine ev_loc f_X11_answer (nx := 1) rfl rfl rfl rfl ?_
                  refine ev_ic f_X11_answer (nx := 2) (v := 0) rfl (by decide) rfl ?_
                  refine ev_putIT f_X11_answer (nx := 5) rfl (hI.wf.s rfl) rfl rfl rfl (hI.put0 (hI.wf.s rfl) rfl rfl) (hX.upI rfl) (fun g246 e246 hI hX => ?_)
                  refine ev_loc f_X11_answer (nx := 6) rfl rfl rfl rfl ?_
                  refine ev_retK1 f_X11_answer rfl rfl rfl ?_
                  exact ev_ret f_X11_lasts rfl rfl rfl ⟨_, _, _, rfl, hI, hX, ⟨_, rfl, (t_lo z245), (t_hi z245), (show ∀ (u : Nat) (D : s_D), gr 0 6 = .ref u → t_VL gr u → t_CV gi gl u D → t_Cb D → (¬ (0 ≤ ar1.toInt ∧ ar1.toInt < D 0) → (g246 0 0).toInt = 1) ∧ ((0 ≤ ar1.toInt ∧ ar1.toInt < D 0) → (g246 0 0).toInt = 0) from (by
                                                            intro u D hu hl hc hb
                                                            have ha : a6 = u := Value.ref.inj (e6.symm.trans hu)
                                                            subst ha
                                                            have hm := hc.1.1
                                                            exact ⟨fun h => (by have ffs : (g246 0 0).toInt = 0 := (congrArg Int32.toInt (by rw [e246]; exact x_up2_at _ _ _ _ : g246 0 0 = 0)).trans (by decide); omega), fun h => (by have ffs : (g246 0 0).toInt = 0 := (congrArg Int32.toInt (by rw [e246]; exact x_up2_at _ _ _ _ : g246 0 0 = 0)).trans (by decide); omega)⟩))⟩⟩
                · have l247 : 4 ≤ z236.toInt := t_lel (t_nlt h241) (by decide : (4:Int) ≤ (4:Int32).toInt)
                  refine ev_incv f_J6_numberOfLeadingZeros_0f7a4 (nx := 69) (c := -2) (w := 13) (lo' := [(1, .int 13), (0, .int z236)]) rfl rfl (by decide) (by decide) rfl rfl rfl ?_
                  refine ev_loc f_J6_numberOfLeadingZeros_0f7a4 (nx := 70) rfl rfl rfl rfl ?_
                  refine ev_ic f_J6_numberOfLeadingZeros_0f7a4 (nx := 71) (v := 2) rfl (by decide) rfl ?_
                  refine ev_anyI f_J6_numberOfLeadingZeros_0f7a4 (nx := 72) rfl rfl rfl rfl (fun z248 => ?_)
                  refine ev_loc f_J6_numberOfLeadingZeros_0f7a4 (nx := 73) (lo' := [(0, .int z248), (1, .int 13)]) rfl rfl rfl rfl ?_
                  refine ev_loc f_J6_numberOfLeadingZeros_0f7a4 (nx := 74) rfl rfl rfl rfl ?_
                  refine ev_loc f_J6_numberOfLeadingZeros_0f7a4 (nx := 75) rfl rfl rfl rfl ?_
                  refine ev_ic f_J6_numberOfLeadingZeros_0f7a4 (nx := 76) (v := 1) rfl (by decide) rfl ?_
                  refine ev_anyI f_J6_numberOfLeadingZeros_0f7a4 (nx := 77) rfl rfl rfl rfl (fun z249 => ?_)
                  refine ev_anyI f_J6_numberOfLeadingZeros_0f7a4 (nx := 78) rfl rfl rfl rfl (fun z250 => ?_)
                  refine ev_retK1 f_J6_numberOfLeadingZeros_0f7a4 rfl rfl rfl ?_
                  refine ev_retK1 f_J13_numberOfLeadingZeros_95d88 rfl rfl rfl ?_
                  refine ev_anyI f_X11_lasts (nx := 29) rfl rfl rfl rfl (fun z251 => ?_)
                  refine ev_inV2 f_X11_lasts (nx := 32) (lo2 := [(0, .ref 0), (1, .int z251)]) rfl rfl rfl rfl f_X11_answer (hI.wf.s rfl) rfl rfl rfl rfl rfl ?_
                  refine ev_loc f_X11_answer (nx := 1) rfl rfl rfl rfl ?_
                  refine ev_ic f_X11_answer (nx := 2) (v := 0) rfl (by decide) rfl ?_
                  refine ev_putIT f_X11_answer (nx := 5) rfl (hI.wf.s rfl) rfl rfl rfl (hI.put0 (hI.wf.s rfl) rfl rfl) (hX.upI rfl) (fun g252 e252 hI hX => ?_)
                  refine ev_loc f_X11_answer (nx := 6) rfl rfl rfl rfl ?_
                  refine ev_retK1 f_X11_answer rfl rfl rfl ?_
                  exact ev_ret f_X11_lasts rfl rfl rfl ⟨_, _, _, rfl, hI, hX, ⟨_, rfl, (t_lo z251), (t_hi z251), (show ∀ (u : Nat) (D : s_D), gr 0 6 = .ref u → t_VL gr u → t_CV gi gl u D → t_Cb D → (¬ (0 ≤ ar1.toInt ∧ ar1.toInt < D 0) → (g252 0 0).toInt = 1) ∧ ((0 ≤ ar1.toInt ∧ ar1.toInt < D 0) → (g252 0 0).toInt = 0) from (by
                                                            intro u D hu hl hc hb
                                                            have ha : a6 = u := Value.ref.inj (e6.symm.trans hu)
                                                            subst ha
                                                            have hm := hc.1.1
                                                            exact ⟨fun h => (by have ffs : (g252 0 0).toInt = 0 := (congrArg Int32.toInt (by rw [e252]; exact x_up2_at _ _ _ _ : g252 0 0 = 0)).trans (by decide); omega), fun h => (by have ffs : (g252 0 0).toInt = 0 := (congrArg Int32.toInt (by rw [e252]; exact x_up2_at _ _ _ _ : g252 0 0 = 0)).trans (by decide); omega)⟩))⟩⟩
              · have l253 : 16 ≤ z236.toInt := t_lel (t_nlt h239) (by decide : (16:Int) ≤ (16:Int32).toInt)
                refine ev_incv f_J6_numberOfLeadingZeros_0f7a4 (nx := 57) (c := -4) (w := 11) (lo' := [(1, .int 11), (0, .int z236)]) rfl rfl (by decide) (by decide) rfl rfl rfl ?_
                refine ev_loc f_J6_numberOfLeadingZeros_0f7a4 (nx := 58) rfl rfl rfl rfl ?_
                refine ev_ic f_J6_numberOfLeadingZeros_0f7a4 (nx := 59) (v := 4) rfl (by decide) rfl ?_
                refine ev_anyI f_J6_numberOfLeadingZeros_0f7a4 (nx := 60) rfl rfl rfl rfl (fun z254 => ?_)
                refine ev_loc f_J6_numberOfLeadingZeros_0f7a4 (nx := 61) (lo' := [(0, .int z254), (1, .int 11)]) rfl rfl rfl rfl ?_
                refine ev_loc f_J6_numberOfLeadingZeros_0f7a4 (nx := 62) rfl rfl rfl rfl ?_
                refine ev_ic f_J6_numberOfLeadingZeros_0f7a4 (nx := 63) (v := 4) rfl (by decide) rfl ?_
                refine ev_if f_J6_numberOfLeadingZeros_0f7a4 (t1 := 73) (t2 := 66) rfl rfl rfl (fun h255 => ?_) (fun h255 => ?_)
                · have u256 : z254.toInt ≤ 3 := t_ltu h255 (by decide : (4:Int32).toInt ≤ (4:Int)) rfl
                  refine ev_loc f_J6_numberOfLeadingZeros_0f7a4 (nx := 74) rfl rfl rfl rfl ?_
                  refine ev_loc f_J6_numberOfLeadingZeros_0f7a4 (nx := 75) rfl rfl rfl rfl ?_
                  refine ev_ic f_J6_numberOfLeadingZeros_0f7a4 (nx := 76) (v := 1) rfl (by decide) rfl ?_
                  refine ev_anyI f_J6_numberOfLeadingZeros_0f7a4 (nx := 77) rfl rfl rfl rfl (fun z257 => ?_)
                  refine ev_anyI f_J6_numberOfLeadingZeros_0f7a4 (nx := 78) rfl rfl rfl rfl (fun z258 => ?_)
                  refine ev_retK1 f_J6_numberOfLeadingZeros_0f7a4 rfl rfl rfl ?_
                  refine ev_retK1 f_J13_numberOfLeadingZeros_95d88 rfl rfl rfl ?_
                  refine ev_anyI f_X11_lasts (nx := 29) rfl rfl rfl rfl (fun z259 => ?_)
                  refine ev_inV2 f_X11_lasts (nx := 32) (lo2 := [(0, .ref 0), (1, .int z259)]) rfl rfl rfl rfl f_X11_answer (hI.wf.s rfl) rfl rfl rfl rfl rfl ?_
                  refine ev_loc f_X11_answer (nx := 1) rfl rfl rfl rfl ?_
                  refine ev_ic f_X11_answer (nx := 2) (v := 0) rfl (by decide) rfl ?_
                  refine ev_putIT f_X11_answer (nx := 5) rfl (hI.wf.s rfl) rfl rfl rfl (hI.put0 (hI.wf.s rfl) rfl rfl) (hX.upI rfl) (fun g260 e260 hI hX => ?_)
                  refine ev_loc f_X11_answer (nx := 6) rfl rfl rfl rfl ?_
                  refine ev_retK1 f_X11_answer rfl rfl rfl ?_
                  exact ev_ret f_X11_lasts rfl rfl rfl ⟨_, _, _, rfl, hI, hX, ⟨_, rfl, (t_lo z259), (t_hi z259), (show ∀ (u : Nat) (D : s_D), gr 0 6 = .ref u → t_VL gr u → t_CV gi gl u D → t_Cb D → (¬ (0 ≤ ar1.toInt ∧ ar1.toInt < D 0) → (g260 0 0).toInt = 1) ∧ ((0 ≤ ar1.toInt ∧ ar1.toInt < D 0) → (g260 0 0).toInt = 0) from (by
                                                            intro u D hu hl hc hb
                                                            have ha : a6 = u := Value.ref.inj (e6.symm.trans hu)
                                                            subst ha
                                                            have hm := hc.1.1
                                                            exact ⟨fun h => (by have ffs : (g260 0 0).toInt = 0 := (congrArg Int32.toInt (by rw [e260]; exact x_up2_at _ _ _ _ : g260 0 0 = 0)).trans (by decide); omega), fun h => (by have ffs : (g260 0 0).toInt = 0 := (congrArg Int32.toInt (by rw [e260]; exact x_up2_at _ _ _ _ : g260 0 0 = 0)).trans (by decide); omega)⟩))⟩⟩
                · have l261 : 4 ≤ z254.toInt := t_lel (t_nlt h255) (by decide : (4:Int) ≤ (4:Int32).toInt)
                  refine ev_incv f_J6_numberOfLeadingZeros_0f7a4 (nx := 69) (c := -2) (w := 9) (lo' := [(1, .int 9), (0, .int z254)]) rfl rfl (by decide) (by decide) rfl rfl rfl ?_
                  refine ev_loc f_J6_numberOfLeadingZeros_0f7a4 (nx := 70) rfl rfl rfl rfl ?_
                  refine ev_ic f_J6_numberOfLeadingZeros_0f7a4 (nx := 71) (v := 2) rfl (by decide) rfl ?_
                  refine ev_anyI f_J6_numberOfLeadingZeros_0f7a4 (nx := 72) rfl rfl rfl rfl (fun z262 => ?_)
                  refine ev_loc f_J6_numberOfLeadingZeros_0f7a4 (nx := 73) (lo' := [(0, .int z262), (1, .int 9)]) rfl rfl rfl rfl ?_
                  refine ev_loc f_J6_numberOfLeadingZeros_0f7a4 (nx := 74) rfl rfl rfl rfl ?_
                  refine ev_loc f_J6_numberOfLeadingZeros_0f7a4 (nx := 75) rfl rfl rfl rfl ?_
                  refine ev_ic f_J6_numberOfLeadingZeros_0f7a4 (nx := 76) (v := 1) rfl (by decide) rfl ?_
                  refine ev_anyI f_J6_numberOfLeadingZeros_0f7a4 (nx := 77) rfl rfl rfl rfl (fun z263 => ?_)
                  refine ev_anyI f_J6_numberOfLeadingZeros_0f7a4 (nx := 78) rfl rfl rfl rfl (fun z264 => ?_)
                  refine ev_retK1 f_J6_numberOfLeadingZeros_0f7a4 rfl rfl rfl ?_
                  refine ev_retK1 f_J13_numberOfLeadingZeros_95d88 rfl rfl rfl ?_
                  refine ev_anyI f_X11_lasts (nx := 29) rfl rfl rfl rfl (fun z265 => ?_)
                  refine ev_inV2 f_X11_lasts (nx := 32) (lo2 := [(0, .ref 0), (1, .int z265)]) rfl rfl rfl rfl f_X11_answer (hI.wf.s rfl) rfl rfl rfl rfl rfl ?_
                  refine ev_loc f_X11_answer (nx := 1) rfl rfl rfl rfl ?_
                  refine ev_ic f_X11_answer (nx := 2) (v := 0) rfl (by decide) rfl ?_
                  refine ev_putIT f_X11_answer (nx := 5) rfl (hI.wf.s rfl) rfl rfl rfl (hI.put0 (hI.wf.s rfl) rfl rfl) (hX.upI rfl) (fun g266 e266 hI hX => ?_)
                  refine ev_loc f_X11_answer (nx := 6) rfl rfl rfl rfl ?_
                  refine ev_retK1 f_X11_answer rfl rfl rfl ?_
                  exact ev_ret f_X11_lasts rfl rfl rfl ⟨_, _, _, rfl, hI, hX, ⟨_, rfl, (t_lo z265), (t_hi z265), (show ∀ (u : Nat) (D : s_D), gr 0 6 = .ref u → t_VL gr u → t_CV gi gl u D → t_Cb D → (¬ (0 ≤ ar1.toInt ∧ ar1.toInt < D 0) → (g266 0 0).toInt = 1) ∧ ((0 ≤ ar1.toInt ∧ ar1.toInt < D 0) → (g266 0 0).toInt = 0) from (by
                                                            intro u D hu hl hc hb
                                                            have ha : a6 = u := Value.ref.inj (e6.symm.trans hu)
                                                            subst ha
                                                            have hm := hc.1.1
                                                            exact ⟨fun h => (by have ffs : (g266 0 0).toInt = 0 := (congrArg Int32.toInt (by rw [e266]; exact x_up2_at _ _ _ _ : g266 0 0 = 0)).trans (by decide); omega), fun h => (by have ffs : (g266 0 0).toInt = 0 := (congrArg Int32.toInt (by rw [e266]; exact x_up2_at _ _ _ _ : g266 0 0 = 0)).trans (by decide); omega)⟩))⟩⟩
            · have l267 : 256 ≤ z236.toInt := t_lel (t_nlt h237) (by decide : (256:Int) ≤ (256:Int32).toInt)
              refine ev_incv f_J6_numberOfLeadingZeros_0f7a4 (nx := 43) (c := -8) (w := 7) (lo' := [(1, .int 7), (0, .int z236)]) rfl rfl (by decide) (by decide) rfl rfl rfl ?_
              refine ev_loc f_J6_numberOfLeadingZeros_0f7a4 (nx := 44) rfl rfl rfl rfl ?_
              refine ev_bp f_J6_numberOfLeadingZeros_0f7a4 (nx := 46) (v := 8) rfl (by decide) rfl ?_
              refine ev_anyI f_J6_numberOfLeadingZeros_0f7a4 (nx := 47) rfl rfl rfl rfl (fun z268 => ?_)
              refine ev_loc f_J6_numberOfLeadingZeros_0f7a4 (nx := 48) (lo' := [(0, .int z268), (1, .int 7)]) rfl rfl rfl rfl ?_
              refine ev_loc f_J6_numberOfLeadingZeros_0f7a4 (nx := 49) rfl rfl rfl rfl ?_
              refine ev_bp f_J6_numberOfLeadingZeros_0f7a4 (nx := 51) (v := 16) rfl (by decide) rfl ?_
              refine ev_if f_J6_numberOfLeadingZeros_0f7a4 (t1 := 61) (t2 := 54) rfl rfl rfl (fun h269 => ?_) (fun h269 => ?_)
              · have u270 : z268.toInt ≤ 15 := t_ltu h269 (by decide : (16:Int32).toInt ≤ (16:Int)) rfl
                refine ev_loc f_J6_numberOfLeadingZeros_0f7a4 (nx := 62) rfl rfl rfl rfl ?_
                refine ev_ic f_J6_numberOfLeadingZeros_0f7a4 (nx := 63) (v := 4) rfl (by decide) rfl ?_
                refine ev_if f_J6_numberOfLeadingZeros_0f7a4 (t1 := 73) (t2 := 66) rfl rfl rfl (fun h271 => ?_) (fun h271 => ?_)
                · have u272 : z268.toInt ≤ 3 := t_ltu h271 (by decide : (4:Int32).toInt ≤ (4:Int)) rfl
                  refine ev_loc f_J6_numberOfLeadingZeros_0f7a4 (nx := 74) rfl rfl rfl rfl ?_
                  refine ev_loc f_J6_numberOfLeadingZeros_0f7a4 (nx := 75) rfl rfl rfl rfl ?_
                  refine ev_ic f_J6_numberOfLeadingZeros_0f7a4 (nx := 76) (v := 1) rfl (by decide) rfl ?_
                  refine ev_anyI f_J6_numberOfLeadingZeros_0f7a4 (nx := 77) rfl rfl rfl rfl (fun z273 => ?_)
                  refine ev_anyI f_J6_numberOfLeadingZeros_0f7a4 (nx := 78) rfl rfl rfl rfl (fun z274 => ?_)
                  refine ev_retK1 f_J6_numberOfLeadingZeros_0f7a4 rfl rfl rfl ?_
                  refine ev_retK1 f_J13_numberOfLeadingZeros_95d88 rfl rfl rfl ?_
                  refine ev_anyI f_X11_lasts (nx := 29) rfl rfl rfl rfl (fun z275 => ?_)
                  refine ev_inV2 f_X11_lasts (nx := 32) (lo2 := [(0, .ref 0), (1, .int z275)]) rfl rfl rfl rfl f_X11_answer (hI.wf.s rfl) rfl rfl rfl rfl rfl ?_
                  refine ev_loc f_X11_answer (nx := 1) rfl rfl rfl rfl ?_
                  refine ev_ic f_X11_answer (nx := 2) (v := 0) rfl (by decide) rfl ?_
                  refine ev_putIT f_X11_answer (nx := 5) rfl (hI.wf.s rfl) rfl rfl rfl (hI.put0 (hI.wf.s rfl) rfl rfl) (hX.upI rfl) (fun g276 e276 hI hX => ?_)
                  refine ev_loc f_X11_answer (nx := 6) rfl rfl rfl rfl ?_
                  refine ev_retK1 f_X11_answer rfl rfl rfl ?_
                  exact ev_ret f_X11_lasts rfl rfl rfl ⟨_, _, _, rfl, hI, hX, ⟨_, rfl, (t_lo z275), (t_hi z275), (show ∀ (u : Nat) (D : s_D), gr 0 6 = .ref u → t_VL gr u → t_CV gi gl u D → t_Cb D → (¬ (0 ≤ ar1.toInt ∧ ar1.toInt < D 0) → (g276 0 0).toInt = 1) ∧ ((0 ≤ ar1.toInt ∧ ar1.toInt < D 0) → (g276 0 0).toInt = 0) from (by
                                                            intro u D hu hl hc hb
                                                            have ha : a6 = u := Value.ref.inj (e6.symm.trans hu)
                                                            subst ha
                                                            have hm := hc.1.1
                                                            exact ⟨fun h => (by have ffs : (g276 0 0).toInt = 0 := (congrArg Int32.toInt (by rw [e276]; exact x_up2_at _ _ _ _ : g276 0 0 = 0)).trans (by decide); omega), fun h => (by have ffs : (g276 0 0).toInt = 0 := (congrArg Int32.toInt (by rw [e276]; exact x_up2_at _ _ _ _ : g276 0 0 = 0)).trans (by decide); omega)⟩))⟩⟩
                · have l277 : 4 ≤ z268.toInt := t_lel (t_nlt h271) (by decide : (4:Int) ≤ (4:Int32).toInt)
                  refine ev_incv f_J6_numberOfLeadingZeros_0f7a4 (nx := 69) (c := -2) (w := 5) (lo' := [(1, .int 5), (0, .int z268)]) rfl rfl (by decide) (by decide) rfl rfl rfl ?_
                  refine ev_loc f_J6_numberOfLeadingZeros_0f7a4 (nx := 70) rfl rfl rfl rfl ?_
                  refine ev_ic f_J6_numberOfLeadingZeros_0f7a4 (nx := 71) (v := 2) rfl (by decide) rfl ?_
                  refine ev_anyI f_J6_numberOfLeadingZeros_0f7a4 (nx := 72) rfl rfl rfl rfl (fun z278 => ?_)
                  refine ev_loc f_J6_numberOfLeadingZeros_0f7a4 (nx := 73) (lo' := [(0, .int z278), (1, .int 5)]) rfl rfl rfl rfl ?_
                  refine ev_loc f_J6_numberOfLeadingZeros_0f7a4 (nx := 74) rfl rfl rfl rfl ?_
                  refine ev_loc f_J6_numberOfLeadingZeros_0f7a4 (nx := 75) rfl rfl rfl rfl ?_
                  refine ev_ic f_J6_numberOfLeadingZeros_0f7a4 (nx := 76) (v := 1) rfl (by decide) rfl ?_
                  refine ev_anyI f_J6_numberOfLeadingZeros_0f7a4 (nx := 77) rfl rfl rfl rfl (fun z279 => ?_)
                  refine ev_anyI f_J6_numberOfLeadingZeros_0f7a4 (nx := 78) rfl rfl rfl rfl (fun z280 => ?_)
                  refine ev_retK1 f_J6_numberOfLeadingZeros_0f7a4 rfl rfl rfl ?_
                  refine ev_retK1 f_J13_numberOfLeadingZeros_95d88 rfl rfl rfl ?_
                  refine ev_anyI f_X11_lasts (nx := 29) rfl rfl rfl rfl (fun z281 => ?_)
                  refine ev_inV2 f_X11_lasts (nx := 32) (lo2 := [(0, .ref 0), (1, .int z281)]) rfl rfl rfl rfl f_X11_answer (hI.wf.s rfl) rfl rfl rfl rfl rfl ?_
                  refine ev_loc f_X11_answer (nx := 1) rfl rfl rfl rfl ?_
                  refine ev_ic f_X11_answer (nx := 2) (v := 0) rfl (by decide) rfl ?_
                  refine ev_putIT f_X11_answer (nx := 5) rfl (hI.wf.s rfl) rfl rfl rfl (hI.put0 (hI.wf.s rfl) rfl rfl) (hX.upI rfl) (fun g282 e282 hI hX => ?_)
                  refine ev_loc f_X11_answer (nx := 6) rfl rfl rfl rfl ?_
                  refine ev_retK1 f_X11_answer rfl rfl rfl ?_
                  exact ev_ret f_X11_lasts rfl rfl rfl ⟨_, _, _, rfl, hI, hX, ⟨_, rfl, (t_lo z281), (t_hi z281), (show ∀ (u : Nat) (D : s_D), gr 0 6 = .ref u → t_VL gr u → t_CV gi gl u D → t_Cb D → (¬ (0 ≤ ar1.toInt ∧ ar1.toInt < D 0) → (g282 0 0).toInt = 1) ∧ ((0 ≤ ar1.toInt ∧ ar1.toInt < D 0) → (g282 0 0).toInt = 0) from (by
                                                            intro u D hu hl hc hb
                                                            have ha : a6 = u := Value.ref.inj (e6.symm.trans hu)
                                                            subst ha
                                                            have hm := hc.1.1
                                                            exact ⟨fun h => (by have ffs : (g282 0 0).toInt = 0 := (congrArg Int32.toInt (by rw [e282]; exact x_up2_at _ _ _ _ : g282 0 0 = 0)).trans (by decide); omega), fun h => (by have ffs : (g282 0 0).toInt = 0 := (congrArg Int32.toInt (by rw [e282]; exact x_up2_at _ _ _ _ : g282 0 0 = 0)).trans (by decide); omega)⟩))⟩⟩
              · have l283 : 16 ≤ z268.toInt := t_lel (t_nlt h269) (by decide : (16:Int) ≤ (16:Int32).toInt)
                refine ev_incv f_J6_numberOfLeadingZeros_0f7a4 (nx := 57) (c := -4) (w := 3) (lo' := [(1, .int 3), (0, .int z268)]) rfl rfl (by decide) (by decide) rfl rfl rfl ?_
                refine ev_loc f_J6_numberOfLeadingZeros_0f7a4 (nx := 58) rfl rfl rfl rfl ?_
                refine ev_ic f_J6_numberOfLeadingZeros_0f7a4 (nx := 59) (v := 4) rfl (by decide) rfl ?_
                refine ev_anyI f_J6_numberOfLeadingZeros_0f7a4 (nx := 60) rfl rfl rfl rfl (fun z284 => ?_)
                refine ev_loc f_J6_numberOfLeadingZeros_0f7a4 (nx := 61) (lo' := [(0, .int z284), (1, .int 3)]) rfl rfl rfl rfl ?_
                refine ev_loc f_J6_numberOfLeadingZeros_0f7a4 (nx := 62) rfl rfl rfl rfl ?_
                refine ev_ic f_J6_numberOfLeadingZeros_0f7a4 (nx := 63) (v := 4) rfl (by decide) rfl ?_
                refine ev_if f_J6_numberOfLeadingZeros_0f7a4 (t1 := 73) (t2 := 66) rfl rfl rfl (fun h285 => ?_) (fun h285 => ?_)
                · have u286 : z284.toInt ≤ 3 := t_ltu h285 (by decide : (4:Int32).toInt ≤ (4:Int)) rfl
                  refine ev_loc f_J6_numberOfLeadingZeros_0f7a4 (nx := 74) rfl rfl rfl rfl ?_
                  refine ev_loc f_J6_numberOfLeadingZeros_0f7a4 (nx := 75) rfl rfl rfl rfl ?_
                  refine ev_ic f_J6_numberOfLeadingZeros_0f7a4 (nx := 76) (v := 1) rfl (by decide) rfl ?_
                  refine ev_anyI f_J6_numberOfLeadingZeros_0f7a4 (nx := 77) rfl rfl rfl rfl (fun z287 => ?_)
                  refine ev_anyI f_J6_numberOfLeadingZeros_0f7a4 (nx := 78) rfl rfl rfl rfl (fun z288 => ?_)
                  refine ev_retK1 f_J6_numberOfLeadingZeros_0f7a4 rfl rfl rfl ?_
                  refine ev_retK1 f_J13_numberOfLeadingZeros_95d88 rfl rfl rfl ?_
                  refine ev_anyI f_X11_lasts (nx := 29) rfl rfl rfl rfl (fun z289 => ?_)
                  refine ev_inV2 f_X11_lasts (nx := 32) (lo2 := [(0, .ref 0), (1, .int z289)]) rfl rfl rfl rfl f_X11_answer (hI.wf.s rfl) rfl rfl rfl rfl rfl ?_
                  refine ev_loc f_X11_answer (nx := 1) rfl rfl rfl rfl ?_
                  refine ev_ic f_X11_answer (nx := 2) (v := 0) rfl (by decide) rfl ?_
                  refine ev_putIT f_X11_answer (nx := 5) rfl (hI.wf.s rfl) rfl rfl rfl (hI.put0 (hI.wf.s rfl) rfl rfl) (hX.upI rfl) (fun g290 e290 hI hX => ?_)
                  refine ev_loc f_X11_answer (nx := 6) rfl rfl rfl rfl ?_
                  refine ev_retK1 f_X11_answer rfl rfl rfl ?_
                  exact ev_ret f_X11_lasts rfl rfl rfl ⟨_, _, _, rfl, hI, hX, ⟨_, rfl, (t_lo z289), (t_hi z289), (show ∀ (u : Nat) (D : s_D), gr 0 6 = .ref u → t_VL gr u → t_CV gi gl u D → t_Cb D → (¬ (0 ≤ ar1.toInt ∧ ar1.toInt < D 0) → (g290 0 0).toInt = 1) ∧ ((0 ≤ ar1.toInt ∧ ar1.toInt < D 0) → (g290 0 0).toInt = 0) from (by
                                                            intro u D hu hl hc hb
                                                            have ha : a6 = u := Value.ref.inj (e6.symm.trans hu)
                                                            subst ha
                                                            have hm := hc.1.1
                                                            exact ⟨fun h => (by have ffs : (g290 0 0).toInt = 0 := (congrArg Int32.toInt (by rw [e290]; exact x_up2_at _ _ _ _ : g290 0 0 = 0)).trans (by decide); omega), fun h => (by have ffs : (g290 0 0).toInt = 0 := (congrArg Int32.toInt (by rw [e290]; exact x_up2_at _ _ _ _ : g290 0 0 = 0)).trans (by decide); omega)⟩))⟩⟩
                · have l291 : 4 ≤ z284.toInt := t_lel (t_nlt h285) (by decide : (4:Int) ≤ (4:Int32).toInt)
                  refine ev_incv f_J6_numberOfLeadingZeros_0f7a4 (nx := 69) (c := -2) (w := 1) (lo' := [(1, .int 1), (0, .int z284)]) rfl rfl (by decide) (by decide) rfl rfl rfl ?_
                  refine ev_loc f_J6_numberOfLeadingZeros_0f7a4 (nx := 70) rfl rfl rfl rfl ?_
                  refine ev_ic f_J6_numberOfLeadingZeros_0f7a4 (nx := 71) (v := 2) rfl (by decide) rfl ?_
                  refine ev_anyI f_J6_numberOfLeadingZeros_0f7a4 (nx := 72) rfl rfl rfl rfl (fun z292 => ?_)
                  refine ev_loc f_J6_numberOfLeadingZeros_0f7a4 (nx := 73) (lo' := [(0, .int z292), (1, .int 1)]) rfl rfl rfl rfl ?_
                  refine ev_loc f_J6_numberOfLeadingZeros_0f7a4 (nx := 74) rfl rfl rfl rfl ?_
                  refine ev_loc f_J6_numberOfLeadingZeros_0f7a4 (nx := 75) rfl rfl rfl rfl ?_
                  refine ev_ic f_J6_numberOfLeadingZeros_0f7a4 (nx := 76) (v := 1) rfl (by decide) rfl ?_
                  refine ev_anyI f_J6_numberOfLeadingZeros_0f7a4 (nx := 77) rfl rfl rfl rfl (fun z293 => ?_)
                  refine ev_anyI f_J6_numberOfLeadingZeros_0f7a4 (nx := 78) rfl rfl rfl rfl (fun z294 => ?_)
                  refine ev_retK1 f_J6_numberOfLeadingZeros_0f7a4 rfl rfl rfl ?_
                  refine ev_retK1 f_J13_numberOfLeadingZeros_95d88 rfl rfl rfl ?_
                  refine ev_anyI f_X11_lasts (nx := 29) rfl rfl rfl rfl (fun z295 => ?_)
                  refine ev_inV2 f_X11_lasts (nx := 32) (lo2 := [(0, .ref 0), (1, .int z295)]) rfl rfl rfl rfl f_X11_answer (hI.wf.s rfl) rfl rfl rfl rfl rfl ?_
                  refine ev_loc f_X11_answer (nx := 1) rfl rfl rfl rfl ?_
                  refine ev_ic f_X11_answer (nx := 2) (v := 0) rfl (by decide) rfl ?_
                  refine ev_putIT f_X11_answer (nx := 5) rfl (hI.wf.s rfl) rfl rfl rfl (hI.put0 (hI.wf.s rfl) rfl rfl) (hX.upI rfl) (fun g296 e296 hI hX => ?_)
                  refine ev_loc f_X11_answer (nx := 6) rfl rfl rfl rfl ?_
                  refine ev_retK1 f_X11_answer rfl rfl rfl ?_
                  exact ev_ret f_X11_lasts rfl rfl rfl ⟨_, _, _, rfl, hI, hX, ⟨_, rfl, (t_lo z295), (t_hi z295), (show ∀ (u : Nat) (D : s_D), gr 0 6 = .ref u → t_VL gr u → t_CV gi gl u D → t_Cb D → (¬ (0 ≤ ar1.toInt ∧ ar1.toInt < D 0) → (g296 0 0).toInt = 1) ∧ ((0 ≤ ar1.toInt ∧ ar1.toInt < D 0) → (g296 0 0).toInt = 0) from (by
                                                            intro u D hu hl hc hb
                                                            have ha : a6 = u := Value.ref.inj (e6.symm.trans hu)
                                                            subst ha
                                                            have hm := hc.1.1
                                                            exact ⟨fun h => (by have ffs : (g296 0 0).toInt = 0 := (congrArg Int32.toInt (by rw [e296]; exact x_up2_at _ _ _ _ : g296 0 0 = 0)).trans (by decide); omega), fun h => (by have ffs : (g296 0 0).toInt = 0 := (congrArg Int32.toInt (by rw [e296]; exact x_up2_at _ _ _ _ : g296 0 0 = 0)).trans (by decide); omega)⟩))⟩⟩
        · have u297 : z16.toInt ≤ 0 := t_leu (t_nlt h171) (by decide : (0:Int32).toInt ≤ (0:Int))
          refine ev_loc f_J6_numberOfLeadingZeros_0f7a4 (nx := 5) rfl rfl rfl rfl ?_
          refine ev_if f_J6_numberOfLeadingZeros_0f7a4 (t1 := 8) (t2 := 13) rfl rfl rfl (fun h298 => ?_) (fun h298 => ?_)
          · have l299 : 0 ≤ z16.toInt := t_eql h298 (by decide : (0:Int) ≤ (0:Int32).toInt)
            refine ev_bp f_J6_numberOfLeadingZeros_0f7a4 (nx := 10) (v := 32) rfl (by decide) rfl ?_
            refine ev_jmp f_J6_numberOfLeadingZeros_0f7a4 (nx := 14) rfl rfl rfl ?_
            refine ev_retK1 f_J6_numberOfLeadingZeros_0f7a4 rfl rfl rfl ?_
            refine ev_retK1 f_J13_numberOfLeadingZeros_95d88 rfl rfl rfl ?_
            refine ev_aluvI f_X11_lasts (nx := 29) (w := 32) rfl rfl rfl (by decide) rfl ?_
            refine ev_inV2 f_X11_lasts (nx := 32) (lo2 := [(0, .ref 0), (1, .int 32)]) rfl rfl rfl rfl f_X11_answer (hI.wf.s rfl) rfl rfl rfl rfl rfl ?_
            refine ev_loc f_X11_answer (nx := 1) rfl rfl rfl rfl ?_
            refine ev_ic f_X11_answer (nx := 2) (v := 0) rfl (by decide) rfl ?_
            refine ev_putIT f_X11_answer (nx := 5) rfl (hI.wf.s rfl) rfl rfl rfl (hI.put0 (hI.wf.s rfl) rfl rfl) (hX.upI rfl) (fun g300 e300 hI hX => ?_)
            refine ev_loc f_X11_answer (nx := 6) rfl rfl rfl rfl ?_
            refine ev_retK1 f_X11_answer rfl rfl rfl ?_
            exact ev_ret f_X11_lasts rfl rfl rfl ⟨_, _, _, rfl, hI, hX, ⟨_, rfl, (Int.le_trans (by decide : ((-2147483648):Int) ≤ 32) (by decide : (32:Int) ≤ (32:Int32).toInt)), (Int.le_trans (by decide : (32:Int32).toInt ≤ (32:Int)) (by decide : (32:Int) ≤ 2147483647)), (show ∀ (u : Nat) (D : s_D), gr 0 6 = .ref u → t_VL gr u → t_CV gi gl u D → t_Cb D → (¬ (0 ≤ ar1.toInt ∧ ar1.toInt < D 0) → (g300 0 0).toInt = 1) ∧ ((0 ≤ ar1.toInt ∧ ar1.toInt < D 0) → (g300 0 0).toInt = 0) from (by
                                                            intro u D hu hl hc hb
                                                            have ha : a6 = u := Value.ref.inj (e6.symm.trans hu)
                                                            subst ha
                                                            have hm := hc.1.1
                                                            exact ⟨fun h => (by have ffs : (g300 0 0).toInt = 0 := (congrArg Int32.toInt (by rw [e300]; exact x_up2_at _ _ _ _ : g300 0 0 = 0)).trans (by decide); omega), fun h => (by have ffs : (g300 0 0).toInt = 0 := (congrArg Int32.toInt (by rw [e300]; exact x_up2_at _ _ _ _ : g300 0 0 = 0)).trans (by decide); omega)⟩))⟩⟩
          · have r301 : z16.toInt ≠ 0 := fun e => h298 (Int32.toInt_inj.mp (e.trans (by decide : (0:Int) = (0 : Int32).toInt)))
            have u302 : z16.toInt ≤ (-1) := t_neu h298 u297 rfl rfl
            refine ev_ic f_J6_numberOfLeadingZeros_0f7a4 (nx := 14) (v := 0) rfl (by decide) rfl ?_
            refine ev_retK1 f_J6_numberOfLeadingZeros_0f7a4 rfl rfl rfl ?_
            refine ev_retK1 f_J13_numberOfLeadingZeros_95d88 rfl rfl rfl ?_
            refine ev_aluvI f_X11_lasts (nx := 29) (w := 64) rfl rfl rfl (by decide) rfl ?_
            refine ev_inV2 f_X11_lasts (nx := 32) (lo2 := [(0, .ref 0), (1, .int 64)]) rfl rfl rfl rfl f_X11_answer (hI.wf.s rfl) rfl rfl rfl rfl rfl ?_
            refine ev_loc f_X11_answer (nx := 1) rfl rfl rfl rfl ?_
            refine ev_ic f_X11_answer (nx := 2) (v := 0) rfl (by decide) rfl ?_
            refine ev_putIT f_X11_answer (nx := 5) rfl (hI.wf.s rfl) rfl rfl rfl (hI.put0 (hI.wf.s rfl) rfl rfl) (hX.upI rfl) (fun g303 e303 hI hX => ?_)
            refine ev_loc f_X11_answer (nx := 6) rfl rfl rfl rfl ?_
            refine ev_retK1 f_X11_answer rfl rfl rfl ?_
            exact ev_ret f_X11_lasts rfl rfl rfl ⟨_, _, _, rfl, hI, hX, ⟨_, rfl, (Int.le_trans (by decide : ((-2147483648):Int) ≤ 64) (by decide : (64:Int) ≤ (64:Int32).toInt)), (Int.le_trans (by decide : (64:Int32).toInt ≤ (64:Int)) (by decide : (64:Int) ≤ 2147483647)), (show ∀ (u : Nat) (D : s_D), gr 0 6 = .ref u → t_VL gr u → t_CV gi gl u D → t_Cb D → (¬ (0 ≤ ar1.toInt ∧ ar1.toInt < D 0) → (g303 0 0).toInt = 1) ∧ ((0 ≤ ar1.toInt ∧ ar1.toInt < D 0) → (g303 0 0).toInt = 0) from (by
                                                            intro u D hu hl hc hb
                                                            have ha : a6 = u := Value.ref.inj (e6.symm.trans hu)
                                                            subst ha
                                                            have hm := hc.1.1
                                                            exact ⟨fun h => (by have ffs : (g303 0 0).toInt = 0 := (congrArg Int32.toInt (by rw [e303]; exact x_up2_at _ _ _ _ : g303 0 0 = 0)).trans (by decide); omega), fun h => (by have ffs : (g303 0 0).toInt = 0 := (congrArg Int32.toInt (by rw [e303]; exact x_up2_at _ _ _ _ : g303 0 0 = 0)).trans (by decide); omega)⟩))⟩⟩
/-! ===== printed by riv.py: STATUS, the class ===== -/
noncomputable def wl_f_far : List (Nat × Nat) := [(0, 0)]
noncomputable def Q_f_far (gi : Nat → Nat → Int32) (gl : Nat → Nat → Int64) (gr : Nat → Nat → Value) (ar1 : Int32) (ar2 : Int32) : Int32 → (Nat → Nat → Int32) → (Nat → Nat → Int64) → (Nat → Nat → Value) → Prop := fun (v : Int32) (gi2 : Nat → Nat → Int32) (gl2 : Nat → Nat → Int64) (gr2 : Nat → Nat → Value) => ∀ (u : Nat) (D : s_D), gr 0 6 = .ref u → t_VL gr u → t_CV gi gl u D → t_Cb D → (¬ (0 ≤ ar1.toInt ∧ ar1.toInt < D 0 ∧ 0 ≤ ar2.toInt ∧ ar2.toInt < D 0) → (gi2 0 0).toInt = 1) ∧ ((0 ≤ ar1.toInt ∧ ar1.toInt < D 0 ∧ 0 ≤ ar2.toInt ∧ ar2.toInt < D 0) → (gi2 0 0).toInt = 0)
theorem c_f_far {X : x_Ext} {d : Nat} {sh : List (Nat ⊕ (Nat × Nat))} {gi : Nat → Nat → Int32} {gl : Nat → Nat → Int64} {gr : Nat → Nat → Value} (hI : t_I sh gi gr) (ar1 : Int32) (ar2 : Int32) : x_Me X (d + 3) n_X11_far [.ref 0, .int ar1, .int ar2] (sh, gi, gl, gr) (t_PI wl_f_far sh gi gl gr (-1) 127 (Q_f_far gi gl gr ar1 ar2)) := by
  have hX : t_X wl_f_far sh gi gl gr gi gl gr := t_X.rf
  refine me_i f_X11_far (hI.wf.s rfl) rfl rfl rfl ?_
  refine ev_loc f_X11_far (nx := 1) rfl rfl rfl rfl ?_
  refine ev_loc f_X11_far (nx := 2) rfl rfl rfl rfl ?_
  refine ev_inV2 f_X11_far (nx := 5) (lo2 := [(0, .ref 0), (1, .int ar1)]) rfl rfl rfl rfl f_X11_isPort (hI.wf.s rfl) rfl rfl rfl rfl rfl ?_
  refine ev_loc f_X11_isPort (nx := 1) rfl rfl rfl rfl ?_
  refine ev_if f_X11_isPort (t1 := 19) (t2 := 4) rfl rfl rfl (fun h2 => ?_) (fun h2 => ?_)
  · have u3 : ar1.toInt ≤ (-1) := t_ltu h2 (by decide : (0:Int32).toInt ≤ (0:Int)) rfl
    refine ev_ic f_X11_isPort (nx := 20) (v := 0) rfl (by decide) rfl ?_
    refine ev_retK1 f_X11_isPort rfl rfl rfl ?_
    refine ev_t f_X11_far (t1 := 16) (t2 := 8) rfl rfl rfl (by decide) ?_
    refine ev_loc f_X11_far (nx := 17) rfl rfl rfl rfl ?_
    refine ev_ic f_X11_far (nx := 18) (v := 1) rfl (by decide) rfl ?_
    refine ev_inV2 f_X11_far (nx := 21) (lo2 := [(0, .ref 0), (1, .int 1)]) rfl rfl rfl rfl f_X11_refuse (hI.wf.s rfl) rfl rfl rfl rfl rfl ?_
    refine ev_loc f_X11_refuse (nx := 1) rfl rfl rfl rfl ?_
    refine ev_loc f_X11_refuse (nx := 2) rfl rfl rfl rfl ?_
    refine ev_putIT f_X11_refuse (nx := 5) rfl (hI.wf.s rfl) rfl rfl rfl (hI.put0 (hI.wf.s rfl) rfl rfl) (hX.upI rfl) (fun g4 e4 hI hX => ?_)
    refine ev_ic f_X11_refuse (nx := 6) (v := -1) rfl (by decide) rfl ?_
    refine ev_retK1 f_X11_refuse rfl rfl rfl ?_
    exact ev_ret f_X11_far rfl rfl rfl ⟨_, _, _, rfl, hI, hX, ⟨_, rfl, (by decide : ((-1):Int) ≤ ((-1):Int32).toInt), (Int.le_trans (by decide : ((-1):Int32).toInt ≤ ((-1):Int)) (by decide : ((-1):Int) ≤ 127)), (show ∀ (u : Nat) (D : s_D), gr 0 6 = .ref u → t_VL gr u → t_CV gi gl u D → t_Cb D → (¬ (0 ≤ ar1.toInt ∧ ar1.toInt < D 0 ∧ 0 ≤ ar2.toInt ∧ ar2.toInt < D 0) → (g4 0 0).toInt = 1) ∧ ((0 ≤ ar1.toInt ∧ ar1.toInt < D 0 ∧ 0 ≤ ar2.toInt ∧ ar2.toInt < D 0) → (g4 0 0).toInt = 0) from (by
                                                            intro u D hu hl hc hb
                                                            have hm := hc.1.1
                                                            exact ⟨fun h => (by have ffs : (g4 0 0).toInt = 1 := (congrArg Int32.toInt (by rw [e4]; exact x_up2_at _ _ _ _ : g4 0 0 = 1)).trans (by decide); omega), fun h => (by have ffs : (g4 0 0).toInt = 1 := (congrArg Int32.toInt (by rw [e4]; exact x_up2_at _ _ _ _ : g4 0 0 = 1)).trans (by decide); omega)⟩))⟩⟩
  · have l5 : 0 ≤ ar1.toInt := t_lel (t_nlt h2) (by decide : (0:Int) ≤ (0:Int32).toInt)
    refine ev_loc f_X11_isPort (nx := 5) rfl rfl rfl rfl ?_
    refine ev_loc f_X11_isPort (nx := 6) rfl rfl rfl rfl ?_
    obtain ⟨a6, e6, p6⟩ := hI.2.2.2.1.1
    refine ev_getR f_X11_isPort (nx := 9) rfl (hI.wf.s rfl) rfl rfl e6 rfl rfl ?_
    refine ev_getI f_X11_isPort (nx := 12) rfl p6.1 rfl rfl rfl ?_
    obtain ⟨l7, u7⟩ := hI.b p6.1 (t_bdK rfl : t_bd 4 0 = some (0, 6))
    refine ev_if f_X11_isPort (t1 := 19) (t2 := 15) rfl rfl rfl (fun h8 => ?_) (fun h8 => ?_)
    · have r9 : (gi a6 0).toInt ≤ ar1.toInt := Int32.le_iff_toInt_le.mp h8
      refine ev_ic f_X11_isPort (nx := 20) (v := 0) rfl (by decide) rfl ?_
      refine ev_retK1 f_X11_isPort rfl rfl rfl ?_
      refine ev_t f_X11_far (t1 := 16) (t2 := 8) rfl rfl rfl (by decide) ?_
      refine ev_loc f_X11_far (nx := 17) rfl rfl rfl rfl ?_
      refine ev_ic f_X11_far (nx := 18) (v := 1) rfl (by decide) rfl ?_
      refine ev_inV2 f_X11_far (nx := 21) (lo2 := [(0, .ref 0), (1, .int 1)]) rfl rfl rfl rfl f_X11_refuse (hI.wf.s rfl) rfl rfl rfl rfl rfl ?_
      refine ev_loc f_X11_refuse (nx := 1) rfl rfl rfl rfl ?_
      refine ev_loc f_X11_refuse (nx := 2) rfl rfl rfl rfl ?_
      refine ev_putIT f_X11_refuse (nx := 5) rfl (hI.wf.s rfl) rfl rfl rfl (hI.put0 (hI.wf.s rfl) rfl rfl) (hX.upI rfl) (fun g10 e10 hI hX => ?_)
      refine ev_ic f_X11_refuse (nx := 6) (v := -1) rfl (by decide) rfl ?_
      refine ev_retK1 f_X11_refuse rfl rfl rfl ?_
      exact ev_ret f_X11_far rfl rfl rfl ⟨_, _, _, rfl, hI, hX, ⟨_, rfl, (by decide : ((-1):Int) ≤ ((-1):Int32).toInt), (Int.le_trans (by decide : ((-1):Int32).toInt ≤ ((-1):Int)) (by decide : ((-1):Int) ≤ 127)), (show ∀ (u : Nat) (D : s_D), gr 0 6 = .ref u → t_VL gr u → t_CV gi gl u D → t_Cb D → (¬ (0 ≤ ar1.toInt ∧ ar1.toInt < D 0 ∧ 0 ≤ ar2.toInt ∧ ar2.toInt < D 0) → (g10 0 0).toInt = 1) ∧ ((0 ≤ ar1.toInt ∧ ar1.toInt < D 0 ∧ 0 ≤ ar2.toInt ∧ ar2.toInt < D 0) → (g10 0 0).toInt = 0) from (by
                                                            intro u D hu hl hc hb
                                                            have ha : a6 = u := Value.ref.inj (e6.symm.trans hu)
                                                            subst ha
                                                            have hm := hc.1.1
                                                            exact ⟨fun h => (by have ffs : (g10 0 0).toInt = 1 := (congrArg Int32.toInt (by rw [e10]; exact x_up2_at _ _ _ _ : g10 0 0 = 1)).trans (by decide); omega), fun h => (by have ffs : (g10 0 0).toInt = 1 := (congrArg Int32.toInt (by rw [e10]; exact x_up2_at _ _ _ _ : g10 0 0 = 1)).trans (by decide); omega)⟩))⟩⟩
    · have r11 : ar1.toInt < (gi a6 0).toInt := Int32.lt_iff_toInt_lt.mp (t_nle h8)
      have u12 : ar1.toInt ≤ 5 := t_ltu (t_nle h8) u7 rfl
      have l13 : 1 ≤ (gi a6 0).toInt := t_ltl (t_nle h8) l5 rfl
      refine ev_ic f_X11_isPort (nx := 16) (v := 1) rfl (by decide) rfl ?_
      refine ev_jmp f_X11_isPort (nx := 20) rfl rfl rfl ?_
      refine ev_retK1 f_X11_isPort rfl rfl rfl ?_
      refine ev_f f_X11_far (t1 := 16) (t2 := 8) rfl rfl rfl (by decide) ?_
      refine ev_loc f_X11_far (nx := 9) rfl rfl rfl rfl ?_
      refine ev_loc f_X11_far (nx := 10) rfl rfl rfl rfl ?_
      refine ev_inV2 f_X11_far (nx := 13) (lo2 := [(0, .ref 0), (1, .int ar2)]) rfl rfl rfl rfl f_X11_isPort (hI.wf.s rfl) rfl rfl rfl rfl rfl ?_
      refine ev_loc f_X11_isPort (nx := 1) rfl rfl rfl rfl ?_
      refine ev_if f_X11_isPort (t1 := 19) (t2 := 4) rfl rfl rfl (fun h14 => ?_) (fun h14 => ?_)
      · have u15 : ar2.toInt ≤ (-1) := t_ltu h14 (by decide : (0:Int32).toInt ≤ (0:Int)) rfl
        refine ev_ic f_X11_isPort (nx := 20) (v := 0) rfl (by decide) rfl ?_
        refine ev_retK1 f_X11_isPort rfl rfl rfl ?_
        refine ev_t f_X11_far (t1 := 16) (t2 := 22) rfl rfl rfl (by decide) ?_
        refine ev_loc f_X11_far (nx := 17) rfl rfl rfl rfl ?_
        refine ev_ic f_X11_far (nx := 18) (v := 1) rfl (by decide) rfl ?_
        refine ev_inV2 f_X11_far (nx := 21) (lo2 := [(0, .ref 0), (1, .int 1)]) rfl rfl rfl rfl f_X11_refuse (hI.wf.s rfl) rfl rfl rfl rfl rfl ?_
        refine ev_loc f_X11_refuse (nx := 1) rfl rfl rfl rfl ?_
        refine ev_loc f_X11_refuse (nx := 2) rfl rfl rfl rfl ?_
        refine ev_putIT f_X11_refuse (nx := 5) rfl (hI.wf.s rfl) rfl rfl rfl (hI.put0 (hI.wf.s rfl) rfl rfl) (hX.upI rfl) (fun g16 e16 hI hX => ?_)
        refine ev_ic f_X11_refuse (nx := 6) (v := -1) rfl (by decide) rfl ?_
        refine ev_retK1 f_X11_refuse rfl rfl rfl ?_
        exact ev_ret f_X11_far rfl rfl rfl ⟨_, _, _, rfl, hI, hX, ⟨_, rfl, (by decide : ((-1):Int) ≤ ((-1):Int32).toInt), (Int.le_trans (by decide : ((-1):Int32).toInt ≤ ((-1):Int)) (by decide : ((-1):Int) ≤ 127)), (show ∀ (u : Nat) (D : s_D), gr 0 6 = .ref u → t_VL gr u → t_CV gi gl u D → t_Cb D → (¬ (0 ≤ ar1.toInt ∧ ar1.toInt < D 0 ∧ 0 ≤ ar2.toInt ∧ ar2.toInt < D 0) → (g16 0 0).toInt = 1) ∧ ((0 ≤ ar1.toInt ∧ ar1.toInt < D 0 ∧ 0 ≤ ar2.toInt ∧ ar2.toInt < D 0) → (g16 0 0).toInt = 0) from (by
                                                            intro u D hu hl hc hb
                                                            have ha : a6 = u := Value.ref.inj (e6.symm.trans hu)
                                                            subst ha
                                                            have hm := hc.1.1
                                                            exact ⟨fun h => (by have ffs : (g16 0 0).toInt = 1 := (congrArg Int32.toInt (by rw [e16]; exact x_up2_at _ _ _ _ : g16 0 0 = 1)).trans (by decide); omega), fun h => (by have ffs : (g16 0 0).toInt = 1 := (congrArg Int32.toInt (by rw [e16]; exact x_up2_at _ _ _ _ : g16 0 0 = 1)).trans (by decide); omega)⟩))⟩⟩
      · have l17 : 0 ≤ ar2.toInt := t_lel (t_nlt h14) (by decide : (0:Int) ≤ (0:Int32).toInt)
        refine ev_loc f_X11_isPort (nx := 5) rfl rfl rfl rfl ?_
        refine ev_loc f_X11_isPort (nx := 6) rfl rfl rfl rfl ?_
        refine ev_getR f_X11_isPort (nx := 9) (v := .ref a6) rfl (hI.wf.s rfl) rfl rfl e6 rfl rfl ?_
        refine ev_gvI f_X11_isPort (nx := 12) (w := (gi a6 0)) rfl p6.1 rfl rfl rfl rfl ?_
        refine ev_if f_X11_isPort (t1 := 19) (t2 := 15) rfl rfl rfl (fun h18 => ?_) (fun h18 => ?_)
        · have r19 : (gi a6 0).toInt ≤ ar2.toInt := Int32.le_iff_toInt_le.mp h18
          have l20 : 1 ≤ ar2.toInt := t_lel h18 l13
          refine ev_ic f_X11_isPort (nx := 20) (v := 0) rfl (by decide) rfl ?_
          refine ev_retK1 f_X11_isPort rfl rfl rfl ?_
          refine ev_t f_X11_far (t1 := 16) (t2 := 22) rfl rfl rfl (by decide) ?_
          refine ev_loc f_X11_far (nx := 17) rfl rfl rfl rfl ?_
          refine ev_ic f_X11_far (nx := 18) (v := 1) rfl (by decide) rfl ?_
          refine ev_inV2 f_X11_far (nx := 21) (lo2 := [(0, .ref 0), (1, .int 1)]) rfl rfl rfl rfl f_X11_refuse (hI.wf.s rfl) rfl rfl rfl rfl rfl ?_
          refine ev_loc f_X11_refuse (nx := 1) rfl rfl rfl rfl ?_
          refine ev_loc f_X11_refuse (nx := 2) rfl rfl rfl rfl ?_
          refine ev_putIT f_X11_refuse (nx := 5) rfl (hI.wf.s rfl) rfl rfl rfl (hI.put0 (hI.wf.s rfl) rfl rfl) (hX.upI rfl) (fun g21 e21 hI hX => ?_)
          refine ev_ic f_X11_refuse (nx := 6) (v := -1) rfl (by decide) rfl ?_
          refine ev_retK1 f_X11_refuse rfl rfl rfl ?_
          exact ev_ret f_X11_far rfl rfl rfl ⟨_, _, _, rfl, hI, hX, ⟨_, rfl, (by decide : ((-1):Int) ≤ ((-1):Int32).toInt), (Int.le_trans (by decide : ((-1):Int32).toInt ≤ ((-1):Int)) (by decide : ((-1):Int) ≤ 127)), (show ∀ (u : Nat) (D : s_D), gr 0 6 = .ref u → t_VL gr u → t_CV gi gl u D → t_Cb D → (¬ (0 ≤ ar1.toInt ∧ ar1.toInt < D 0 ∧ 0 ≤ ar2.toInt ∧ ar2.toInt < D 0) → (g21 0 0).toInt = 1) ∧ ((0 ≤ ar1.toInt ∧ ar1.toInt < D 0 ∧ 0 ≤ ar2.toInt ∧ ar2.toInt < D 0) → (g21 0 0).toInt = 0) from (by
                                                            intro u D hu hl hc hb
                                                            have ha : a6 = u := Value.ref.inj (e6.symm.trans hu)
                                                            subst ha
                                                            have hm := hc.1.1
                                                            exact ⟨fun h => (by have ffs : (g21 0 0).toInt = 1 := (congrArg Int32.toInt (by rw [e21]; exact x_up2_at _ _ _ _ : g21 0 0 = 1)).trans (by decide); omega), fun h => (by have ffs : (g21 0 0).toInt = 1 := (congrArg Int32.toInt (by rw [e21]; exact x_up2_at _ _ _ _ : g21 0 0 = 1)).trans (by decide); omega)⟩))⟩⟩
        · have r22 : ar2.toInt < (gi a6 0).toInt := Int32.lt_iff_toInt_lt.mp (t_nle h18)
          have u23 : ar2.toInt ≤ 5 := t_ltu (t_nle h18) u7 rfl
          refine ev_ic f_X11_isPort (nx := 16) (v := 1) rfl (by decide) rfl ?_
          refine ev_jmp f_X11_isPort (nx := 20) rfl rfl rfl ?_
          refine ev_retK1 f_X11_isPort rfl rfl rfl ?_
          refine ev_f f_X11_far (t1 := 16) (t2 := 22) rfl rfl rfl (by decide) ?_
          refine ev_loc f_X11_far (nx := 23) rfl rfl rfl rfl ?_
          refine ev_loc f_X11_far (nx := 24) rfl rfl rfl rfl ?_
          refine ev_getR f_X11_far (nx := 27) (v := .ref a6) rfl (hI.wf.s rfl) rfl rfl e6 rfl rfl ?_
          refine ev_loc f_X11_far (nx := 28) rfl rfl rfl rfl ?_
          refine ev_cL f_X11_far (nx := 31) (r := [.ref 0]) rfl rfl rfl rfl rfl rfl rfl (c_heardOf hI (a6) p6 (ar1)) rfl hX rfl (fun w24 gi24 gl24 gr24 hI hX hC24 => ?_)
          replace p6 := p6.ext hC24.2
          refine ev_loc f_X11_far (nx := 32) rfl rfl rfl rfl ?_
          refine ev_getR f_X11_far (nx := 35) (v := .ref a6) rfl (hI.wf.s rfl) rfl rfl ((hC24.1 0 6 rfl).2.2.trans e6) rfl rfl ?_
          refine ev_loc f_X11_far (nx := 36) rfl rfl rfl rfl ?_
          refine ev_cL f_X11_far (nx := 39) (r := [.long w24, .ref 0]) rfl rfl rfl rfl rfl rfl rfl (c_heardOf hI (a6) p6 (ar2)) rfl hX rfl (fun w25 gi25 gl25 gr25 hI hX hC25 => ?_)
          replace p6 := p6.ext hC25.2
          refine ev_anyL f_X11_far (nx := 40) rfl rfl rfl rfl (fun z26 => ?_)
          refine ev_inS1 f_X11_far (nx := 43) (lo2 := [(0, .long z26)]) rfl rfl rfl rfl f_J13_bitCount_95d88 rfl rfl rfl rfl ?_
          refine ev_loc f_J13_bitCount_95d88 (nx := 1) rfl rfl rfl rfl ?_
          refine ev_loc f_J13_bitCount_95d88 (nx := 2) rfl rfl rfl rfl ?_
          refine ev_ic f_J13_bitCount_95d88 (nx := 3) (v := 1) rfl (by decide) rfl ?_
          refine ev_anyL f_J13_bitCount_95d88 (nx := 4) rfl rfl rfl rfl (fun z27 => ?_)
          refine ev_ldL f_J13_bitCount_95d88 (nx := 7) (v := 6148914691236517205) rfl (by decide) rfl ?_
          refine ev_anyL f_J13_bitCount_95d88 (nx := 8) rfl rfl rfl rfl (fun z28 => ?_)
          refine ev_anyL f_J13_bitCount_95d88 (nx := 9) rfl rfl rfl rfl (fun z29 => ?_)
          refine ev_loc f_J13_bitCount_95d88 (nx := 10) (lo' := [(0, .long z29)]) rfl rfl rfl rfl ?_
          refine ev_loc f_J13_bitCount_95d88 (nx := 11) rfl rfl rfl rfl ?_
          refine ev_ldL f_J13_bitCount_95d88 (nx := 14) (v := 3689348814741910323) rfl (by decide) rfl ?_
          refine ev_anyL f_J13_bitCount_95d88 (nx := 15) rfl rfl rfl rfl (fun z30 => ?_)
          refine ev_loc f_J13_bitCount_95d88 (nx := 16) rfl rfl rfl rfl ?_
          refine ev_ic f_J13_bitCount_95d88 (nx := 17) (v := 2) rfl (by decide) rfl ?_
          refine ev_anyL f_J13_bitCount_95d88 (nx := 18) rfl rfl rfl rfl (fun z31 => ?_)
          refine ev_ldL f_J13_bitCount_95d88 (nx := 21) (v := 3689348814741910323) rfl (by decide) rfl ?_
          refine ev_anyL f_J13_bitCount_95d88 (nx := 22) rfl rfl rfl rfl (fun z32 => ?_)
          refine ev_anyL f_J13_bitCount_95d88 (nx := 23) rfl rfl rfl rfl (fun z33 => ?_)
          refine ev_loc f_J13_bitCount_95d88 (nx := 24) (lo' := [(0, .long z33)]) rfl rfl rfl rfl ?_
          refine ev_loc f_J13_bitCount_95d88 (nx := 25) rfl rfl rfl rfl ?_
          refine ev_loc f_J13_bitCount_95d88 (nx := 26) rfl rfl rfl rfl ?_
          refine ev_ic f_J13_bitCount_95d88 (nx := 27) (v := 4) rfl (by decide) rfl ?_
          refine ev_anyL f_J13_bitCount_95d88 (nx := 28) rfl rfl rfl rfl (fun z34 => ?_)
          refine ev_anyL f_J13_bitCount_95d88 (nx := 29) rfl rfl rfl rfl (fun z35 => ?_)
          refine ev_ldL f_J13_bitCount_95d88 (nx := 32) (v := 1085102592571150095) rfl (by decide) rfl ?_
          refine ev_anyL f_J13_bitCount_95d88 (nx := 33) rfl rfl rfl rfl (fun z36 => ?_)
          refine ev_loc f_J13_bitCount_95d88 (nx := 34) (lo' := [(0, .long z36)]) rfl rfl rfl rfl ?_
          refine ev_loc f_J13_bitCount_95d88 (nx := 35) rfl rfl rfl rfl ?_
          refine ev_loc f_J13_bitCount_95d88 (nx := 36) rfl rfl rfl rfl ?_
          refine ev_bp f_J13_bitCount_95d88 (nx := 38) (v := 8) rfl (by decide) rfl ?_
          refine ev_anyL f_J13_bitCount_95d88 (nx := 39) rfl rfl rfl rfl (fun z37 => ?_)
          refine ev_anyL f_J13_bitCount_95d88 (nx := 40) rfl rfl rfl rfl (fun z38 => ?_)
          refine ev_loc f_J13_bitCount_95d88 (nx := 41) (lo' := [(0, .long z38)]) rfl rfl rfl rfl ?_
          refine ev_loc f_J13_bitCount_95d88 (nx := 42) rfl rfl rfl rfl ?_
          refine ev_loc f_J13_bitCount_95d88 (nx := 43) rfl rfl rfl rfl ?_
          refine ev_bp f_J13_bitCount_95d88 (nx := 45) (v := 16) rfl (by decide) rfl ?_
          refine ev_anyL f_J13_bitCount_95d88 (nx := 46) rfl rfl rfl rfl (fun z39 => ?_)
          refine ev_anyL f_J13_bitCount_95d88 (nx := 47) rfl rfl rfl rfl (fun z40 => ?_)
          refine ev_loc f_J13_bitCount_95d88 (nx := 48) (lo' := [(0, .long z40)]) rfl rfl rfl rfl ?_
          refine ev_loc f_J13_bitCount_95d88 (nx := 49) rfl rfl rfl rfl ?_
          refine ev_loc f_J13_bitCount_95d88 (nx := 50) rfl rfl rfl rfl ?_
          refine ev_bp f_J13_bitCount_95d88 (nx := 52) (v := 32) rfl (by decide) rfl ?_
          refine ev_anyL f_J13_bitCount_95d88 (nx := 53) rfl rfl rfl rfl (fun z41 => ?_)
          refine ev_anyL f_J13_bitCount_95d88 (nx := 54) rfl rfl rfl rfl (fun z42 => ?_)
          refine ev_loc f_J13_bitCount_95d88 (nx := 55) (lo' := [(0, .long z42)]) rfl rfl rfl rfl ?_
          refine ev_loc f_J13_bitCount_95d88 (nx := 56) rfl rfl rfl rfl ?_
          refine ev_anyI f_J13_bitCount_95d88 (nx := 57) rfl rfl rfl rfl (fun z43 => ?_)
          refine ev_bp f_J13_bitCount_95d88 (nx := 59) (v := 127) rfl (by decide) rfl ?_
          refine ev_andE f_J13_bitCount_95d88 (nx := 60) (c := 127) rfl (by decide) (by decide) rfl (fun z44 e44 l44 u44 => ?_)
          refine ev_retK1 f_J13_bitCount_95d88 rfl rfl rfl ?_
          refine ev_inV2 f_X11_far (nx := 46) (lo2 := [(0, .ref 0), (1, .int z44)]) rfl rfl rfl rfl f_X11_answer (hI.wf.s rfl) rfl rfl rfl rfl rfl ?_
          refine ev_loc f_X11_answer (nx := 1) rfl rfl rfl rfl ?_
          refine ev_ic f_X11_answer (nx := 2) (v := 0) rfl (by decide) rfl ?_
          refine ev_putIT f_X11_answer (nx := 5) rfl (hI.wf.s rfl) rfl rfl rfl (hI.put0 (hI.wf.s rfl) rfl rfl) (hX.upI rfl) (fun g45 e45 hI hX => ?_)
          refine ev_loc f_X11_answer (nx := 6) rfl rfl rfl rfl ?_
          refine ev_retK1 f_X11_answer rfl rfl rfl ?_
          exact ev_ret f_X11_far rfl rfl rfl ⟨_, _, _, rfl, hI, hX, ⟨_, rfl, (Int.le_trans (by decide : ((-1):Int) ≤ 0) l44), u44, (show ∀ (u : Nat) (D : s_D), gr 0 6 = .ref u → t_VL gr u → t_CV gi gl u D → t_Cb D → (¬ (0 ≤ ar1.toInt ∧ ar1.toInt < D 0 ∧ 0 ≤ ar2.toInt ∧ ar2.toInt < D 0) → (g45 0 0).toInt = 1) ∧ ((0 ≤ ar1.toInt ∧ ar1.toInt < D 0 ∧ 0 ≤ ar2.toInt ∧ ar2.toInt < D 0) → (g45 0 0).toInt = 0) from (by
                                                            intro u D hu hl hc hb
                                                            have ha : a6 = u := Value.ref.inj (e6.symm.trans hu)
                                                            subst ha
                                                            have hm := hc.1.1
                                                            exact ⟨fun h => (by have ffs : (g45 0 0).toInt = 0 := (congrArg Int32.toInt (by rw [e45]; exact x_up2_at _ _ _ _ : g45 0 0 = 0)).trans (by decide); omega), fun h => (by have ffs : (g45 0 0).toInt = 0 := (congrArg Int32.toInt (by rw [e45]; exact x_up2_at _ _ _ _ : g45 0 0 = 0)).trans (by decide); omega)⟩))⟩⟩
noncomputable def wl_f_readings : List (Nat × Nat) := [(0, 0), (0, 14), (21, 9999)]
noncomputable def Q_f_readings (gi : Nat → Nat → Int32) (gl : Nat → Nat → Int64) (gr : Nat → Nat → Value) (ar1 : Int64) : Int32 → (Nat → Nat → Int32) → (Nat → Nat → Int64) → (Nat → Nat → Value) → Prop := fun (v : Int32) (gi2 : Nat → Nat → Int32) (gl2 : Nat → Nat → Int64) (gr2 : Nat → Nat → Value) => (¬ (1 ≤ ar1.toInt) → (gi2 0 0).toInt = 1) ∧ ((1 ≤ ar1.toInt) → (gi2 0 0).toInt = 0)
theorem c_f_readings {X : x_Ext} {d : Nat} {sh : List (Nat ⊕ (Nat × Nat))} {gi : Nat → Nat → Int32} {gl : Nat → Nat → Int64} {gr : Nat → Nat → Value} (hI : t_I sh gi gr) (ar1 : Int64) : x_Me X (d + 4) n_X11_readings [.ref 0, .long ar1] (sh, gi, gl, gr) (t_PI wl_f_readings sh gi gl gr (-1) 474 (Q_f_readings gi gl gr ar1)) := by
  have hX : t_X wl_f_readings sh gi gl gr gi gl gr := t_X.rf
  refine me_i f_X11_readings (hI.wf.s rfl) rfl rfl rfl ?_
  refine ev_loc f_X11_readings (nx := 1) rfl rfl rfl rfl ?_
  refine ev_lc f_X11_readings (nx := 2) (v := 1) rfl (by decide) rfl ?_
  refine ev_anyIE f_X11_readings (nx := 3) rfl rfl rfl rfl (fun z2 e2 => ?_)
  refine ev_if f_X11_readings (t1 := 12) (t2 := 6) rfl rfl rfl (fun h3 => ?_) (fun h3 => ?_)
  · have l4 : 0 ≤ z2.toInt := t_lel h3 (by decide : (0:Int) ≤ (0:Int32).toInt)
    have hlt := (t_lt1r e2 h3)
    refine ev_loc f_X11_readings (nx := 13) rfl rfl rfl rfl ?_
    refine ev_ic f_X11_readings (nx := 14) (v := 0) rfl (by decide) rfl ?_
    refine ev_putIT f_X11_readings (nx := 17) rfl (hI.wf.s rfl) rfl rfl rfl (hI.putB (hI.wf.s rfl) rfl rfl (by decide : (0:Int) ≤ (0:Int32).toInt) (by decide) (by decide : (0:Int32).toInt ≤ (0:Int)) (by decide)) (hX.upI rfl) (fun g5 e5 hI hX => ?_)
    refine ev_ic f_X11_readings (nx := 18) (v := 0) rfl (by decide) rfl ?_
    refine ev_loc f_X11_readings (nx := 19) (lo' := [(3, .int 0), (0, .ref 0), (1, .long ar1)]) rfl rfl rfl rfl ?_
    have L6 : ∀ (m6 : Nat) (gi6 : Nat → Nat → Int32) (gl6 : Nat → Nat → Int64) (gr6 : Nat → Nat → Value) (y6_3 : Int32), t_I sh gi6 gr6 → t_X wl_f_readings sh gi gl gr gi6 gl6 gr6 → 0 ≤ y6_3.toInt → y6_3.toInt ≤ 6 → gi6 0 0 = (gi 0 0) → (6 - y6_3.toInt).toNat = m6 → x_Ev X (d + 4) n_X11_readings 19 [(3, .int y6_3), (0, .ref 0), (1, .long ar1)] [] (sh, gi6, gl6, gr6) (t_PI wl_f_readings sh gi gl gr (-1) 474 (Q_f_readings gi gl gr ar1)) := by
      intro m6
      induction m6 using Nat.strongRecOn with
      | _ m6 ih6 =>
      intro gi6 gl6 gr6 y6_3 hI hX l6_3 u6_3 c6_0 hm6
      refine ev_loc f_X11_readings (nx := 20) rfl rfl rfl rfl ?_
      refine ev_loc f_X11_readings (nx := 21) rfl rfl rfl rfl ?_
      obtain ⟨a7, e7, p7⟩ := hI.2.2.2.1.1
      refine ev_getR f_X11_readings (nx := 24) rfl (hI.wf.s rfl) rfl rfl e7 rfl rfl ?_
      refine ev_getI f_X11_readings (nx := 27) rfl p7.1 rfl rfl rfl ?_
      obtain ⟨l8, u8⟩ := hI.b p7.1 (t_bdK rfl : t_bd 4 0 = some (0, 6))
      refine ev_if f_X11_readings (t1 := 57) (t2 := 30) rfl rfl rfl (fun h9 => ?_) (fun h9 => ?_)
      · have r10 : (gi6 a7 0).toInt ≤ y6_3.toInt := Int32.le_iff_toInt_le.mp h9
        refine ev_ic f_X11_readings (nx := 58) (v := 0) rfl (by decide) rfl ?_
        refine ev_loc f_X11_readings (nx := 59) (lo' := [(3, .int 0), (0, .ref 0), (1, .long ar1)]) rfl rfl rfl rfl ?_
        have L11 : ∀ (m11 : Nat) (gi11 : Nat → Nat → Int32) (gl11 : Nat → Nat → Int64) (gr11 : Nat → Nat → Value) (y11_3 : Int32), t_I sh gi11 gr11 → t_X wl_f_readings sh gi gl gr gi11 gl11 gr11 → t_Rv sh gr11 a7 → 0 ≤ y11_3.toInt → y11_3.toInt ≤ 6 → gi11 0 0 = (gi 0 0) → gr11 0 6 = .ref a7 → (6 - y11_3.toInt).toNat = m11 → x_Ev X (d + 4) n_X11_readings 59 [(3, .int y11_3), (0, .ref 0), (1, .long ar1)] [] (sh, gi11, gl11, gr11) (t_PI wl_f_readings sh gi gl gr (-1) 474 (Q_f_readings gi gl gr ar1)) := by
          intro m11
          induction m11 using Nat.strongRecOn with
          | _ m11 ih11 =>
          intro gi11 gl11 gr11 y11_3 hI hX p7 l11_3 u11_3 c11_1 c11_2 hm11
          refine ev_loc f_X11_readings (nx := 60) rfl rfl rfl rfl ?_
          refine ev_loc f_X11_readings (nx := 61) rfl rfl rfl rfl ?_
          refine ev_getR f_X11_readings (nx := 64) (v := .ref a7) rfl (hI.wf.s rfl) rfl rfl c11_2 rfl rfl ?_
          refine ev_getI f_X11_readings (nx := 67) rfl p7.1 rfl rfl rfl ?_
          obtain ⟨l12, u12⟩ := hI.b p7.1 (t_bdK rfl : t_bd 4 0 = some (0, 6))
          refine ev_if f_X11_readings (t1 := 148) (t2 := 70) rfl rfl rfl (fun h13 => ?_) (fun h13 => ?_)
          · have r14 : (gi11 a7 0).toInt ≤ y11_3.toInt := Int32.le_iff_toInt_le.mp h13
            refine ev_loc f_X11_readings (nx := 149) rfl rfl rfl rfl ?_
            refine ev_loc f_X11_readings (nx := 150) rfl rfl rfl rfl ?_
            refine ev_getI f_X11_readings (nx := 153) rfl (hI.wf.s rfl) rfl rfl rfl ?_
            obtain ⟨l15, u15⟩ := hI.b (hI.wf.s (k := 0) rfl) (t_bdK rfl : t_bd 10 14 = some (0, 474))
            refine ev_inV2 f_X11_readings (nx := 156) (lo2 := [(0, .ref 0), (1, .int (gi11 0 14))]) rfl rfl rfl rfl f_X11_answer (hI.wf.s rfl) rfl rfl rfl rfl rfl ?_
            refine ev_loc f_X11_answer (nx := 1) rfl rfl rfl rfl ?_
            refine ev_ic f_X11_answer (nx := 2) (v := 0) rfl (by decide) rfl ?_
            refine ev_putIT f_X11_answer (nx := 5) rfl (hI.wf.s rfl) rfl rfl rfl (hI.put0 (hI.wf.s rfl) rfl rfl) (hX.upI rfl) (fun g16 e16 hI hX => ?_)
            refine ev_loc f_X11_answer (nx := 6) rfl rfl rfl rfl ?_
            refine ev_retK1 f_X11_answer rfl rfl rfl ?_
            exact ev_ret f_X11_readings rfl rfl rfl ⟨_, _, _, rfl, hI, hX, ⟨_, rfl, (Int.le_trans (by decide : ((-1):Int) ≤ 0) l15), u15, (show (¬ (1 ≤ ar1.toInt) → (g16 0 0).toInt = 1) ∧ ((1 ≤ ar1.toInt) → (g16 0 0).toInt = 0) from ⟨fun h => (by have ffs : (g16 0 0).toInt = 0 := (congrArg Int32.toInt (by rw [e16]; exact x_up2_at _ _ _ _ : g16 0 0 = 0)).trans (by decide); omega), fun h => (by have ffs : (g16 0 0).toInt = 0 := (congrArg Int32.toInt (by rw [e16]; exact x_up2_at _ _ _ _ : g16 0 0 = 0)).trans (by decide); omega)⟩)⟩⟩
          · have r17 : y11_3.toInt < (gi11 a7 0).toInt := Int32.lt_iff_toInt_lt.mp (t_nle h13)
            have u18 : y11_3.toInt ≤ 5 := t_ltu (t_nle h13) u12 rfl
            have l19 : 1 ≤ (gi11 a7 0).toInt := t_ltl (t_nle h13) l11_3 rfl
            refine ev_ic f_X11_readings (nx := 71) (v := 0) rfl (by decide) rfl ?_
            refine ev_loc f_X11_readings (nx := 73) (lo' := [(4, .int 0), (3, .int y11_3), (0, .ref 0), (1, .long ar1)]) rfl rfl rfl rfl ?_
            have L20 : ∀ (m20 : Nat) (gi20 : Nat → Nat → Int32) (gl20 : Nat → Nat → Int64) (gr20 : Nat → Nat → Value) (y20_4 : Int32), t_I sh gi20 gr20 → t_X wl_f_readings sh gi gl gr gi20 gl20 gr20 → t_Rv sh gr20 a7 → 0 ≤ y20_4.toInt → y20_4.toInt ≤ 6 → gi20 0 0 = (gi 0 0) → gr20 0 6 = .ref a7 → (6 - y20_4.toInt).toNat = m20 → x_Ev X (d + 4) n_X11_readings 73 [(4, .int y20_4), (3, .int y11_3), (0, .ref 0), (1, .long ar1)] [] (sh, gi20, gl20, gr20) (t_PI wl_f_readings sh gi gl gr (-1) 474 (Q_f_readings gi gl gr ar1)) := by
              intro m20
              induction m20 using Nat.strongRecOn with
              | _ m20 ih20 =>
              intro gi20 gl20 gr20 y20_4 hI hX p7 l20_4 u20_4 c20_1 c20_2 hm20
              refine ev_loc f_X11_readings (nx := 75) rfl rfl rfl rfl ?_
              refine ev_loc f_X11_readings (nx := 76) rfl rfl rfl rfl ?_
              refine ev_getR f_X11_readings (nx := 79) (v := .ref a7) rfl (hI.wf.s rfl) rfl rfl c20_2 rfl rfl ?_
              refine ev_getI f_X11_readings (nx := 82) rfl p7.1 rfl rfl rfl ?_
              obtain ⟨l21, u21⟩ := hI.b p7.1 (t_bdK rfl : t_bd 4 0 = some (0, 6))
              refine ev_if f_X11_readings (t1 := 142) (t2 := 85) rfl rfl rfl (fun h22 => ?_) (fun h22 => ?_)
              · have r23 : (gi20 a7 0).toInt ≤ y20_4.toInt := Int32.le_iff_toInt_le.mp h22
                refine ev_incR f_X11_readings (nx := 145) (c := 1) (l := 1) (u := 6) rfl rfl (by decide) (by decide) l11_3 u18 rfl rfl (by decide) (by decide) rfl (fun z24 e24 l24 u24 => ?_)
                refine ev_jmp f_X11_readings (nx := 59) rfl rfl rfl ?_
                refine ev_sub (lo := [(3, .int z24), (0, .ref 0), (1, .long ar1)]) rfl (t_sc rfl (t_sc rfl (t_sc rfl t_sn))) ?_
                exact ih11 _ (by omega) gi20 gl20 gr20 (z24) hI hX p7 (Int.le_trans (by decide : (0:Int) ≤ 1) l24) u24 c20_1 c20_2 rfl
              · have r25 : y20_4.toInt < (gi20 a7 0).toInt := Int32.lt_iff_toInt_lt.mp (t_nle h22)
                have u26 : y20_4.toInt ≤ 5 := t_ltu (t_nle h22) u21 rfl
                have l27 : 1 ≤ (gi20 a7 0).toInt := t_ltl (t_nle h22) l20_4 rfl
                refine ev_loc f_X11_readings (nx := 86) rfl rfl rfl rfl ?_
                refine ev_getR f_X11_readings (nx := 89) (v := .ref a7) rfl (hI.wf.s rfl) rfl rfl c20_2 rfl rfl ?_
                refine ev_loc f_X11_readings (nx := 90) rfl rfl rfl rfl ?_
                refine ev_loc f_X11_readings (nx := 92) rfl rfl rfl rfl ?_
                refine ev_inV3 f_X11_readings (nx := 95) (lo2 := [(0, .ref a7), (1, .int y11_3), (2, .int y20_4)]) rfl rfl rfl rfl f_X5_leastBeats p7.1 rfl rfl rfl rfl rfl ?_
                refine ev_loc f_X5_leastBeats (nx := 1) rfl rfl rfl rfl ?_
                refine ev_loc f_X5_leastBeats (nx := 2) rfl rfl rfl rfl ?_
                refine ev_if f_X5_leastBeats (t1 := 9) (t2 := 5) rfl rfl rfl (fun h28 => ?_) (fun h28 => ?_)
                · have r29 : y11_3.toInt ≤ y20_4.toInt := Int32.le_iff_toInt_le.mp h28
                  refine ev_ic f_X5_leastBeats (nx := 10) (v := 0) rfl (by decide) rfl ?_
                  refine ev_retK1 f_X5_leastBeats rfl rfl rfl ?_
                  refine ev_loc f_X11_readings (nx := 97) (lo' := [(5, .int 0), (4, .int y20_4), (3, .int y11_3), (0, .ref 0), (1, .long ar1)]) rfl rfl rfl rfl ?_
                  have L30 : ∀ (m30 : Nat) (gi30 : Nat → Nat → Int32) (gl30 : Nat → Nat → Int64) (gr30 : Nat → Nat → Value) (y30_5 : Int32), t_I sh gi30 gr30 → t_X wl_f_readings sh gi gl gr gi30 gl30 gr30 → t_Rv sh gr30 a7 → 0 ≤ y30_5.toInt → y30_5.toInt ≤ 13 → gi30 0 0 = (gi 0 0) → gr30 0 6 = .ref a7 → (13 - y30_5.toInt).toNat = m30 → x_Ev X (d + 4) n_X11_readings 97 [(5, .int y30_5), (4, .int y20_4), (3, .int y11_3), (0, .ref 0), (1, .long ar1)] [] (sh, gi30, gl30, gr30) (t_PI wl_f_readings sh gi gl gr (-1) 474 (Q_f_readings gi gl gr ar1)) := by
                    intro m30
                    induction m30 using Nat.strongRecOn with
                    | _ m30 ih30 =>
                    intro gi30 gl30 gr30 y30_5 hI hX p7 l30_5 u30_5 c30_1 c30_2 hm30
                    refine ev_loc f_X11_readings (nx := 99) rfl rfl rfl rfl ?_
                    refine ev_bp f_X11_readings (nx := 101) (v := 12) rfl (by decide) rfl ?_
                    refine ev_if f_X11_readings (t1 := 136) (t2 := 104) rfl rfl rfl (fun h31 => ?_) (fun h31 => ?_)
                    · have l32 : 13 ≤ y30_5.toInt := t_ltl h31 (by decide : (12:Int) ≤ (12:Int32).toInt) rfl
                      refine ev_incR f_X11_readings (nx := 139) (c := 1) (l := 1) (u := 6) rfl rfl (by decide) (by decide) l20_4 u26 rfl rfl (by decide) (by decide) rfl (fun z33 e33 l33 u33 => ?_)
                      refine ev_jmp f_X11_readings (nx := 73) rfl rfl rfl ?_
                      refine ev_sub (lo := [(4, .int z33), (3, .int y11_3), (0, .ref 0), (1, .long ar1)]) rfl (t_sc rfl (t_sc rfl (t_sc rfl (t_sc rfl t_sn)))) ?_
                      exact ih20 _ (by omega) gi30 gl30 gr30 (z33) hI hX p7 (Int.le_trans (by decide : (0:Int) ≤ 1) l33) u33 c30_1 c30_2 rfl
                    · have u34 : y30_5.toInt ≤ 12 := t_leu (t_nlt h31) (by decide : (12:Int32).toInt ≤ (12:Int))
                      refine ev_loc f_X11_readings (nx := 105) rfl rfl rfl rfl ?_
                      refine ev_getR f_X11_readings (nx := 108) (v := .ref a7) rfl (hI.wf.s rfl) rfl rfl c30_2 rfl rfl ?_
                      refine ev_loc f_X11_readings (nx := 109) rfl rfl rfl rfl ?_
                      refine ev_loc f_X11_readings (nx := 111) rfl rfl rfl rfl ?_
                      refine ev_loc f_X11_readings (nx := 113) rfl rfl rfl rfl ?_
                      refine ev_inV4 f_X11_readings (nx := 116) (lo2 := [(0, .ref a7), (1, .int y11_3), (2, .int y20_4), (3, .int y30_5)]) rfl rfl rfl rfl f_X5_bothHeard p7.1 rfl rfl rfl rfl rfl ?_
                      refine ev_loc f_X5_bothHeard (nx := 1) rfl rfl rfl rfl ?_
                      refine ev_loc f_X5_bothHeard (nx := 2) rfl rfl rfl rfl ?_
                      refine ev_cL f_X5_bothHeard (nx := 5) (r := []) rfl rfl rfl rfl rfl rfl rfl (c_heardOf hI (a7) p7 (y11_3)) rfl hX rfl (fun w35 gi35 gl35 gr35 hI hX hC35 => ?_)
                      replace p7 := p7.ext hC35.2
                      refine ev_loc f_X5_bothHeard (nx := 6) rfl rfl rfl rfl ?_
                      refine ev_loc f_X5_bothHeard (nx := 7) rfl rfl rfl rfl ?_
                      refine ev_cL f_X5_bothHeard (nx := 10) (r := [.long w35]) rfl rfl rfl rfl rfl rfl rfl (c_heardOf hI (a7) p7 (y20_4)) rfl hX rfl (fun w36 gi36 gl36 gr36 hI hX hC36 => ?_)
                      replace p7 := p7.ext hC36.2
                      refine ev_loc f_X5_bothHeard (nx := 11) rfl rfl rfl rfl ?_
                      refine ev_anyLE f_X5_bothHeard (nx := 12) rfl rfl rfl rfl (fun z37 e37 => ?_)
                      refine ev_anyLE f_X5_bothHeard (nx := 13) rfl rfl rfl rfl (fun z38 e38 => ?_)
                      refine ev_retK1 f_X5_bothHeard rfl rfl rfl ?_
                      refine ev_loc f_X11_readings (nx := 117) rfl rfl rfl rfl ?_
                      refine ev_anyIE f_X11_readings (nx := 118) rfl rfl rfl rfl (fun z39 e39 => ?_)
                      refine ev_if f_X11_readings (t1 := 121) (t2 := 130) rfl rfl rfl (fun h40 => ?_) (fun h40 => ?_)
                      · have u41 : z39.toInt ≤ 0 := t_equ h40 (by decide : (0:Int32).toInt ≤ (0:Int))
                        have l42 : 0 ≤ z39.toInt := t_eql h40 (by decide : (0:Int) ≤ (0:Int32).toInt)
                        refine ev_loc f_X11_readings (nx := 122) rfl rfl rfl rfl ?_
                        refine ev_loc f_X11_readings (nx := 123) rfl rfl rfl rfl ?_
                        refine ev_loc f_X11_readings (nx := 125) rfl rfl rfl rfl ?_
                        refine ev_loc f_X11_readings (nx := 127) rfl rfl rfl rfl ?_
                        refine ev_inV4 f_X11_readings (nx := 130) (lo2 := [(0, .ref 0), (1, .int y11_3), (2, .int y20_4), (3, .int y30_5)]) rfl rfl rfl rfl f_X11_addReading (hI.wf.s rfl) rfl rfl rfl rfl rfl ?_
                        refine ev_loc f_X11_addReading (nx := 1) rfl rfl rfl rfl ?_
                        refine ev_getI f_X11_addReading (nx := 4) rfl (hI.wf.s rfl) rfl rfl rfl ?_
                        obtain ⟨l43, u43⟩ := hI.b (hI.wf.s (k := 0) rfl) (t_bdK rfl : t_bd 10 14 = some (0, 474))
                        refine ev_sp f_X11_addReading (nx := 7) (v := 474) rfl (by decide) rfl ?_
                        refine ev_if f_X11_addReading (t1 := 60) (t2 := 10) rfl rfl rfl (fun h44 => ?_) (fun h44 => ?_)
                        · have l45 : 474 ≤ (gi36 0 14).toInt := t_lel h44 (by decide : (474:Int) ≤ (474:Int32).toInt)
                          refine ev_retK0 f_X11_addReading rfl rfl rfl ?_
                          refine ev_incR f_X11_readings (nx := 133) (c := 1) (l := 1) (u := 13) rfl rfl (by decide) (by decide) l30_5 u34 rfl rfl (by decide) (by decide) rfl (fun z46 e46 l46 u46 => ?_)
                          refine ev_jmp f_X11_readings (nx := 97) rfl rfl rfl ?_
                          refine ev_sub (lo := [(5, .int z46), (4, .int y20_4), (3, .int y11_3), (0, .ref 0), (1, .long ar1)]) rfl (t_sc rfl (t_sc rfl (t_sc rfl (t_sc rfl (t_sc rfl t_sn))))) ?_
                          exact ih30 _ (by omega) gi36 gl36 gr36 (z46) hI hX p7 (Int.le_trans (by decide : (0:Int) ≤ 1) l46) u46 ((hC36.1 0 0 rfl).1.trans ((hC35.1 0 0 rfl).1.trans c30_1)) ((hC36.1 0 6 rfl).2.2.trans ((hC35.1 0 6 rfl).2.2.trans c30_2)) rfl
                        · have u47 : (gi36 0 14).toInt ≤ 473 := t_ltu (t_nle h44) (by decide : (474:Int32).toInt ≤ (474:Int)) rfl
                          refine ev_loc f_X11_addReading (nx := 11) rfl rfl rfl rfl ?_
                          refine ev_getR f_X11_addReading (nx := 14) rfl (hI.wf.s rfl) rfl rfl (hI.wf.r rfl) rfl rfl ?_
                          refine ev_ic f_X11_addReading (nx := 15) (v := 3) rfl (by decide) rfl ?_
                          refine ev_loc f_X11_addReading (nx := 16) rfl rfl rfl rfl ?_
                          refine ev_gvI f_X11_addReading (nx := 19) (w := (gi36 0 14)) rfl (hI.wf.s rfl) rfl rfl rfl rfl ?_
                          refine ev_mulL f_X11_addReading (nx := 20) (c := 3) (l := 0) (u := 1419) rfl (by decide) (by decide) l43 u47 rfl rfl (by decide) (by decide) rfl (fun z48 e48 l48 u48 => ?_)
                          refine ev_loc f_X11_addReading (nx := 21) rfl rfl rfl rfl ?_
                          refine ev_iastT f_X11_addReading (nx := 22) rfl (hI.wf.s rfl) l48 (by decide) u48 (by decide) rfl (hI.astO (hI.wf.s rfl) (Or.inl (by decide)) (by decide +kernel)) (hX.upI (t_inA_ok rfl)) (fun g49 e49 hI hX => ?_)
                          refine ev_loc f_X11_addReading (nx := 23) rfl rfl rfl rfl ?_
                          refine ev_getR f_X11_addReading (nx := 26) rfl (hI.wf.s rfl) rfl rfl (hI.wf.r rfl) rfl rfl ?_
                          refine ev_ic f_X11_addReading (nx := 27) (v := 3) rfl (by decide) rfl ?_
                          refine ev_loc f_X11_addReading (nx := 28) rfl rfl rfl rfl ?_
                          refine ev_gvI f_X11_addReading (nx := 31) (w := (gi36 0 14)) rfl (hI.wf.s rfl) rfl rfl ((by rw [e49]; exact x_up2_off (Or.inl (by decide)) : g49 0 14 = gi36 0 14).trans rfl) rfl ?_
                          refine ev_mulL f_X11_addReading (nx := 32) (c := 3) (l := 0) (u := 1419) rfl (by decide) (by decide) l43 u47 rfl rfl (by decide) (by decide) rfl (fun z50 e50 l50 u50 => ?_)
                          refine ev_ic f_X11_addReading (nx := 33) (v := 1) rfl (by decide) rfl ?_
                          refine ev_addC f_X11_addReading (nx := 34) (c := 1) (l := 1) (u := 1420) rfl (by decide) l50 u50 rfl rfl (by decide) (by decide) rfl (fun z51 e51 l51 u51 => ?_)
                          refine ev_loc f_X11_addReading (nx := 35) rfl rfl rfl rfl ?_
                          refine ev_iastT f_X11_addReading (nx := 36) rfl (hI.wf.s rfl) l51 (by decide) u51 (by decide) rfl (hI.astO (hI.wf.s rfl) (Or.inl (by decide)) (by decide +kernel)) (hX.upI (t_inA_ok rfl)) (fun g52 e52 hI hX => ?_)
                          refine ev_loc f_X11_addReading (nx := 37) rfl rfl rfl rfl ?_
                          refine ev_getR f_X11_addReading (nx := 40) rfl (hI.wf.s rfl) rfl rfl (hI.wf.r rfl) rfl rfl ?_
                          refine ev_ic f_X11_addReading (nx := 41) (v := 3) rfl (by decide) rfl ?_
                          refine ev_loc f_X11_addReading (nx := 42) rfl rfl rfl rfl ?_
                          refine ev_gvI f_X11_addReading (nx := 45) (w := (gi36 0 14)) rfl (hI.wf.s rfl) rfl rfl ((by rw [e52]; exact x_up2_off (Or.inl (by decide)) : g52 0 14 = g49 0 14).trans ((by rw [e49]; exact x_up2_off (Or.inl (by decide)) : g49 0 14 = gi36 0 14).trans rfl)) rfl ?_
                          refine ev_mulL f_X11_addReading (nx := 46) (c := 3) (l := 0) (u := 1419) rfl (by decide) (by decide) l43 u47 rfl rfl (by decide) (by decide) rfl (fun z53 e53 l53 u53 => ?_)
                          refine ev_ic f_X11_addReading (nx := 47) (v := 2) rfl (by decide) rfl ?_
                          refine ev_addC f_X11_addReading (nx := 48) (c := 2) (l := 2) (u := 1421) rfl (by decide) l53 u53 rfl rfl (by decide) (by decide) rfl (fun z54 e54 l54 u54 => ?_)
                          refine ev_loc f_X11_addReading (nx := 49) rfl rfl rfl rfl ?_
                          refine ev_iastT f_X11_addReading (nx := 50) rfl (hI.wf.s rfl) l54 (by decide) u54 (by decide) rfl (hI.astO (hI.wf.s rfl) (Or.inl (by decide)) (by decide +kernel)) (hX.upI (t_inA_ok rfl)) (fun g55 e55 hI hX => ?_)
                          refine ev_loc f_X11_addReading (nx := 51) rfl rfl rfl rfl ?_
                          refine ev_alu f_X11_addReading (nx := 52) rfl rfl rfl rfl ?_
                          refine ev_gvI f_X11_addReading (nx := 55) (w := (gi36 0 14)) rfl (hI.wf.s rfl) rfl rfl ((by rw [e55]; exact x_up2_off (Or.inl (by decide)) : g55 0 14 = g52 0 14).trans ((by rw [e52]; exact x_up2_off (Or.inl (by decide)) : g52 0 14 = g49 0 14).trans ((by rw [e49]; exact x_up2_off (Or.inl (by decide)) : g49 0 14 = gi36 0 14).trans rfl))) rfl ?_
                          refine ev_ic f_X11_addReading (nx := 56) (v := 1) rfl (by decide) rfl ?_
                          refine ev_addC f_X11_addReading (nx := 57) (c := 1) (l := 1) (u := 474) rfl (by decide) l43 u47 rfl rfl (by decide) (by decide) rfl (fun z56 e56 l56 u56 => ?_)
                          refine ev_putIT f_X11_addReading (nx := 60) rfl (hI.wf.s rfl) rfl rfl rfl (hI.putB (hI.wf.s rfl) rfl rfl l56 (by decide) u56 (by decide)) (hX.upI rfl) (fun g57 e57 hI hX => ?_)
                          refine ev_retK0 f_X11_addReading rfl rfl rfl ?_
                          refine ev_incR f_X11_readings (nx := 133) (c := 1) (l := 1) (u := 13) rfl rfl (by decide) (by decide) l30_5 u34 rfl rfl (by decide) (by decide) rfl (fun z58 e58 l58 u58 => ?_)
                          refine ev_jmp f_X11_readings (nx := 97) rfl rfl rfl ?_
                          refine ev_sub (lo := [(5, .int z58), (4, .int y20_4), (3, .int y11_3), (0, .ref 0), (1, .long ar1)]) rfl (t_sc rfl (t_sc rfl (t_sc rfl (t_sc rfl (t_sc rfl t_sn))))) ?_
                          exact ih30 _ (by omega) g57 gl36 gr36 (z58) hI hX p7 (Int.le_trans (by decide : (0:Int) ≤ 1) l58) u58 ((by rw [e57]; exact x_up2_off (Or.inr (by decide)) : g57 0 0 = g55 0 0).trans ((by rw [e55]; exact x_up2_off (Or.inl (by decide)) : g55 0 0 = g52 0 0).trans ((by rw [e52]; exact x_up2_off (Or.inl (by decide)) : g52 0 0 = g49 0 0).trans ((by rw [e49]; exact x_up2_off (Or.inl (by decide)) : g49 0 0 = gi36 0 0).trans ((hC36.1 0 0 rfl).1.trans ((hC35.1 0 0 rfl).1.trans c30_1)))))) ((hC36.1 0 6 rfl).2.2.trans ((hC35.1 0 6 rfl).2.2.trans c30_2)) rfl
                      · have r59 : z39.toInt ≠ 0 := fun e => h40 (Int32.toInt_inj.mp (e.trans (by decide : (0:Int) = (0 : Int32).toInt)))
                        refine ev_incR f_X11_readings (nx := 133) (c := 1) (l := 1) (u := 13) rfl rfl (by decide) (by decide) l30_5 u34 rfl rfl (by decide) (by decide) rfl (fun z60 e60 l60 u60 => ?_)
                        refine ev_jmp f_X11_readings (nx := 97) rfl rfl rfl ?_
                        refine ev_sub (lo := [(5, .int z60), (4, .int y20_4), (3, .int y11_3), (0, .ref 0), (1, .long ar1)]) rfl (t_sc rfl (t_sc rfl (t_sc rfl (t_sc rfl (t_sc rfl t_sn))))) ?_
                        exact ih30 _ (by omega) gi36 gl36 gr36 (z60) hI hX p7 (Int.le_trans (by decide : (0:Int) ≤ 1) l60) u60 ((hC36.1 0 0 rfl).1.trans ((hC35.1 0 0 rfl).1.trans c30_1)) ((hC36.1 0 6 rfl).2.2.trans ((hC35.1 0 6 rfl).2.2.trans c30_2)) rfl
                  refine ev_sub (lo := [(5, .int 0), (4, .int y20_4), (3, .int y11_3), (0, .ref 0), (1, .long ar1)]) rfl (t_sc rfl (t_sc rfl (t_sc rfl (t_sc rfl (t_sc rfl t_sn))))) ?_
                  exact L30 _ gi20 gl20 gr20 (0) hI hX p7 (by decide : (0:Int) ≤ (0:Int32).toInt) (Int.le_trans (by decide : (0:Int32).toInt ≤ (0:Int)) (by decide : (0:Int) ≤ 13)) c20_1 c20_2 rfl
                · have r61 : y20_4.toInt < y11_3.toInt := Int32.lt_iff_toInt_lt.mp (t_nle h28)
                  have u62 : y20_4.toInt ≤ 4 := t_ltu (t_nle h28) u18 rfl
                  have l63 : 1 ≤ y11_3.toInt := t_ltl (t_nle h28) l20_4 rfl
                  refine ev_ic f_X5_leastBeats (nx := 6) (v := 1) rfl (by decide) rfl ?_
                  refine ev_jmp f_X5_leastBeats (nx := 10) rfl rfl rfl ?_
                  refine ev_retK1 f_X5_leastBeats rfl rfl rfl ?_
                  refine ev_loc f_X11_readings (nx := 97) (lo' := [(5, .int 1), (4, .int y20_4), (3, .int y11_3), (0, .ref 0), (1, .long ar1)]) rfl rfl rfl rfl ?_
                  have L64 : ∀ (m64 : Nat) (gi64 : Nat → Nat → Int32) (gl64 : Nat → Nat → Int64) (gr64 : Nat → Nat → Value) (y64_5 : Int32), t_I sh gi64 gr64 → t_X wl_f_readings sh gi gl gr gi64 gl64 gr64 → t_Rv sh gr64 a7 → 0 ≤ y64_5.toInt → y64_5.toInt ≤ 13 → gi64 0 0 = (gi 0 0) → gr64 0 6 = .ref a7 → (13 - y64_5.toInt).toNat = m64 → x_Ev X (d + 4) n_X11_readings 97 [(5, .int y64_5), (4, .int y20_4), (3, .int y11_3), (0, .ref 0), (1, .long ar1)] [] (sh, gi64, gl64, gr64) (t_PI wl_f_readings sh gi gl gr (-1) 474 (Q_f_readings gi gl gr ar1)) := by
                    intro m64
                    induction m64 using Nat.strongRecOn with
                    | _ m64 ih64 =>
                    intro gi64 gl64 gr64 y64_5 hI hX p7 l64_5 u64_5 c64_1 c64_2 hm64
                    refine ev_loc f_X11_readings (nx := 99) rfl rfl rfl rfl ?_
                    refine ev_bp f_X11_readings (nx := 101) (v := 12) rfl (by decide) rfl ?_
                    refine ev_if f_X11_readings (t1 := 136) (t2 := 104) rfl rfl rfl (fun h65 => ?_) (fun h65 => ?_)
                    · have l66 : 13 ≤ y64_5.toInt := t_ltl h65 (by decide : (12:Int) ≤ (12:Int32).toInt) rfl
                      refine ev_incR f_X11_readings (nx := 139) (c := 1) (l := 1) (u := 5) rfl rfl (by decide) (by decide) l20_4 u62 rfl rfl (by decide) (by decide) rfl (fun z67 e67 l67 u67 => ?_)
                      refine ev_jmp f_X11_readings (nx := 73) rfl rfl rfl ?_
                      refine ev_sub (lo := [(4, .int z67), (3, .int y11_3), (0, .ref 0), (1, .long ar1)]) rfl (t_sc rfl (t_sc rfl (t_sc rfl (t_sc rfl t_sn)))) ?_
                      exact ih20 _ (by omega) gi64 gl64 gr64 (z67) hI hX p7 (Int.le_trans (by decide : (0:Int) ≤ 1) l67) (Int.le_trans u67 (by decide : (5:Int) ≤ 6)) c64_1 c64_2 rfl
                    · have u68 : y64_5.toInt ≤ 12 := t_leu (t_nlt h65) (by decide : (12:Int32).toInt ≤ (12:Int))
                      refine ev_loc f_X11_readings (nx := 105) rfl rfl rfl rfl ?_
                      refine ev_getR f_X11_readings (nx := 108) (v := .ref a7) rfl (hI.wf.s rfl) rfl rfl c64_2 rfl rfl ?_
                      refine ev_loc f_X11_readings (nx := 109) rfl rfl rfl rfl ?_
                      refine ev_loc f_X11_readings (nx := 111) rfl rfl rfl rfl ?_
                      refine ev_loc f_X11_readings (nx := 113) rfl rfl rfl rfl ?_
                      refine ev_inV4 f_X11_readings (nx := 116) (lo2 := [(0, .ref a7), (1, .int y11_3), (2, .int y20_4), (3, .int y64_5)]) rfl rfl rfl rfl f_X5_bothHeard p7.1 rfl rfl rfl rfl rfl ?_
                      refine ev_loc f_X5_bothHeard (nx := 1) rfl rfl rfl rfl ?_
                      refine ev_loc f_X5_bothHeard (nx := 2) rfl rfl rfl rfl ?_
                      refine ev_cL f_X5_bothHeard (nx := 5) (r := []) rfl rfl rfl rfl rfl rfl rfl (c_heardOf hI (a7) p7 (y11_3)) rfl hX rfl (fun w69 gi69 gl69 gr69 hI hX hC69 => ?_)
                      replace p7 := p7.ext hC69.2
                      refine ev_loc f_X5_bothHeard (nx := 6) rfl rfl rfl rfl ?_
                      refine ev_loc f_X5_bothHeard (nx := 7) rfl rfl rfl rfl ?_
                      refine ev_cL f_X5_bothHeard (nx := 10) (r := [.long w69]) rfl rfl rfl rfl rfl rfl rfl (c_heardOf hI (a7) p7 (y20_4)) rfl hX rfl (fun w70 gi70 gl70 gr70 hI hX hC70 => ?_)
                      replace p7 := p7.ext hC70.2
                      refine ev_loc f_X5_bothHeard (nx := 11) rfl rfl rfl rfl ?_
                      refine ev_anyLE f_X5_bothHeard (nx := 12) rfl rfl rfl rfl (fun z71 e71 => ?_)
                      refine ev_anyLE f_X5_bothHeard (nx := 13) rfl rfl rfl rfl (fun z72 e72 => ?_)
                      refine ev_retK1 f_X5_bothHeard rfl rfl rfl ?_
                      refine ev_loc f_X11_readings (nx := 117) rfl rfl rfl rfl ?_
                      refine ev_anyIE f_X11_readings (nx := 118) rfl rfl rfl rfl (fun z73 e73 => ?_)
                      refine ev_if f_X11_readings (t1 := 121) (t2 := 130) rfl rfl rfl (fun h74 => ?_) (fun h74 => ?_)
                      · have u75 : z73.toInt ≤ 0 := t_equ h74 (by decide : (0:Int32).toInt ≤ (0:Int))
                        have l76 : 0 ≤ z73.toInt := t_eql h74 (by decide : (0:Int) ≤ (0:Int32).toInt)
                        refine ev_loc f_X11_readings (nx := 122) rfl rfl rfl rfl ?_
                        refine ev_loc f_X11_readings (nx := 123) rfl rfl rfl rfl ?_
                        refine ev_loc f_X11_readings (nx := 125) rfl rfl rfl rfl ?_
                        refine ev_loc f_X11_readings (nx := 127) rfl rfl rfl rfl ?_
                        refine ev_inV4 f_X11_readings (nx := 130) (lo2 := [(0, .ref 0), (1, .int y11_3), (2, .int y20_4), (3, .int y64_5)]) rfl rfl rfl rfl f_X11_addReading (hI.wf.s rfl) rfl rfl rfl rfl rfl ?_
                        refine ev_loc f_X11_addReading (nx := 1) rfl rfl rfl rfl ?_
                        refine ev_getI f_X11_addReading (nx := 4) rfl (hI.wf.s rfl) rfl rfl rfl ?_
                        obtain ⟨l77, u77⟩ := hI.b (hI.wf.s (k := 0) rfl) (t_bdK rfl : t_bd 10 14 = some (0, 474))
                        refine ev_sp f_X11_addReading (nx := 7) (v := 474) rfl (by decide) rfl ?_
                        refine ev_if f_X11_addReading (t1 := 60) (t2 := 10) rfl rfl rfl (fun h78 => ?_) (fun h78 => ?_)
                        · have l79 : 474 ≤ (gi70 0 14).toInt := t_lel h78 (by decide : (474:Int) ≤ (474:Int32).toInt)
                          refine ev_retK0 f_X11_addReading rfl rfl rfl ?_
                          refine ev_incR f_X11_readings (nx := 133) (c := 1) (l := 1) (u := 13) rfl rfl (by decide) (by decide) l64_5 u68 rfl rfl (by decide) (by decide) rfl (fun z80 e80 l80 u80 => ?_)
                          refine ev_jmp f_X11_readings (nx := 97) rfl rfl rfl ?_
                          refine ev_sub (lo := [(5, .int z80), (4, .int y20_4), (3, .int y11_3), (0, .ref 0), (1, .long ar1)]) rfl (t_sc rfl (t_sc rfl (t_sc rfl (t_sc rfl (t_sc rfl t_sn))))) ?_
                          exact ih64 _ (by omega) gi70 gl70 gr70 (z80) hI hX p7 (Int.le_trans (by decide : (0:Int) ≤ 1) l80) u80 ((hC70.1 0 0 rfl).1.trans ((hC69.1 0 0 rfl).1.trans c64_1)) ((hC70.1 0 6 rfl).2.2.trans ((hC69.1 0 6 rfl).2.2.trans c64_2)) rfl
                        · have u81 : (gi70 0 14).toInt ≤ 473 := t_ltu (t_nle h78) (by decide : (474:Int32).toInt ≤ (474:Int)) rfl
                          refine ev_loc f_X11_addReading (nx := 11) rfl rfl rfl rfl ?_
                          refine ev_getR f_X11_addReading (nx := 14) rfl (hI.wf.s rfl) rfl rfl (hI.wf.r rfl) rfl rfl ?_
                          refine ev_ic f_X11_addReading (nx := 15) (v := 3) rfl (by decide) rfl ?_
                          refine ev_loc f_X11_addReading (nx := 16) rfl rfl rfl rfl ?_
                          refine ev_gvI f_X11_addReading (nx := 19) (w := (gi70 0 14)) rfl (hI.wf.s rfl) rfl rfl rfl rfl ?_
                          refine ev_mulL f_X11_addReading (nx := 20) (c := 3) (l := 0) (u := 1419) rfl (by decide) (by decide) l77 u81 rfl rfl (by decide) (by decide) rfl (fun z82 e82 l82 u82 => ?_)
                          refine ev_loc f_X11_addReading (nx := 21) rfl rfl rfl rfl ?_
                          refine ev_iastT f_X11_addReading (nx := 22) rfl (hI.wf.s rfl) l82 (by decide) u82 (by decide) rfl (hI.astO (hI.wf.s rfl) (Or.inl (by decide)) (by decide +kernel)) (hX.upI (t_inA_ok rfl)) (fun g83 e83 hI hX => ?_)
                          refine ev_loc f_X11_addReading (nx := 23) rfl rfl rfl rfl ?_
                          refine ev_getR f_X11_addReading (nx := 26) rfl (hI.wf.s rfl) rfl rfl (hI.wf.r rfl) rfl rfl ?_
                          refine ev_ic f_X11_addReading (nx := 27) (v := 3) rfl (by decide) rfl ?_
                          refine ev_loc f_X11_addReading (nx := 28) rfl rfl rfl rfl ?_
                          refine ev_gvI f_X11_addReading (nx := 31) (w := (gi70 0 14)) rfl (hI.wf.s rfl) rfl rfl ((by rw [e83]; exact x_up2_off (Or.inl (by decide)) : g83 0 14 = gi70 0 14).trans rfl) rfl ?_
                          refine ev_mulL f_X11_addReading (nx := 32) (c := 3) (l := 0) (u := 1419) rfl (by decide) (by decide) l77 u81 rfl rfl (by decide) (by decide) rfl (fun z84 e84 l84 u84 => ?_)
                          refine ev_ic f_X11_addReading (nx := 33) (v := 1) rfl (by decide) rfl ?_
                          refine ev_addC f_X11_addReading (nx := 34) (c := 1) (l := 1) (u := 1420) rfl (by decide) l84 u84 rfl rfl (by decide) (by decide) rfl (fun z85 e85 l85 u85 => ?_)
                          refine ev_loc f_X11_addReading (nx := 35) rfl rfl rfl rfl ?_
                          refine ev_iastT f_X11_addReading (nx := 36) rfl (hI.wf.s rfl) l85 (by decide) u85 (by decide) rfl (hI.astO (hI.wf.s rfl) (Or.inl (by decide)) (by decide +kernel)) (hX.upI (t_inA_ok rfl)) (fun g86 e86 hI hX => ?_)
                          refine ev_loc f_X11_addReading (nx := 37) rfl rfl rfl rfl ?_
                          refine ev_getR f_X11_addReading (nx := 40) rfl (hI.wf.s rfl) rfl rfl (hI.wf.r rfl) rfl rfl ?_
                          refine ev_ic f_X11_addReading (nx := 41) (v := 3) rfl (by decide) rfl ?_
                          refine ev_loc f_X11_addReading (nx := 42) rfl rfl rfl rfl ?_
                          refine ev_gvI f_X11_addReading (nx := 45) (w := (gi70 0 14)) rfl (hI.wf.s rfl) rfl rfl ((by rw [e86]; exact x_up2_off (Or.inl (by decide)) : g86 0 14 = g83 0 14).trans ((by rw [e83]; exact x_up2_off (Or.inl (by decide)) : g83 0 14 = gi70 0 14).trans rfl)) rfl ?_
                          refine ev_mulL f_X11_addReading (nx := 46) (c := 3) (l := 0) (u := 1419) rfl (by decide) (by decide) l77 u81 rfl rfl (by decide) (by decide) rfl (fun z87 e87 l87 u87 => ?_)
                          refine ev_ic f_X11_addReading (nx := 47) (v := 2) rfl (by decide) rfl ?_
                          refine ev_addC f_X11_addReading (nx := 48) (c := 2) (l := 2) (u := 1421) rfl (by decide) l87 u87 rfl rfl (by decide) (by decide) rfl (fun z88 e88 l88 u88 => ?_)
                          refine ev_loc f_X11_addReading (nx := 49) rfl rfl rfl rfl ?_
                          refine ev_iastT f_X11_addReading (nx := 50) rfl (hI.wf.s rfl) l88 (by decide) u88 (by decide) rfl (hI.astO (hI.wf.s rfl) (Or.inl (by decide)) (by decide +kernel)) (hX.upI (t_inA_ok rfl)) (fun g89 e89 hI hX => ?_)
                          refine ev_loc f_X11_addReading (nx := 51) rfl rfl rfl rfl ?_
                          refine ev_alu f_X11_addReading (nx := 52) rfl rfl rfl rfl ?_
                          refine ev_gvI f_X11_addReading (nx := 55) (w := (gi70 0 14)) rfl (hI.wf.s rfl) rfl rfl ((by rw [e89]; exact x_up2_off (Or.inl (by decide)) : g89 0 14 = g86 0 14).trans ((by rw [e86]; exact x_up2_off (Or.inl (by decide)) : g86 0 14 = g83 0 14).trans ((by rw [e83]; exact x_up2_off (Or.inl (by decide)) : g83 0 14 = gi70 0 14).trans rfl))) rfl ?_
                          refine ev_ic f_X11_addReading (nx := 56) (v := 1) rfl (by decide) rfl ?_
                          refine ev_addC f_X11_addReading (nx := 57) (c := 1) (l := 1) (u := 474) rfl (by decide) l77 u81 rfl rfl (by decide) (by decide) rfl (fun z90 e90 l90 u90 => ?_)
                          refine ev_putIT f_X11_addReading (nx := 60) rfl (hI.wf.s rfl) rfl rfl rfl (hI.putB (hI.wf.s rfl) rfl rfl l90 (by decide) u90 (by decide)) (hX.upI rfl) (fun g91 e91 hI hX => ?_)
                          refine ev_retK0 f_X11_addReading rfl rfl rfl ?_
                          refine ev_incR f_X11_readings (nx := 133) (c := 1) (l := 1) (u := 13) rfl rfl (by decide) (by decide) l64_5 u68 rfl rfl (by decide) (by decide) rfl (fun z92 e92 l92 u92 => ?_)
                          refine ev_jmp f_X11_readings (nx := 97) rfl rfl rfl ?_
                          refine ev_sub (lo := [(5, .int z92), (4, .int y20_4), (3, .int y11_3), (0, .ref 0), (1, .long ar1)]) rfl (t_sc rfl (t_sc rfl (t_sc rfl (t_sc rfl (t_sc rfl t_sn))))) ?_
                          exact ih64 _ (by omega) g91 gl70 gr70 (z92) hI hX p7 (Int.le_trans (by decide : (0:Int) ≤ 1) l92) u92 ((by rw [e91]; exact x_up2_off (Or.inr (by decide)) : g91 0 0 = g89 0 0).trans ((by rw [e89]; exact x_up2_off (Or.inl (by decide)) : g89 0 0 = g86 0 0).trans ((by rw [e86]; exact x_up2_off (Or.inl (by decide)) : g86 0 0 = g83 0 0).trans ((by rw [e83]; exact x_up2_off (Or.inl (by decide)) : g83 0 0 = gi70 0 0).trans ((hC70.1 0 0 rfl).1.trans ((hC69.1 0 0 rfl).1.trans c64_1)))))) ((hC70.1 0 6 rfl).2.2.trans ((hC69.1 0 6 rfl).2.2.trans c64_2)) rfl
                      · have r93 : z73.toInt ≠ 0 := fun e => h74 (Int32.toInt_inj.mp (e.trans (by decide : (0:Int) = (0 : Int32).toInt)))
                        refine ev_incR f_X11_readings (nx := 133) (c := 1) (l := 1) (u := 13) rfl rfl (by decide) (by decide) l64_5 u68 rfl rfl (by decide) (by decide) rfl (fun z94 e94 l94 u94 => ?_)
                        refine ev_jmp f_X11_readings (nx := 97) rfl rfl rfl ?_
                        refine ev_sub (lo := [(5, .int z94), (4, .int y20_4), (3, .int y11_3), (0, .ref 0), (1, .long ar1)]) rfl (t_sc rfl (t_sc rfl (t_sc rfl (t_sc rfl (t_sc rfl t_sn))))) ?_
                        exact ih64 _ (by omega) gi70 gl70 gr70 (z94) hI hX p7 (Int.le_trans (by decide : (0:Int) ≤ 1) l94) u94 ((hC70.1 0 0 rfl).1.trans ((hC69.1 0 0 rfl).1.trans c64_1)) ((hC70.1 0 6 rfl).2.2.trans ((hC69.1 0 6 rfl).2.2.trans c64_2)) rfl
                  refine ev_sub (lo := [(5, .int 1), (4, .int y20_4), (3, .int y11_3), (0, .ref 0), (1, .long ar1)]) rfl (t_sc rfl (t_sc rfl (t_sc rfl (t_sc rfl (t_sc rfl t_sn))))) ?_
                  exact L64 _ gi20 gl20 gr20 (1) hI hX p7 (Int.le_trans (by decide : (0:Int) ≤ 1) (by decide : (1:Int) ≤ (1:Int32).toInt)) (Int.le_trans (by decide : (1:Int32).toInt ≤ (1:Int)) (by decide : (1:Int) ≤ 13)) c20_1 c20_2 rfl
            refine ev_sub (lo := [(4, .int 0), (3, .int y11_3), (0, .ref 0), (1, .long ar1)]) rfl (t_sc rfl (t_sc rfl (t_sc rfl (t_sc rfl t_sn)))) ?_
            exact L20 _ gi11 gl11 gr11 (0) hI hX p7 (by decide : (0:Int) ≤ (0:Int32).toInt) (Int.le_trans (by decide : (0:Int32).toInt ≤ (0:Int)) (by decide : (0:Int) ≤ 6)) c11_1 c11_2 rfl
        refine ev_sub (lo := [(3, .int 0), (0, .ref 0), (1, .long ar1)]) rfl (t_sc rfl (t_sc rfl (t_sc rfl t_sn))) ?_
        exact L11 _ gi6 gl6 gr6 (0) hI hX p7 (by decide : (0:Int) ≤ (0:Int32).toInt) (Int.le_trans (by decide : (0:Int32).toInt ≤ (0:Int)) (by decide : (0:Int) ≤ 6)) c6_0 e7 rfl
      · have r95 : y6_3.toInt < (gi6 a7 0).toInt := Int32.lt_iff_toInt_lt.mp (t_nle h9)
        have u96 : y6_3.toInt ≤ 5 := t_ltu (t_nle h9) u8 rfl
        have l97 : 1 ≤ (gi6 a7 0).toInt := t_ltl (t_nle h9) l6_3 rfl
        refine ev_loc f_X11_readings (nx := 31) rfl rfl rfl rfl ?_
        refine ev_getR f_X11_readings (nx := 34) (v := .ref a7) rfl (hI.wf.s rfl) rfl rfl e7 rfl rfl ?_
        refine ev_loc f_X11_readings (nx := 35) rfl rfl rfl rfl ?_
        refine ev_cL f_X11_readings (nx := 38) (r := []) rfl rfl rfl rfl rfl rfl rfl (c_heardOf hI (a7) p7 (y6_3)) rfl hX rfl (fun w98 gi98 gl98 gr98 hI hX hC98 => ?_)
        replace p7 := p7.ext hC98.2
        refine ev_loc f_X11_readings (nx := 39) rfl rfl rfl rfl ?_
        refine ev_anyIE f_X11_readings (nx := 40) rfl rfl rfl rfl (fun z99 e99 => ?_)
        refine ev_if f_X11_readings (t1 := 43) (t2 := 51) rfl rfl rfl (fun h100 => ?_) (fun h100 => ?_)
        · have u101 : z99.toInt ≤ 0 := t_equ h100 (by decide : (0:Int32).toInt ≤ (0:Int))
          have l102 : 0 ≤ z99.toInt := t_eql h100 (by decide : (0:Int) ≤ (0:Int32).toInt)
          refine ev_loc f_X11_readings (nx := 44) rfl rfl rfl rfl ?_
          refine ev_loc f_X11_readings (nx := 45) rfl rfl rfl rfl ?_
          refine ev_bp f_X11_readings (nx := 47) (v := 6) rfl (by decide) rfl ?_
          refine ev_ic f_X11_readings (nx := 48) (v := 0) rfl (by decide) rfl ?_
          refine ev_inV4 f_X11_readings (nx := 51) (lo2 := [(0, .ref 0), (1, .int y6_3), (2, .int 6), (3, .int 0)]) rfl rfl rfl rfl f_X11_addReading (hI.wf.s rfl) rfl rfl rfl rfl rfl ?_
          refine ev_loc f_X11_addReading (nx := 1) rfl rfl rfl rfl ?_
          refine ev_getI f_X11_addReading (nx := 4) rfl (hI.wf.s rfl) rfl rfl rfl ?_
          obtain ⟨l103, u103⟩ := hI.b (hI.wf.s (k := 0) rfl) (t_bdK rfl : t_bd 10 14 = some (0, 474))
          refine ev_sp f_X11_addReading (nx := 7) (v := 474) rfl (by decide) rfl ?_
          refine ev_if f_X11_addReading (t1 := 60) (t2 := 10) rfl rfl rfl (fun h104 => ?_) (fun h104 => ?_)
          · have l105 : 474 ≤ (gi98 0 14).toInt := t_lel h104 (by decide : (474:Int) ≤ (474:Int32).toInt)
            refine ev_retK0 f_X11_addReading rfl rfl rfl ?_
            refine ev_incR f_X11_readings (nx := 54) (c := 1) (l := 1) (u := 6) rfl rfl (by decide) (by decide) l6_3 u96 rfl rfl (by decide) (by decide) rfl (fun z106 e106 l106 u106 => ?_)
            refine ev_jmp f_X11_readings (nx := 19) rfl rfl rfl ?_
            refine ev_sub (lo := [(3, .int z106), (0, .ref 0), (1, .long ar1)]) rfl (t_sc rfl (t_sc rfl (t_sc rfl t_sn))) ?_
            exact ih6 _ (by omega) gi98 gl98 gr98 (z106) hI hX  (Int.le_trans (by decide : (0:Int) ≤ 1) l106) u106 ((hC98.1 0 0 rfl).1.trans c6_0) rfl
          · have u107 : (gi98 0 14).toInt ≤ 473 := t_ltu (t_nle h104) (by decide : (474:Int32).toInt ≤ (474:Int)) rfl
            refine ev_loc f_X11_addReading (nx := 11) rfl rfl rfl rfl ?_
            refine ev_getR f_X11_addReading (nx := 14) rfl (hI.wf.s rfl) rfl rfl (hI.wf.r rfl) rfl rfl ?_
            refine ev_ic f_X11_addReading (nx := 15) (v := 3) rfl (by decide) rfl ?_
            refine ev_loc f_X11_addReading (nx := 16) rfl rfl rfl rfl ?_
            refine ev_gvI f_X11_addReading (nx := 19) (w := (gi98 0 14)) rfl (hI.wf.s rfl) rfl rfl rfl rfl ?_
            refine ev_mulL f_X11_addReading (nx := 20) (c := 3) (l := 0) (u := 1419) rfl (by decide) (by decide) l103 u107 rfl rfl (by decide) (by decide) rfl (fun z108 e108 l108 u108 => ?_)
            refine ev_loc f_X11_addReading (nx := 21) rfl rfl rfl rfl ?_
            refine ev_iastT f_X11_addReading (nx := 22) rfl (hI.wf.s rfl) l108 (by decide) u108 (by decide) rfl (hI.astO (hI.wf.s rfl) (Or.inl (by decide)) (by decide +kernel)) (hX.upI (t_inA_ok rfl)) (fun g109 e109 hI hX => ?_)
            refine ev_loc f_X11_addReading (nx := 23) rfl rfl rfl rfl ?_
            refine ev_getR f_X11_addReading (nx := 26) rfl (hI.wf.s rfl) rfl rfl (hI.wf.r rfl) rfl rfl ?_
            refine ev_ic f_X11_addReading (nx := 27) (v := 3) rfl (by decide) rfl ?_
            refine ev_loc f_X11_addReading (nx := 28) rfl rfl rfl rfl ?_
            refine ev_gvI f_X11_addReading (nx := 31) (w := (gi98 0 14)) rfl (hI.wf.s rfl) rfl rfl ((by rw [e109]; exact x_up2_off (Or.inl (by decide)) : g109 0 14 = gi98 0 14).trans rfl) rfl ?_
            refine ev_mulL f_X11_addReading (nx := 32) (c := 3) (l := 0) (u := 1419) rfl (by decide) (by decide) l103 u107 rfl rfl (by decide) (by decide) rfl (fun z110 e110 l110 u110 => ?_)
            refine ev_ic f_X11_addReading (nx := 33) (v := 1) rfl (by decide) rfl ?_
            refine ev_addC f_X11_addReading (nx := 34) (c := 1) (l := 1) (u := 1420) rfl (by decide) l110 u110 rfl rfl (by decide) (by decide) rfl (fun z111 e111 l111 u111 => ?_)
            refine ev_loc f_X11_addReading (nx := 35) rfl rfl rfl rfl ?_
            refine ev_iastT f_X11_addReading (nx := 36) rfl (hI.wf.s rfl) l111 (by decide) u111 (by decide) rfl (hI.astO (hI.wf.s rfl) (Or.inl (by decide)) (by decide +kernel)) (hX.upI (t_inA_ok rfl)) (fun g112 e112 hI hX => ?_)
            refine ev_loc f_X11_addReading (nx := 37) rfl rfl rfl rfl ?_
            refine ev_getR f_X11_addReading (nx := 40) rfl (hI.wf.s rfl) rfl rfl (hI.wf.r rfl) rfl rfl ?_
            refine ev_ic f_X11_addReading (nx := 41) (v := 3) rfl (by decide) rfl ?_
            refine ev_loc f_X11_addReading (nx := 42) rfl rfl rfl rfl ?_
            refine ev_gvI f_X11_addReading (nx := 45) (w := (gi98 0 14)) rfl (hI.wf.s rfl) rfl rfl ((by rw [e112]; exact x_up2_off (Or.inl (by decide)) : g112 0 14 = g109 0 14).trans ((by rw [e109]; exact x_up2_off (Or.inl (by decide)) : g109 0 14 = gi98 0 14).trans rfl)) rfl ?_
            refine ev_mulL f_X11_addReading (nx := 46) (c := 3) (l := 0) (u := 1419) rfl (by decide) (by decide) l103 u107 rfl rfl (by decide) (by decide) rfl (fun z113 e113 l113 u113 => ?_)
            refine ev_ic f_X11_addReading (nx := 47) (v := 2) rfl (by decide) rfl ?_
            refine ev_addC f_X11_addReading (nx := 48) (c := 2) (l := 2) (u := 1421) rfl (by decide) l113 u113 rfl rfl (by decide) (by decide) rfl (fun z114 e114 l114 u114 => ?_)
            refine ev_loc f_X11_addReading (nx := 49) rfl rfl rfl rfl ?_
            refine ev_iastT f_X11_addReading (nx := 50) rfl (hI.wf.s rfl) l114 (by decide) u114 (by decide) rfl (hI.astO (hI.wf.s rfl) (Or.inl (by decide)) (by decide +kernel)) (hX.upI (t_inA_ok rfl)) (fun g115 e115 hI hX => ?_)
            refine ev_loc f_X11_addReading (nx := 51) rfl rfl rfl rfl ?_
            refine ev_alu f_X11_addReading (nx := 52) rfl rfl rfl rfl ?_
            refine ev_gvI f_X11_addReading (nx := 55) (w := (gi98 0 14)) rfl (hI.wf.s rfl) rfl rfl ((by rw [e115]; exact x_up2_off (Or.inl (by decide)) : g115 0 14 = g112 0 14).trans ((by rw [e112]; exact x_up2_off (Or.inl (by decide)) : g112 0 14 = g109 0 14).trans ((by rw [e109]; exact x_up2_off (Or.inl (by decide)) : g109 0 14 = gi98 0 14).trans rfl))) rfl ?_
            refine ev_ic f_X11_addReading (nx := 56) (v := 1) rfl (by decide) rfl ?_
            refine ev_addC f_X11_addReading (nx := 57) (c := 1) (l := 1) (u := 474) rfl (by decide) l103 u107 rfl rfl (by decide) (by decide) rfl (fun z116 e116 l116 u116 => ?_)
            refine ev_putIT f_X11_addReading (nx := 60) rfl (hI.wf.s rfl) rfl rfl rfl (hI.putB (hI.wf.s rfl) rfl rfl l116 (by decide) u116 (by decide)) (hX.upI rfl) (fun g117 e117 hI hX => ?_)
            refine ev_retK0 f_X11_addReading rfl rfl rfl ?_
            refine ev_incR f_X11_readings (nx := 54) (c := 1) (l := 1) (u := 6) rfl rfl (by decide) (by decide) l6_3 u96 rfl rfl (by decide) (by decide) rfl (fun z118 e118 l118 u118 => ?_)
            refine ev_jmp f_X11_readings (nx := 19) rfl rfl rfl ?_
            refine ev_sub (lo := [(3, .int z118), (0, .ref 0), (1, .long ar1)]) rfl (t_sc rfl (t_sc rfl (t_sc rfl t_sn))) ?_
            exact ih6 _ (by omega) g117 gl98 gr98 (z118) hI hX  (Int.le_trans (by decide : (0:Int) ≤ 1) l118) u118 ((by rw [e117]; exact x_up2_off (Or.inr (by decide)) : g117 0 0 = g115 0 0).trans ((by rw [e115]; exact x_up2_off (Or.inl (by decide)) : g115 0 0 = g112 0 0).trans ((by rw [e112]; exact x_up2_off (Or.inl (by decide)) : g112 0 0 = g109 0 0).trans ((by rw [e109]; exact x_up2_off (Or.inl (by decide)) : g109 0 0 = gi98 0 0).trans ((hC98.1 0 0 rfl).1.trans c6_0))))) rfl
        · have r119 : z99.toInt ≠ 0 := fun e => h100 (Int32.toInt_inj.mp (e.trans (by decide : (0:Int) = (0 : Int32).toInt)))
          refine ev_incR f_X11_readings (nx := 54) (c := 1) (l := 1) (u := 6) rfl rfl (by decide) (by decide) l6_3 u96 rfl rfl (by decide) (by decide) rfl (fun z120 e120 l120 u120 => ?_)
          refine ev_jmp f_X11_readings (nx := 19) rfl rfl rfl ?_
          refine ev_sub (lo := [(3, .int z120), (0, .ref 0), (1, .long ar1)]) rfl (t_sc rfl (t_sc rfl (t_sc rfl t_sn))) ?_
          exact ih6 _ (by omega) gi98 gl98 gr98 (z120) hI hX  (Int.le_trans (by decide : (0:Int) ≤ 1) l120) u120 ((hC98.1 0 0 rfl).1.trans c6_0) rfl
    refine ev_sub (lo := [(3, .int 0), (0, .ref 0), (1, .long ar1)]) rfl (t_sc rfl (t_sc rfl (t_sc rfl t_sn))) ?_
    exact L6 _ g5 gl gr (0) hI hX  (by decide : (0:Int) ≤ (0:Int32).toInt) (Int.le_trans (by decide : (0:Int32).toInt ≤ (0:Int)) (by decide : (0:Int) ≤ 6)) ((by rw [e5]; exact x_up2_off (Or.inr (by decide)) : g5 0 0 = gi 0 0).trans rfl) rfl
  · have u121 : z2.toInt ≤ (-1) := t_ltu (t_nle h3) (by decide : (0:Int32).toInt ≤ (0:Int)) rfl
    have hlt := (t_lt1q e2 h3)
    refine ev_loc f_X11_readings (nx := 7) rfl rfl rfl rfl ?_
    refine ev_ic f_X11_readings (nx := 8) (v := 1) rfl (by decide) rfl ?_
    refine ev_inV2 f_X11_readings (nx := 11) (lo2 := [(0, .ref 0), (1, .int 1)]) rfl rfl rfl rfl f_X11_refuse (hI.wf.s rfl) rfl rfl rfl rfl rfl ?_
    refine ev_loc f_X11_refuse (nx := 1) rfl rfl rfl rfl ?_
    refine ev_loc f_X11_refuse (nx := 2) rfl rfl rfl rfl ?_
    refine ev_putIT f_X11_refuse (nx := 5) rfl (hI.wf.s rfl) rfl rfl rfl (hI.put0 (hI.wf.s rfl) rfl rfl) (hX.upI rfl) (fun g122 e122 hI hX => ?_)
    refine ev_ic f_X11_refuse (nx := 6) (v := -1) rfl (by decide) rfl ?_
    refine ev_retK1 f_X11_refuse rfl rfl rfl ?_
    exact ev_ret f_X11_readings rfl rfl rfl ⟨_, _, _, rfl, hI, hX, ⟨_, rfl, (by decide : ((-1):Int) ≤ ((-1):Int32).toInt), (Int.le_trans (by decide : ((-1):Int32).toInt ≤ ((-1):Int)) (by decide : ((-1):Int) ≤ 474)), (show (¬ (1 ≤ ar1.toInt) → (g122 0 0).toInt = 1) ∧ ((1 ≤ ar1.toInt) → (g122 0 0).toInt = 0) from ⟨fun h => (by have ffs : (g122 0 0).toInt = 1 := (congrArg Int32.toInt (by rw [e122]; exact x_up2_at _ _ _ _ : g122 0 0 = 1)).trans (by decide); omega), fun h => (by have ffs : (g122 0 0).toInt = 1 := (congrArg Int32.toInt (by rw [e122]; exact x_up2_at _ _ _ _ : g122 0 0 = 1)).trans (by decide); omega)⟩)⟩⟩
noncomputable def wl_f_doubt : List (Nat × Nat) := [(0, 0), (0, 1), (0, 2)]
noncomputable def Q_f_doubt (gi : Nat → Nat → Int32) (gl : Nat → Nat → Int64) (gr : Nat → Nat → Value) (ar1 : Int64) (ar2 : Int32) : Int32 → (Nat → Nat → Int32) → (Nat → Nat → Int64) → (Nat → Nat → Value) → Prop := fun (v : Int32) (gi2 : Nat → Nat → Int32) (gl2 : Nat → Nat → Int64) (gr2 : Nat → Nat → Value) => ∀ (u : Nat) (D : s_D), gr 0 6 = .ref u → t_VL gr u → t_CV gi gl u D → t_Cb D → (¬ (1 ≤ ar1.toInt ∧ 0 ≤ ar2.toInt ∧ ar2.toInt < D 0) → (gi2 0 0).toInt = 1) ∧ ((1 ≤ ar1.toInt ∧ 0 ≤ ar2.toInt ∧ ar2.toInt < D 0) → (v.toInt ≠ 1 → (gi2 0 0).toInt = 6) ∧ (v.toInt = 1 → (gi2 0 0).toInt = 0))
theorem c_f_doubt {X : x_Ext} {d : Nat} {sh : List (Nat ⊕ (Nat × Nat))} {gi : Nat → Nat → Int32} {gl : Nat → Nat → Int64} {gr : Nat → Nat → Value} (hI : t_I sh gi gr) (ar1 : Int64) (ar2 : Int32) : x_Me X (d + 6) n_X11_doubt [.ref 0, .long ar1, .int ar2] (sh, gi, gl, gr) (t_PI wl_f_doubt sh gi gl gr 0 1 (Q_f_doubt gi gl gr ar1 ar2)) := by
  have hX : t_X wl_f_doubt sh gi gl gr gi gl gr := t_X.rf
  refine me_i f_X11_doubt (hI.wf.s rfl) rfl rfl rfl ?_
  refine ev_loc f_X11_doubt (nx := 1) rfl rfl rfl rfl ?_
  refine ev_lc f_X11_doubt (nx := 2) (v := 1) rfl (by decide) rfl ?_
  refine ev_anyIE f_X11_doubt (nx := 3) rfl rfl rfl rfl (fun z2 e2 => ?_)
  refine ev_if f_X11_doubt (t1 := 14) (t2 := 6) rfl rfl rfl (fun h3 => ?_) (fun h3 => ?_)
  · have u4 : z2.toInt ≤ (-1) := t_ltu h3 (by decide : (0:Int32).toInt ≤ (0:Int)) rfl
    have hlt := (t_lt1n e2 h3)
    refine ev_loc f_X11_doubt (nx := 15) rfl rfl rfl rfl ?_
    refine ev_ic f_X11_doubt (nx := 16) (v := 1) rfl (by decide) rfl ?_
    refine ev_inV2 f_X11_doubt (nx := 19) (lo2 := [(0, .ref 0), (1, .int 1)]) rfl rfl rfl rfl f_X11_deny (hI.wf.s rfl) rfl rfl rfl rfl rfl ?_
    refine ev_loc f_X11_deny (nx := 1) rfl rfl rfl rfl ?_
    refine ev_loc f_X11_deny (nx := 2) rfl rfl rfl rfl ?_
    refine ev_putIT f_X11_deny (nx := 5) rfl (hI.wf.s rfl) rfl rfl rfl (hI.put0 (hI.wf.s rfl) rfl rfl) (hX.upI rfl) (fun g5 e5 hI hX => ?_)
    refine ev_ic f_X11_deny (nx := 6) (v := 0) rfl (by decide) rfl ?_
    refine ev_retK1 f_X11_deny rfl rfl rfl ?_
    exact ev_ret f_X11_doubt rfl rfl rfl ⟨_, _, _, rfl, hI, hX, ⟨_, rfl, (by decide : (0:Int) ≤ (0:Int32).toInt), (Int.le_trans (by decide : (0:Int32).toInt ≤ (0:Int)) (by decide : (0:Int) ≤ 1)), (show ∀ (u : Nat) (D : s_D), gr 0 6 = .ref u → t_VL gr u → t_CV gi gl u D → t_Cb D → (¬ (1 ≤ ar1.toInt ∧ 0 ≤ ar2.toInt ∧ ar2.toInt < D 0) → (g5 0 0).toInt = 1) ∧ ((1 ≤ ar1.toInt ∧ 0 ≤ ar2.toInt ∧ ar2.toInt < D 0) → ((0 : Int) ≠ 1 → (g5 0 0).toInt = 6) ∧ ((0 : Int) = 1 → (g5 0 0).toInt = 0)) from (by
                                                            intro u D hu hl hc hb
                                                            have hm := hc.1.1
                                                            exact ⟨fun h => (by have ffs : (g5 0 0).toInt = 1 := (congrArg Int32.toInt (by rw [e5]; exact x_up2_at _ _ _ _ : g5 0 0 = 1)).trans (by decide); omega), fun h => ⟨fun h2 => (by have ffs : (g5 0 0).toInt = 1 := (congrArg Int32.toInt (by rw [e5]; exact x_up2_at _ _ _ _ : g5 0 0 = 1)).trans (by decide); omega), fun h2 => (by have ffs : (g5 0 0).toInt = 1 := (congrArg Int32.toInt (by rw [e5]; exact x_up2_at _ _ _ _ : g5 0 0 = 1)).trans (by decide); omega)⟩⟩))⟩⟩
  · have l6 : 0 ≤ z2.toInt := t_lel (t_nlt h3) (by decide : (0:Int) ≤ (0:Int32).toInt)
    have hlt := (t_lt1p e2 h3)
    refine ev_loc f_X11_doubt (nx := 7) rfl rfl rfl rfl ?_
    refine ev_loc f_X11_doubt (nx := 8) rfl rfl rfl rfl ?_
    refine ev_inV2 f_X11_doubt (nx := 11) (lo2 := [(0, .ref 0), (1, .int ar2)]) rfl rfl rfl rfl f_X11_isPort (hI.wf.s rfl) rfl rfl rfl rfl rfl ?_
    refine ev_loc f_X11_isPort (nx := 1) rfl rfl rfl rfl ?_
    refine ev_if f_X11_isPort (t1 := 19) (t2 := 4) rfl rfl rfl (fun h7 => ?_) (fun h7 => ?_)
    · have u8 : ar2.toInt ≤ (-1) := t_ltu h7 (by decide : (0:Int32).toInt ≤ (0:Int)) rfl
      refine ev_ic f_X11_isPort (nx := 20) (v := 0) rfl (by decide) rfl ?_
      refine ev_retK1 f_X11_isPort rfl rfl rfl ?_
      refine ev_t f_X11_doubt (t1 := 14) (t2 := 20) rfl rfl rfl (by decide) ?_
      have hlt := (t_lt1p e2 h3)
      refine ev_loc f_X11_doubt (nx := 15) rfl rfl rfl rfl ?_
      refine ev_ic f_X11_doubt (nx := 16) (v := 1) rfl (by decide) rfl ?_
      refine ev_inV2 f_X11_doubt (nx := 19) (lo2 := [(0, .ref 0), (1, .int 1)]) rfl rfl rfl rfl f_X11_deny (hI.wf.s rfl) rfl rfl rfl rfl rfl ?_
      refine ev_loc f_X11_deny (nx := 1) rfl rfl rfl rfl ?_
      refine ev_loc f_X11_deny (nx := 2) rfl rfl rfl rfl ?_
      refine ev_putIT f_X11_deny (nx := 5) rfl (hI.wf.s rfl) rfl rfl rfl (hI.put0 (hI.wf.s rfl) rfl rfl) (hX.upI rfl) (fun g9 e9 hI hX => ?_)
      refine ev_ic f_X11_deny (nx := 6) (v := 0) rfl (by decide) rfl ?_
      refine ev_retK1 f_X11_deny rfl rfl rfl ?_
      exact ev_ret f_X11_doubt rfl rfl rfl ⟨_, _, _, rfl, hI, hX, ⟨_, rfl, (by decide : (0:Int) ≤ (0:Int32).toInt), (Int.le_trans (by decide : (0:Int32).toInt ≤ (0:Int)) (by decide : (0:Int) ≤ 1)), (show ∀ (u : Nat) (D : s_D), gr 0 6 = .ref u → t_VL gr u → t_CV gi gl u D → t_Cb D → (¬ (1 ≤ ar1.toInt ∧ 0 ≤ ar2.toInt ∧ ar2.toInt < D 0) → (g9 0 0).toInt = 1) ∧ ((1 ≤ ar1.toInt ∧ 0 ≤ ar2.toInt ∧ ar2.toInt < D 0) → ((0 : Int) ≠ 1 → (g9 0 0).toInt = 6) ∧ ((0 : Int) = 1 → (g9 0 0).toInt = 0)) from (by
                                                            intro u D hu hl hc hb
                                                            have hm := hc.1.1
                                                            exact ⟨fun h => (by have ffs : (g9 0 0).toInt = 1 := (congrArg Int32.toInt (by rw [e9]; exact x_up2_at _ _ _ _ : g9 0 0 = 1)).trans (by decide); omega), fun h => ⟨fun h2 => (by have ffs : (g9 0 0).toInt = 1 := (congrArg Int32.toInt (by rw [e9]; exact x_up2_at _ _ _ _ : g9 0 0 = 1)).trans (by decide); omega), fun h2 => (by have ffs : (g9 0 0).toInt = 1 := (congrArg Int32.toInt (by rw [e9]; exact x_up2_at _ _ _ _ : g9 0 0 = 1)).trans (by decide); omega)⟩⟩))⟩⟩
    · have l10 : 0 ≤ ar2.toInt := t_lel (t_nlt h7) (by decide : (0:Int) ≤ (0:Int32).toInt)
      refine ev_loc f_X11_isPort (nx := 5) rfl rfl rfl rfl ?_
      refine ev_loc f_X11_isPort (nx := 6) rfl rfl rfl rfl ?_
      obtain ⟨a11, e11, p11⟩ := hI.2.2.2.1.1
      refine ev_getR f_X11_isPort (nx := 9) rfl (hI.wf.s rfl) rfl rfl e11 rfl rfl ?_
      refine ev_getI f_X11_isPort (nx := 12) rfl p11.1 rfl rfl rfl ?_
      obtain ⟨l12, u12⟩ := hI.b p11.1 (t_bdK rfl : t_bd 4 0 = some (0, 6))
      refine ev_if f_X11_isPort (t1 := 19) (t2 := 15) rfl rfl rfl (fun h13 => ?_) (fun h13 => ?_)
      · have r14 : (gi a11 0).toInt ≤ ar2.toInt := Int32.le_iff_toInt_le.mp h13
        refine ev_ic f_X11_isPort (nx := 20) (v := 0) rfl (by decide) rfl ?_
        refine ev_retK1 f_X11_isPort rfl rfl rfl ?_
        refine ev_t f_X11_doubt (t1 := 14) (t2 := 20) rfl rfl rfl (by decide) ?_
        have hlt := (t_lt1p e2 h3)
        refine ev_loc f_X11_doubt (nx := 15) rfl rfl rfl rfl ?_
        refine ev_ic f_X11_doubt (nx := 16) (v := 1) rfl (by decide) rfl ?_
        refine ev_inV2 f_X11_doubt (nx := 19) (lo2 := [(0, .ref 0), (1, .int 1)]) rfl rfl rfl rfl f_X11_deny (hI.wf.s rfl) rfl rfl rfl rfl rfl ?_
        refine ev_loc f_X11_deny (nx := 1) rfl rfl rfl rfl ?_
        refine ev_loc f_X11_deny (nx := 2) rfl rfl rfl rfl ?_
        refine ev_putIT f_X11_deny (nx := 5) rfl (hI.wf.s rfl) rfl rfl rfl (hI.put0 (hI.wf.s rfl) rfl rfl) (hX.upI rfl) (fun g15 e15 hI hX => ?_)
        refine ev_ic f_X11_deny (nx := 6) (v := 0) rfl (by decide) rfl ?_
        refine ev_retK1 f_X11_deny rfl rfl rfl ?_
        exact ev_ret f_X11_doubt rfl rfl rfl ⟨_, _, _, rfl, hI, hX, ⟨_, rfl, (by decide : (0:Int) ≤ (0:Int32).toInt), (Int.le_trans (by decide : (0:Int32).toInt ≤ (0:Int)) (by decide : (0:Int) ≤ 1)), (show ∀ (u : Nat) (D : s_D), gr 0 6 = .ref u → t_VL gr u → t_CV gi gl u D → t_Cb D → (¬ (1 ≤ ar1.toInt ∧ 0 ≤ ar2.toInt ∧ ar2.toInt < D 0) → (g15 0 0).toInt = 1) ∧ ((1 ≤ ar1.toInt ∧ 0 ≤ ar2.toInt ∧ ar2.toInt < D 0) → ((0 : Int) ≠ 1 → (g15 0 0).toInt = 6) ∧ ((0 : Int) = 1 → (g15 0 0).toInt = 0)) from (by
                                                            intro u D hu hl hc hb
                                                            have ha : a11 = u := Value.ref.inj (e11.symm.trans hu)
                                                            subst ha
                                                            have hm := hc.1.1
                                                            exact ⟨fun h => (by have ffs : (g15 0 0).toInt = 1 := (congrArg Int32.toInt (by rw [e15]; exact x_up2_at _ _ _ _ : g15 0 0 = 1)).trans (by decide); omega), fun h => ⟨fun h2 => (by have ffs : (g15 0 0).toInt = 1 := (congrArg Int32.toInt (by rw [e15]; exact x_up2_at _ _ _ _ : g15 0 0 = 1)).trans (by decide); omega), fun h2 => (by have ffs : (g15 0 0).toInt = 1 := (congrArg Int32.toInt (by rw [e15]; exact x_up2_at _ _ _ _ : g15 0 0 = 1)).trans (by decide); omega)⟩⟩))⟩⟩
      · have r16 : ar2.toInt < (gi a11 0).toInt := Int32.lt_iff_toInt_lt.mp (t_nle h13)
        have u17 : ar2.toInt ≤ 5 := t_ltu (t_nle h13) u12 rfl
        have l18 : 1 ≤ (gi a11 0).toInt := t_ltl (t_nle h13) l10 rfl
        refine ev_ic f_X11_isPort (nx := 16) (v := 1) rfl (by decide) rfl ?_
        refine ev_jmp f_X11_isPort (nx := 20) rfl rfl rfl ?_
        refine ev_retK1 f_X11_isPort rfl rfl rfl ?_
        refine ev_f f_X11_doubt (t1 := 14) (t2 := 20) rfl rfl rfl (by decide) ?_
        refine ev_loc f_X11_doubt (nx := 21) rfl rfl rfl rfl ?_
        refine ev_getR f_X11_doubt (nx := 24) (v := .ref a11) rfl (hI.wf.s rfl) rfl rfl e11 rfl rfl ?_
        refine ev_loc f_X11_doubt (nx := 25) rfl rfl rfl rfl ?_
        refine ev_ic f_X11_doubt (nx := 26) (v := -1) rfl (by decide) rfl ?_
        refine ev_cI f_X11_doubt (nx := 29) (r := []) rfl rfl rfl rfl rfl rfl rfl (c_countReadings hI (a11) p11 (ar1) ((-1))) rfl hX rfl (fun w19 gi19 gl19 gr19 l19 u19 hI hX hC19 => ?_)
        replace p11 := p11.ext hC19.2
        refine ev_loc f_X11_doubt (nx := 31) (lo' := [(4, .int w19), (0, .ref 0), (1, .long ar1), (3, .int ar2)]) rfl rfl rfl rfl ?_
        refine ev_loc f_X11_doubt (nx := 33) rfl rfl rfl rfl ?_
        refine ev_if f_X11_doubt (t1 := 36) (t2 := 43) rfl rfl rfl (fun h20 => ?_) (fun h20 => ?_)
        · have u21 : w19.toInt ≤ 0 := t_equ h20 (by decide : (0:Int32).toInt ≤ (0:Int))
          have l22 : 0 ≤ w19.toInt := t_eql h20 (by decide : (0:Int) ≤ (0:Int32).toInt)
          refine ev_loc f_X11_doubt (nx := 37) rfl rfl rfl rfl ?_
          refine ev_bp f_X11_doubt (nx := 39) (v := 6) rfl (by decide) rfl ?_
          refine ev_inV2 f_X11_doubt (nx := 42) (lo2 := [(0, .ref 0), (1, .int 6)]) rfl rfl rfl rfl f_X11_deny (hI.wf.s rfl) rfl rfl rfl rfl rfl ?_
          refine ev_loc f_X11_deny (nx := 1) rfl rfl rfl rfl ?_
          refine ev_loc f_X11_deny (nx := 2) rfl rfl rfl rfl ?_
          refine ev_putIT f_X11_deny (nx := 5) rfl (hI.wf.s rfl) rfl rfl rfl (hI.put0 (hI.wf.s rfl) rfl rfl) (hX.upI rfl) (fun g23 e23 hI hX => ?_)
          refine ev_ic f_X11_deny (nx := 6) (v := 0) rfl (by decide) rfl ?_
          refine ev_retK1 f_X11_deny rfl rfl rfl ?_
          exact ev_ret f_X11_doubt rfl rfl rfl ⟨_, _, _, rfl, hI, hX, ⟨_, rfl, (by decide : (0:Int) ≤ (0:Int32).toInt), (Int.le_trans (by decide : (0:Int32).toInt ≤ (0:Int)) (by decide : (0:Int) ≤ 1)), (show ∀ (u : Nat) (D : s_D), gr 0 6 = .ref u → t_VL gr u → t_CV gi gl u D → t_Cb D → (¬ (1 ≤ ar1.toInt ∧ 0 ≤ ar2.toInt ∧ ar2.toInt < D 0) → (g23 0 0).toInt = 1) ∧ ((1 ≤ ar1.toInt ∧ 0 ≤ ar2.toInt ∧ ar2.toInt < D 0) → ((0 : Int) ≠ 1 → (g23 0 0).toInt = 6) ∧ ((0 : Int) = 1 → (g23 0 0).toInt = 0)) from (by
                                                            intro u D hu hl hc hb
                                                            have ha : a11 = u := Value.ref.inj (e11.symm.trans hu)
                                                            subst ha
                                                            have hm := hc.1.1
                                                            exact ⟨fun h => (by have ffs : (g23 0 0).toInt = 6 := (congrArg Int32.toInt (by rw [e23]; exact x_up2_at _ _ _ _ : g23 0 0 = 6)).trans (by decide); omega), fun h => ⟨fun h2 => (by have ffs : (g23 0 0).toInt = 6 := (congrArg Int32.toInt (by rw [e23]; exact x_up2_at _ _ _ _ : g23 0 0 = 6)).trans (by decide); omega), fun h2 => (by have ffs : (g23 0 0).toInt = 6 := (congrArg Int32.toInt (by rw [e23]; exact x_up2_at _ _ _ _ : g23 0 0 = 6)).trans (by decide); omega)⟩⟩))⟩⟩
        · have r24 : w19.toInt ≠ 0 := fun e => h20 (Int32.toInt_inj.mp (e.trans (by decide : (0:Int) = (0 : Int32).toInt)))
          refine ev_loc f_X11_doubt (nx := 44) rfl rfl rfl rfl ?_
          refine ev_loc f_X11_doubt (nx := 45) rfl rfl rfl rfl ?_
          refine ev_getR f_X11_doubt (nx := 48) (v := .ref a11) rfl (hI.wf.s rfl) rfl rfl ((hC19.1 0 6 rfl).2.2.trans e11) rfl rfl ?_
          refine ev_loc f_X11_doubt (nx := 49) rfl rfl rfl rfl ?_
          refine ev_loc f_X11_doubt (nx := 50) rfl rfl rfl rfl ?_
          refine ev_cI f_X11_doubt (nx := 53) (r := [.ref 0]) rfl rfl rfl rfl rfl rfl rfl (c_countReadings hI (a11) p11 (ar1) (ar2)) rfl hX rfl (fun w25 gi25 gl25 gr25 l25 u25 hI hX hC25 => ?_)
          replace p11 := p11.ext hC25.2
          refine ev_loc f_X11_doubt (nx := 55) rfl rfl rfl rfl ?_
          refine ev_c0 f_X11_doubt (nx := 58) (r := []) rfl rfl rfl rfl rfl rfl rfl (c_tellFraction hI (w25) (w19)) rfl hX rfl (fun gi26 gl26 gr26 hI hX hC26 => ?_)
          replace p11 := p11.ext hC26.2
          refine ev_loc f_X11_doubt (nx := 59) rfl rfl rfl rfl ?_
          refine ev_inV1 f_X11_doubt (nx := 62) (lo2 := [(0, .ref 0)]) rfl rfl rfl rfl f_X11_grant (hI.wf.s rfl) rfl rfl rfl rfl rfl ?_
          refine ev_loc f_X11_grant (nx := 1) rfl rfl rfl rfl ?_
          refine ev_ic f_X11_grant (nx := 2) (v := 0) rfl (by decide) rfl ?_
          refine ev_putIT f_X11_grant (nx := 5) rfl (hI.wf.s rfl) rfl rfl rfl (hI.put0 (hI.wf.s rfl) rfl rfl) (hX.upI rfl) (fun g27 e27 hI hX => ?_)
          refine ev_ic f_X11_grant (nx := 6) (v := 1) rfl (by decide) rfl ?_
          refine ev_retK1 f_X11_grant rfl rfl rfl ?_
          exact ev_ret f_X11_doubt rfl rfl rfl ⟨_, _, _, rfl, hI, hX, ⟨_, rfl, (Int.le_trans (by decide : (0:Int) ≤ 1) (by decide : (1:Int) ≤ (1:Int32).toInt)), (by decide : (1:Int32).toInt ≤ (1:Int)), (show ∀ (u : Nat) (D : s_D), gr 0 6 = .ref u → t_VL gr u → t_CV gi gl u D → t_Cb D → (¬ (1 ≤ ar1.toInt ∧ 0 ≤ ar2.toInt ∧ ar2.toInt < D 0) → (g27 0 0).toInt = 1) ∧ ((1 ≤ ar1.toInt ∧ 0 ≤ ar2.toInt ∧ ar2.toInt < D 0) → ((1 : Int) ≠ 1 → (g27 0 0).toInt = 6) ∧ ((1 : Int) = 1 → (g27 0 0).toInt = 0)) from (by
                                                            intro u D hu hl hc hb
                                                            have ha : a11 = u := Value.ref.inj (e11.symm.trans hu)
                                                            subst ha
                                                            have hm := hc.1.1
                                                            exact ⟨fun h => (by have ffs : (g27 0 0).toInt = 0 := (congrArg Int32.toInt (by rw [e27]; exact x_up2_at _ _ _ _ : g27 0 0 = 0)).trans (by decide); omega), fun h => ⟨fun h2 => (by have ffs : (g27 0 0).toInt = 0 := (congrArg Int32.toInt (by rw [e27]; exact x_up2_at _ _ _ _ : g27 0 0 = 0)).trans (by decide); omega), fun h2 => (by have ffs : (g27 0 0).toInt = 0 := (congrArg Int32.toInt (by rw [e27]; exact x_up2_at _ _ _ _ : g27 0 0 = 0)).trans (by decide); omega)⟩⟩))⟩⟩
noncomputable def wl_f_alike : List (Nat × Nat) := [(0, 0)]
noncomputable def Q_f_alike (gi : Nat → Nat → Int32) (gl : Nat → Nat → Int64) (gr : Nat → Nat → Value) : Int32 → (Nat → Nat → Int32) → (Nat → Nat → Int64) → (Nat → Nat → Value) → Prop := fun (v : Int32) (gi2 : Nat → Nat → Int32) (gl2 : Nat → Nat → Int64) (gr2 : Nat → Nat → Value) => (gi2 0 0).toInt = 0
theorem c_f_alike {X : x_Ext} {d : Nat} {sh : List (Nat ⊕ (Nat × Nat))} {gi : Nat → Nat → Int32} {gl : Nat → Nat → Int64} {gr : Nat → Nat → Value} (hI : t_I sh gi gr) : x_Me X (d + 3) n_X11_alike [.ref 0] (sh, gi, gl, gr) (t_PI wl_f_alike sh gi gl gr (-2147483648) 2147483647 (Q_f_alike gi gl gr)) := by
  have hX : t_X wl_f_alike sh gi gl gr gi gl gr := t_X.rf
  refine me_i f_X11_alike (hI.wf.s rfl) rfl rfl rfl ?_
  refine ev_loc f_X11_alike (nx := 1) rfl rfl rfl rfl ?_
  refine ev_loc f_X11_alike (nx := 2) rfl rfl rfl rfl ?_
  obtain ⟨a2, e2, p2⟩ := hI.2.2.2.1.1
  refine ev_getR f_X11_alike (nx := 5) rfl (hI.wf.s rfl) rfl rfl e2 rfl rfl ?_
  refine ev_loc f_X11_alike (nx := 6) rfl rfl rfl rfl ?_
  refine ev_getR f_X11_alike (nx := 9) (v := .ref a2) rfl (hI.wf.s rfl) rfl rfl e2 rfl rfl ?_
  refine ev_getI f_X11_alike (nx := 12) rfl p2.1 rfl rfl rfl ?_
  refine ev_cI f_X11_alike (nx := 15) (r := [.ref 0]) rfl rfl rfl rfl rfl rfl rfl (c_couplesAlike hI (a2) p2 ((gi a2 6))) rfl hX rfl (fun w3 gi3 gl3 gr3 l3 u3 hI hX hC3 => ?_)
  replace p2 := p2.ext hC3.2
  refine ev_inV2 f_X11_alike (nx := 18) (lo2 := [(0, .ref 0), (1, .int w3)]) rfl rfl rfl rfl f_X11_answer (hI.wf.s rfl) rfl rfl rfl rfl rfl ?_
  refine ev_loc f_X11_answer (nx := 1) rfl rfl rfl rfl ?_
  refine ev_ic f_X11_answer (nx := 2) (v := 0) rfl (by decide) rfl ?_
  refine ev_putIT f_X11_answer (nx := 5) rfl (hI.wf.s rfl) rfl rfl rfl (hI.put0 (hI.wf.s rfl) rfl rfl) (hX.upI rfl) (fun g4 e4 hI hX => ?_)
  refine ev_loc f_X11_answer (nx := 6) rfl rfl rfl rfl ?_
  refine ev_retK1 f_X11_answer rfl rfl rfl ?_
  exact ev_ret f_X11_alike rfl rfl rfl ⟨_, _, _, rfl, hI, hX, ⟨_, rfl, l3, u3, (show (g4 0 0).toInt = 0 from (by have ffs : (g4 0 0).toInt = 0 := (congrArg Int32.toInt (by rw [e4]; exact x_up2_at _ _ _ _ : g4 0 0 = 0)).trans (by decide); omega))⟩⟩
noncomputable def wl_f_codeAt : List (Nat × Nat) := [(0, 0)]
noncomputable def Q_f_codeAt (gi : Nat → Nat → Int32) (gl : Nat → Nat → Int64) (gr : Nat → Nat → Value) (ar1 : Int32) : Int64 → (Nat → Nat → Int32) → (Nat → Nat → Int64) → (Nat → Nat → Value) → Prop := fun (v : Int64) (gi2 : Nat → Nat → Int32) (gl2 : Nat → Nat → Int64) (gr2 : Nat → Nat → Value) => (¬ (0 ≤ ar1.toInt ∧ ar1.toInt < (gi 22 6).toInt) → (gi2 0 0).toInt = 6) ∧ ((0 ≤ ar1.toInt ∧ ar1.toInt < (gi 22 6).toInt) → (gi2 0 0).toInt = 0)
theorem c_f_codeAt {X : x_Ext} {d : Nat} {sh : List (Nat ⊕ (Nat × Nat))} {gi : Nat → Nat → Int32} {gl : Nat → Nat → Int64} {gr : Nat → Nat → Value} (hI : t_I sh gi gr) (ar1 : Int32) : x_Me X (d + 2) n_X11_codeAt [.ref 0, .int ar1] (sh, gi, gl, gr) (t_PL wl_f_codeAt sh gi gl gr (Q_f_codeAt gi gl gr ar1)) := by
  have hX : t_X wl_f_codeAt sh gi gl gr gi gl gr := t_X.rf
  refine me_i f_X11_codeAt (hI.wf.s rfl) rfl rfl rfl ?_
  obtain ⟨l2, u2⟩ := hI.b (hI.wf.s (k := 22) rfl) (t_bdK rfl : t_bd 0 6 = some (0, 4))
  refine ev_loc f_X11_codeAt (nx := 1) rfl rfl rfl rfl ?_
  refine ev_if f_X11_codeAt (t1 := 15) (t2 := 4) rfl rfl rfl (fun h3 => ?_) (fun h3 => ?_)
  · have u4 : ar1.toInt ≤ (-1) := t_ltu h3 (by decide : (0:Int32).toInt ≤ (0:Int)) rfl
    refine ev_loc f_X11_codeAt (nx := 16) rfl rfl rfl rfl ?_
    refine ev_bp f_X11_codeAt (nx := 18) (v := 6) rfl (by decide) rfl ?_
    refine ev_inV2 f_X11_codeAt (nx := 21) (lo2 := [(0, .ref 0), (1, .int 6)]) rfl rfl rfl rfl f_X11_refuse (hI.wf.s rfl) rfl rfl rfl rfl rfl ?_
    refine ev_loc f_X11_refuse (nx := 1) rfl rfl rfl rfl ?_
    refine ev_loc f_X11_refuse (nx := 2) rfl rfl rfl rfl ?_
    refine ev_putIT f_X11_refuse (nx := 5) rfl (hI.wf.s rfl) rfl rfl rfl (hI.put0 (hI.wf.s rfl) rfl rfl) (hX.upI rfl) (fun g5 e5 hI hX => ?_)
    refine ev_ic f_X11_refuse (nx := 6) (v := -1) rfl (by decide) rfl ?_
    refine ev_retK1 f_X11_refuse rfl rfl rfl ?_
    refine ev_aluvL f_X11_codeAt (nx := 22) (w := -1) rfl rfl rfl (by decide) rfl ?_
    exact ev_ret f_X11_codeAt rfl rfl rfl ⟨_, _, _, rfl, hI, hX, ⟨_, rfl, (show (¬ (0 ≤ ar1.toInt ∧ ar1.toInt < (gi 22 6).toInt) → (g5 0 0).toInt = 6) ∧ ((0 ≤ ar1.toInt ∧ ar1.toInt < (gi 22 6).toInt) → (g5 0 0).toInt = 0) from ⟨fun h => (by have ffs : (g5 0 0).toInt = 6 := (congrArg Int32.toInt (by rw [e5]; exact x_up2_at _ _ _ _ : g5 0 0 = 6)).trans (by decide); omega), fun h => (by have ffs : (g5 0 0).toInt = 6 := (congrArg Int32.toInt (by rw [e5]; exact x_up2_at _ _ _ _ : g5 0 0 = 6)).trans (by decide); omega)⟩)⟩⟩
  · have l6 : 0 ≤ ar1.toInt := t_lel (t_nlt h3) (by decide : (0:Int) ≤ (0:Int32).toInt)
    refine ev_loc f_X11_codeAt (nx := 5) rfl rfl rfl rfl ?_
    refine ev_loc f_X11_codeAt (nx := 6) rfl rfl rfl rfl ?_
    refine ev_getR f_X11_codeAt (nx := 9) rfl (hI.wf.s rfl) rfl rfl (hI.wf.r rfl) rfl rfl ?_
    refine ev_gvI f_X11_codeAt (nx := 12) (w := (gi 22 6)) rfl (hI.wf.s rfl) rfl rfl rfl rfl ?_
    refine ev_if f_X11_codeAt (t1 := 23) (t2 := 15) rfl rfl rfl (fun h7 => ?_) (fun h7 => ?_)
    · have r8 : ar1.toInt < (gi 22 6).toInt := Int32.lt_iff_toInt_lt.mp h7
      have u9 : ar1.toInt ≤ 3 := t_ltu h7 u2 rfl
      have l10 : 1 ≤ (gi 22 6).toInt := t_ltl h7 l6 rfl
      refine ev_loc f_X11_codeAt (nx := 24) rfl rfl rfl rfl ?_
      refine ev_loc f_X11_codeAt (nx := 25) rfl rfl rfl rfl ?_
      refine ev_getR f_X11_codeAt (nx := 28) rfl (hI.wf.s rfl) rfl rfl (hI.wf.r rfl) rfl rfl ?_
      refine ev_loc f_X11_codeAt (nx := 29) rfl rfl rfl rfl ?_
      refine ev_inV2 f_X11_codeAt (nx := 32) (lo2 := [(0, .ref 22), (1, .int ar1)]) rfl rfl rfl rfl f_X0_callTold (hI.wf.s rfl) rfl rfl rfl rfl rfl ?_
      refine ev_loc f_X0_callTold (nx := 1) rfl rfl rfl rfl ?_
      refine ev_f f_X0_callTold (t1 := 26) (t2 := 4) rfl rfl rfl (t_ltF (by decide : (0:Int32).toInt ≤ (0:Int)) l6 (by decide)) ?_
      refine ev_loc f_X0_callTold (nx := 5) rfl rfl rfl rfl ?_
      refine ev_loc f_X0_callTold (nx := 6) rfl rfl rfl rfl ?_
      refine ev_gvI f_X0_callTold (nx := 9) (w := (gi 22 6)) rfl (hI.wf.s rfl) rfl rfl rfl rfl ?_
      refine ev_if f_X0_callTold (t1 := 26) (t2 := 12) rfl rfl rfl (fun h11 => ?_) (fun h11 => ?_)
      · have r12 : (gi 22 6).toInt ≤ ar1.toInt := Int32.le_iff_toInt_le.mp h11
        have u13 : (gi 22 6).toInt ≤ 3 := t_leu h11 u9
        have l14 : 1 ≤ ar1.toInt := t_lel h11 l10
        refine ev_ldL f_X0_callTold (nx := 29) (v := -1) rfl (by decide) rfl ?_
        refine ev_retK1 f_X0_callTold rfl rfl rfl ?_
        refine ev_inV2 f_X11_codeAt (nx := 35) (lo2 := [(0, .ref 0), (1, .long (-1))]) rfl rfl rfl rfl f_X11_answerLong (hI.wf.s rfl) rfl rfl rfl rfl rfl ?_
        refine ev_loc f_X11_answerLong (nx := 1) rfl rfl rfl rfl ?_
        refine ev_ic f_X11_answerLong (nx := 2) (v := 0) rfl (by decide) rfl ?_
        refine ev_putIT f_X11_answerLong (nx := 5) rfl (hI.wf.s rfl) rfl rfl rfl (hI.put0 (hI.wf.s rfl) rfl rfl) (hX.upI rfl) (fun g15 e15 hI hX => ?_)
        refine ev_loc f_X11_answerLong (nx := 6) rfl rfl rfl rfl ?_
        refine ev_retK1 f_X11_answerLong rfl rfl rfl ?_
        exact ev_ret f_X11_codeAt rfl rfl rfl ⟨_, _, _, rfl, hI, hX, ⟨_, rfl, (show (¬ (0 ≤ ar1.toInt ∧ ar1.toInt < (gi 22 6).toInt) → (g15 0 0).toInt = 6) ∧ ((0 ≤ ar1.toInt ∧ ar1.toInt < (gi 22 6).toInt) → (g15 0 0).toInt = 0) from ⟨fun h => (by have ffs : (g15 0 0).toInt = 0 := (congrArg Int32.toInt (by rw [e15]; exact x_up2_at _ _ _ _ : g15 0 0 = 0)).trans (by decide); omega), fun h => (by have ffs : (g15 0 0).toInt = 0 := (congrArg Int32.toInt (by rw [e15]; exact x_up2_at _ _ _ _ : g15 0 0 = 0)).trans (by decide); omega)⟩)⟩⟩
      · have r16 : ar1.toInt < (gi 22 6).toInt := Int32.lt_iff_toInt_lt.mp (t_nle h11)
        refine ev_loc f_X0_callTold (nx := 13) rfl rfl rfl rfl ?_
        refine ev_getR f_X0_callTold (nx := 16) rfl (hI.wf.s rfl) rfl rfl (hI.wf.r rfl) rfl rfl ?_
        refine ev_loc f_X0_callTold (nx := 17) rfl rfl rfl rfl ?_
        refine ev_getR f_X0_callTold (nx := 20) rfl (hI.wf.s rfl) rfl rfl (hI.wf.r rfl) rfl rfl ?_
        refine ev_loc f_X0_callTold (nx := 21) rfl rfl rfl rfl ?_
        refine ev_ialdT f_X0_callTold (nx := 22) rfl (hI.wf.s rfl) l6 (by decide) u9 (by decide) rfl (fun w17 e17 => ?_)
        obtain ⟨l17, u17⟩ := hI.abi e17 (by decide +kernel : t_abr 27 0 3 0 29 = true) l6 (by decide) u9 (by decide)
        refine ev_laldT f_X0_callTold (nx := 23) rfl (hI.wf.s rfl) l17 (by decide) u17 (by decide) rfl (fun w18 e18 => ?_)
        refine ev_jmp f_X0_callTold (nx := 29) rfl rfl rfl ?_
        refine ev_retK1 f_X0_callTold rfl rfl rfl ?_
        refine ev_inV2 f_X11_codeAt (nx := 35) (lo2 := [(0, .ref 0), (1, .long w18)]) rfl rfl rfl rfl f_X11_answerLong (hI.wf.s rfl) rfl rfl rfl rfl rfl ?_
        refine ev_loc f_X11_answerLong (nx := 1) rfl rfl rfl rfl ?_
        refine ev_ic f_X11_answerLong (nx := 2) (v := 0) rfl (by decide) rfl ?_
        refine ev_putIT f_X11_answerLong (nx := 5) rfl (hI.wf.s rfl) rfl rfl rfl (hI.put0 (hI.wf.s rfl) rfl rfl) (hX.upI rfl) (fun g19 e19 hI hX => ?_)
        refine ev_loc f_X11_answerLong (nx := 6) rfl rfl rfl rfl ?_
        refine ev_retK1 f_X11_answerLong rfl rfl rfl ?_
        exact ev_ret f_X11_codeAt rfl rfl rfl ⟨_, _, _, rfl, hI, hX, ⟨_, rfl, (show (¬ (0 ≤ ar1.toInt ∧ ar1.toInt < (gi 22 6).toInt) → (g19 0 0).toInt = 6) ∧ ((0 ≤ ar1.toInt ∧ ar1.toInt < (gi 22 6).toInt) → (g19 0 0).toInt = 0) from ⟨fun h => (by have ffs : (g19 0 0).toInt = 0 := (congrArg Int32.toInt (by rw [e19]; exact x_up2_at _ _ _ _ : g19 0 0 = 0)).trans (by decide); omega), fun h => (by have ffs : (g19 0 0).toInt = 0 := (congrArg Int32.toInt (by rw [e19]; exact x_up2_at _ _ _ _ : g19 0 0 = 0)).trans (by decide); omega)⟩)⟩⟩
    · have r20 : (gi 22 6).toInt ≤ ar1.toInt := Int32.le_iff_toInt_le.mp (t_nlt h7)
      refine ev_loc f_X11_codeAt (nx := 16) rfl rfl rfl rfl ?_
      refine ev_bp f_X11_codeAt (nx := 18) (v := 6) rfl (by decide) rfl ?_
      refine ev_inV2 f_X11_codeAt (nx := 21) (lo2 := [(0, .ref 0), (1, .int 6)]) rfl rfl rfl rfl f_X11_refuse (hI.wf.s rfl) rfl rfl rfl rfl rfl ?_
      refine ev_loc f_X11_refuse (nx := 1) rfl rfl rfl rfl ?_
      refine ev_loc f_X11_refuse (nx := 2) rfl rfl rfl rfl ?_
      refine ev_putIT f_X11_refuse (nx := 5) rfl (hI.wf.s rfl) rfl rfl rfl (hI.put0 (hI.wf.s rfl) rfl rfl) (hX.upI rfl) (fun g21 e21 hI hX => ?_)
      refine ev_ic f_X11_refuse (nx := 6) (v := -1) rfl (by decide) rfl ?_
      refine ev_retK1 f_X11_refuse rfl rfl rfl ?_
      refine ev_aluvL f_X11_codeAt (nx := 22) (w := -1) rfl rfl rfl (by decide) rfl ?_
      exact ev_ret f_X11_codeAt rfl rfl rfl ⟨_, _, _, rfl, hI, hX, ⟨_, rfl, (show (¬ (0 ≤ ar1.toInt ∧ ar1.toInt < (gi 22 6).toInt) → (g21 0 0).toInt = 6) ∧ ((0 ≤ ar1.toInt ∧ ar1.toInt < (gi 22 6).toInt) → (g21 0 0).toInt = 0) from ⟨fun h => (by have ffs : (g21 0 0).toInt = 6 := (congrArg Int32.toInt (by rw [e21]; exact x_up2_at _ _ _ _ : g21 0 0 = 6)).trans (by decide); omega), fun h => (by have ffs : (g21 0 0).toInt = 6 := (congrArg Int32.toInt (by rw [e21]; exact x_up2_at _ _ _ _ : g21 0 0 = 6)).trans (by decide); omega)⟩)⟩⟩
noncomputable def wl_f_parts : List (Nat × Nat) := [(0, 0)]
noncomputable def Q_f_parts (gi : Nat → Nat → Int32) (gl : Nat → Nat → Int64) (gr : Nat → Nat → Value) (ar1 : Int64) : Int32 → (Nat → Nat → Int32) → (Nat → Nat → Int64) → (Nat → Nat → Value) → Prop := fun (v : Int32) (gi2 : Nat → Nat → Int32) (gl2 : Nat → Nat → Int64) (gr2 : Nat → Nat → Value) => (¬ (1 ≤ ar1.toInt) → (gi2 0 0).toInt = 1) ∧ ((1 ≤ ar1.toInt) → (gi2 0 0).toInt = 0)
theorem c_f_parts {X : x_Ext} {d : Nat} {sh : List (Nat ⊕ (Nat × Nat))} {gi : Nat → Nat → Int32} {gl : Nat → Nat → Int64} {gr : Nat → Nat → Value} (hI : t_I sh gi gr) (ar1 : Int64) : x_Me X (d + 3) n_X11_parts [.ref 0, .long ar1] (sh, gi, gl, gr) (t_PI wl_f_parts sh gi gl gr (-2147483648) 2147483647 (Q_f_parts gi gl gr ar1)) := by
  have hX : t_X wl_f_parts sh gi gl gr gi gl gr := t_X.rf
  refine me_i f_X11_parts (hI.wf.s rfl) rfl rfl rfl ?_
  refine ev_loc f_X11_parts (nx := 1) rfl rfl rfl rfl ?_
  refine ev_lc f_X11_parts (nx := 2) (v := 1) rfl (by decide) rfl ?_
  refine ev_anyIE f_X11_parts (nx := 3) rfl rfl rfl rfl (fun z2 e2 => ?_)
  refine ev_if f_X11_parts (t1 := 12) (t2 := 6) rfl rfl rfl (fun h3 => ?_) (fun h3 => ?_)
  · have l4 : 0 ≤ z2.toInt := t_lel h3 (by decide : (0:Int) ≤ (0:Int32).toInt)
    have hlt := (t_lt1r e2 h3)
    refine ev_ic f_X11_parts (nx := 13) (v := 0) rfl (by decide) rfl ?_
    refine ev_loc f_X11_parts (nx := 14) (lo' := [(3, .int 0), (0, .ref 0), (1, .long ar1)]) rfl rfl rfl rfl ?_
    refine ev_ic f_X11_parts (nx := 15) (v := 0) rfl (by decide) rfl ?_
    refine ev_loc f_X11_parts (nx := 17) (lo' := [(4, .int 0), (3, .int 0), (0, .ref 0), (1, .long ar1)]) rfl rfl rfl rfl ?_
    have L5 : ∀ (m5 : Nat) (gi5 : Nat → Nat → Int32) (gl5 : Nat → Nat → Int64) (gr5 : Nat → Nat → Value) (y5_4 : Int32) (y5_3 : Int32), t_I sh gi5 gr5 → t_X wl_f_parts sh gi gl gr gi5 gl5 gr5 → 0 ≤ y5_4.toInt → y5_4.toInt ≤ 6 → gi5 0 0 = (gi 0 0) → (6 - y5_4.toInt).toNat = m5 → x_Ev X (d + 3) n_X11_parts 17 [(4, .int y5_4), (3, .int y5_3), (0, .ref 0), (1, .long ar1)] [] (sh, gi5, gl5, gr5) (t_PI wl_f_parts sh gi gl gr (-2147483648) 2147483647 (Q_f_parts gi gl gr ar1)) := by
      intro m5
      induction m5 using Nat.strongRecOn with
      | _ m5 ih5 =>
      intro gi5 gl5 gr5 y5_4 y5_3 hI hX l5_4 u5_4 c5_0 hm5
      refine ev_loc f_X11_parts (nx := 19) rfl rfl rfl rfl ?_
      refine ev_loc f_X11_parts (nx := 20) rfl rfl rfl rfl ?_
      obtain ⟨a6, e6, p6⟩ := hI.2.2.2.1.1
      refine ev_getR f_X11_parts (nx := 23) rfl (hI.wf.s rfl) rfl rfl e6 rfl rfl ?_
      refine ev_getI f_X11_parts (nx := 26) rfl p6.1 rfl rfl rfl ?_
      obtain ⟨l7, u7⟩ := hI.b p6.1 (t_bdK rfl : t_bd 4 0 = some (0, 6))
      refine ev_if f_X11_parts (t1 := 62) (t2 := 29) rfl rfl rfl (fun h8 => ?_) (fun h8 => ?_)
      · have r9 : (gi5 a6 0).toInt ≤ y5_4.toInt := Int32.le_iff_toInt_le.mp h8
        refine ev_loc f_X11_parts (nx := 63) rfl rfl rfl rfl ?_
        refine ev_loc f_X11_parts (nx := 64) rfl rfl rfl rfl ?_
        refine ev_inV2 f_X11_parts (nx := 67) (lo2 := [(0, .ref 0), (1, .int y5_3)]) rfl rfl rfl rfl f_X11_answer (hI.wf.s rfl) rfl rfl rfl rfl rfl ?_
        refine ev_loc f_X11_answer (nx := 1) rfl rfl rfl rfl ?_
        refine ev_ic f_X11_answer (nx := 2) (v := 0) rfl (by decide) rfl ?_
        refine ev_putIT f_X11_answer (nx := 5) rfl (hI.wf.s rfl) rfl rfl rfl (hI.put0 (hI.wf.s rfl) rfl rfl) (hX.upI rfl) (fun g10 e10 hI hX => ?_)
        refine ev_loc f_X11_answer (nx := 6) rfl rfl rfl rfl ?_
        refine ev_retK1 f_X11_answer rfl rfl rfl ?_
        exact ev_ret f_X11_parts rfl rfl rfl ⟨_, _, _, rfl, hI, hX, ⟨_, rfl, (t_lo y5_3), (t_hi y5_3), (show (¬ (1 ≤ ar1.toInt) → (g10 0 0).toInt = 1) ∧ ((1 ≤ ar1.toInt) → (g10 0 0).toInt = 0) from ⟨fun h => (by have ffs : (g10 0 0).toInt = 0 := (congrArg Int32.toInt (by rw [e10]; exact x_up2_at _ _ _ _ : g10 0 0 = 0)).trans (by decide); omega), fun h => (by have ffs : (g10 0 0).toInt = 0 := (congrArg Int32.toInt (by rw [e10]; exact x_up2_at _ _ _ _ : g10 0 0 = 0)).trans (by decide); omega)⟩)⟩⟩
      · have r11 : y5_4.toInt < (gi5 a6 0).toInt := Int32.lt_iff_toInt_lt.mp (t_nle h8)
        have u12 : y5_4.toInt ≤ 5 := t_ltu (t_nle h8) u7 rfl
        have l13 : 1 ≤ (gi5 a6 0).toInt := t_ltl (t_nle h8) l5_4 rfl
        refine ev_loc f_X11_parts (nx := 30) rfl rfl rfl rfl ?_
        refine ev_getR f_X11_parts (nx := 33) (v := .ref a6) rfl (hI.wf.s rfl) rfl rfl e6 rfl rfl ?_
        refine ev_loc f_X11_parts (nx := 35) rfl rfl rfl rfl ?_
        refine ev_cL f_X11_parts (nx := 38) (r := []) rfl rfl rfl rfl rfl rfl rfl (c_heardOf hI (a6) p6 (y5_4)) rfl hX rfl (fun w14 gi14 gl14 gr14 hI hX hC14 => ?_)
        replace p6 := p6.ext hC14.2
        refine ev_loc f_X11_parts (nx := 39) rfl rfl rfl rfl ?_
        refine ev_ldL f_X11_parts (nx := 42) (v := -1) rfl (by decide) rfl ?_
        refine ev_anyLE f_X11_parts (nx := 43) rfl rfl rfl rfl (fun z15 e15 => ?_)
        refine ev_anyLE f_X11_parts (nx := 44) rfl rfl rfl rfl (fun z16 e16 => ?_)
        refine ev_lc f_X11_parts (nx := 45) (v := 0) rfl (by decide) rfl ?_
        refine ev_anyIE f_X11_parts (nx := 46) rfl rfl rfl rfl (fun z17 e17 => ?_)
        refine ev_if f_X11_parts (t1 := 49) (t2 := 56) rfl rfl rfl (fun h18 => ?_) (fun h18 => ?_)
        · have u19 : z17.toInt ≤ 0 := t_equ h18 (by decide : (0:Int32).toInt ≤ (0:Int))
          have l20 : 0 ≤ z17.toInt := t_eql h18 (by decide : (0:Int) ≤ (0:Int32).toInt)
          refine ev_loc f_X11_parts (nx := 50) rfl rfl rfl rfl ?_
          refine ev_ic f_X11_parts (nx := 51) (v := 1) rfl (by decide) rfl ?_
          refine ev_loc f_X11_parts (nx := 53) rfl rfl rfl rfl ?_
          refine ev_shl1E f_X11_parts (nx := 54) rfl l5_4 u12 (by decide) (by decide) rfl (fun z21 s21 => ?_)
          have l21 : 1 ≤ z21.toInt := by have := l5_4; have := u12; omega
          have u21 : z21.toInt ≤ 32 := by have := l5_4; have := u12; omega
          refine ev_anyIE f_X11_parts (nx := 55) rfl rfl rfl rfl (fun z22 e22 => ?_)
          refine ev_loc f_X11_parts (nx := 56) (lo' := [(3, .int z22), (4, .int y5_4), (0, .ref 0), (1, .long ar1)]) rfl rfl rfl rfl ?_
          refine ev_incR f_X11_parts (nx := 59) (c := 1) (l := 1) (u := 6) rfl rfl (by decide) (by decide) l5_4 u12 rfl rfl (by decide) (by decide) rfl (fun z23 e23 l23 u23 => ?_)
          refine ev_jmp f_X11_parts (nx := 17) rfl rfl rfl ?_
          refine ev_sub (lo := [(4, .int z23), (3, .int z22), (0, .ref 0), (1, .long ar1)]) rfl (t_sc rfl (t_sc rfl (t_sc rfl (t_sc rfl t_sn)))) ?_
          exact ih5 _ (by omega) gi14 gl14 gr14 (z23) (z22) hI hX  (Int.le_trans (by decide : (0:Int) ≤ 1) l23) u23 ((hC14.1 0 0 rfl).1.trans c5_0) rfl
        · have r24 : z17.toInt ≠ 0 := fun e => h18 (Int32.toInt_inj.mp (e.trans (by decide : (0:Int) = (0 : Int32).toInt)))
          refine ev_incR f_X11_parts (nx := 59) (c := 1) (l := 1) (u := 6) rfl rfl (by decide) (by decide) l5_4 u12 rfl rfl (by decide) (by decide) rfl (fun z25 e25 l25 u25 => ?_)
          refine ev_jmp f_X11_parts (nx := 17) rfl rfl rfl ?_
          refine ev_sub (lo := [(4, .int z25), (3, .int y5_3), (0, .ref 0), (1, .long ar1)]) rfl (t_sc rfl (t_sc rfl (t_sc rfl (t_sc rfl t_sn)))) ?_
          exact ih5 _ (by omega) gi14 gl14 gr14 (z25) (y5_3) hI hX  (Int.le_trans (by decide : (0:Int) ≤ 1) l25) u25 ((hC14.1 0 0 rfl).1.trans c5_0) rfl
    refine ev_sub (lo := [(4, .int 0), (3, .int 0), (0, .ref 0), (1, .long ar1)]) rfl (t_sc rfl (t_sc rfl (t_sc rfl (t_sc rfl t_sn)))) ?_
    exact L5 _ gi gl gr (0) (0) hI hX  (by decide : (0:Int) ≤ (0:Int32).toInt) (Int.le_trans (by decide : (0:Int32).toInt ≤ (0:Int)) (by decide : (0:Int) ≤ 6)) rfl rfl
  · have u26 : z2.toInt ≤ (-1) := t_ltu (t_nle h3) (by decide : (0:Int32).toInt ≤ (0:Int)) rfl
    have hlt := (t_lt1q e2 h3)
    refine ev_loc f_X11_parts (nx := 7) rfl rfl rfl rfl ?_
    refine ev_ic f_X11_parts (nx := 8) (v := 1) rfl (by decide) rfl ?_
    refine ev_inV2 f_X11_parts (nx := 11) (lo2 := [(0, .ref 0), (1, .int 1)]) rfl rfl rfl rfl f_X11_refuse (hI.wf.s rfl) rfl rfl rfl rfl rfl ?_
    refine ev_loc f_X11_refuse (nx := 1) rfl rfl rfl rfl ?_
    refine ev_loc f_X11_refuse (nx := 2) rfl rfl rfl rfl ?_
    refine ev_putIT f_X11_refuse (nx := 5) rfl (hI.wf.s rfl) rfl rfl rfl (hI.put0 (hI.wf.s rfl) rfl rfl) (hX.upI rfl) (fun g27 e27 hI hX => ?_)
    refine ev_ic f_X11_refuse (nx := 6) (v := -1) rfl (by decide) rfl ?_
    refine ev_retK1 f_X11_refuse rfl rfl rfl ?_
    exact ev_ret f_X11_parts rfl rfl rfl ⟨_, _, _, rfl, hI, hX, ⟨_, rfl, (Int.le_trans (by decide : ((-2147483648):Int) ≤ (-1)) (by decide : ((-1):Int) ≤ ((-1):Int32).toInt)), (Int.le_trans (by decide : ((-1):Int32).toInt ≤ ((-1):Int)) (by decide : ((-1):Int) ≤ 2147483647)), (show (¬ (1 ≤ ar1.toInt) → (g27 0 0).toInt = 1) ∧ ((1 ≤ ar1.toInt) → (g27 0 0).toInt = 0) from ⟨fun h => (by have ffs : (g27 0 0).toInt = 1 := (congrArg Int32.toInt (by rw [e27]; exact x_up2_at _ _ _ _ : g27 0 0 = 1)).trans (by decide); omega), fun h => (by have ffs : (g27 0 0).toInt = 1 := (congrArg Int32.toInt (by rw [e27]; exact x_up2_at _ _ _ _ : g27 0 0 = 1)).trans (by decide); omega)⟩)⟩⟩
/-! ===== printed by riv.py: STATUS, the class ===== -/
noncomputable def wl_f_clearEcho : List (Nat × Nat) := [(0, 0)]
noncomputable def Q_f_clearEcho (gi : Nat → Nat → Int32) (gl : Nat → Nat → Int64) (gr : Nat → Nat → Value) : Int32 → (Nat → Nat → Int32) → (Nat → Nat → Int64) → (Nat → Nat → Value) → Prop := fun (v : Int32) (gi2 : Nat → Nat → Int32) (gl2 : Nat → Nat → Int64) (gr2 : Nat → Nat → Value) => (v.toInt = -1 → (gi2 0 0).toInt = 6) ∧ (v.toInt ≠ -1 → (gi2 0 0).toInt = 0)
theorem c_f_clearEcho {X : x_Ext} {d : Nat} {sh : List (Nat ⊕ (Nat × Nat))} {gi : Nat → Nat → Int32} {gl : Nat → Nat → Int64} {gr : Nat → Nat → Value} (hI : t_I sh gi gr) : x_Me X (d + 3) n_X11_clearEcho [.ref 0] (sh, gi, gl, gr) (t_PI wl_f_clearEcho sh gi gl gr (-1) 9 (Q_f_clearEcho gi gl gr)) := by
  have hX : t_X wl_f_clearEcho sh gi gl gr gi gl gr := t_X.rf
  refine me_i f_X11_clearEcho (hI.wf.s rfl) rfl rfl rfl ?_
  refine ev_ic f_X11_clearEcho (nx := 1) (v := 0) rfl (by decide) rfl ?_
  refine ev_loc f_X11_clearEcho (nx := 2) (lo' := [(1, .int 0), (0, .ref 0)]) rfl rfl rfl rfl ?_
  have L2 : ∀ (m2 : Nat) (gi2 : Nat → Nat → Int32) (gl2 : Nat → Nat → Int64) (gr2 : Nat → Nat → Value) (y2_1 : Int32), t_I sh gi2 gr2 → t_X wl_f_clearEcho sh gi gl gr gi2 gl2 gr2 → 0 ≤ y2_1.toInt → y2_1.toInt ≤ 12 → gi2 0 0 = (gi 0 0) → (12 - y2_1.toInt).toNat = m2 → x_Ev X (d + 3) n_X11_clearEcho 2 [(1, .int y2_1), (0, .ref 0)] [] (sh, gi2, gl2, gr2) (t_PI wl_f_clearEcho sh gi gl gr (-1) 9 (Q_f_clearEcho gi gl gr)) := by
    intro m2
    induction m2 using Nat.strongRecOn with
    | _ m2 ih2 =>
    intro gi2 gl2 gr2 y2_1 hI hX l2_1 u2_1 c2_0 hm2
    refine ev_loc f_X11_clearEcho (nx := 3) rfl rfl rfl rfl ?_
    refine ev_bp f_X11_clearEcho (nx := 5) (v := 9) rfl (by decide) rfl ?_
    refine ev_if f_X11_clearEcho (t1 := 31) (t2 := 8) rfl rfl rfl (fun h3 => ?_) (fun h3 => ?_)
    · have l4 : 10 ≤ y2_1.toInt := t_ltl h3 (by decide : (9:Int) ≤ (9:Int32).toInt) rfl
      refine ev_loc f_X11_clearEcho (nx := 32) rfl rfl rfl rfl ?_
      refine ev_bp f_X11_clearEcho (nx := 34) (v := 6) rfl (by decide) rfl ?_
      refine ev_inV2 f_X11_clearEcho (nx := 37) (lo2 := [(0, .ref 0), (1, .int 6)]) rfl rfl rfl rfl f_X11_refuse (hI.wf.s rfl) rfl rfl rfl rfl rfl ?_
      refine ev_loc f_X11_refuse (nx := 1) rfl rfl rfl rfl ?_
      refine ev_loc f_X11_refuse (nx := 2) rfl rfl rfl rfl ?_
      refine ev_putIT f_X11_refuse (nx := 5) rfl (hI.wf.s rfl) rfl rfl rfl (hI.put0 (hI.wf.s rfl) rfl rfl) (hX.upI rfl) (fun g5 e5 hI hX => ?_)
      refine ev_ic f_X11_refuse (nx := 6) (v := -1) rfl (by decide) rfl ?_
      refine ev_retK1 f_X11_refuse rfl rfl rfl ?_
      exact ev_ret f_X11_clearEcho rfl rfl rfl ⟨_, _, _, rfl, hI, hX, ⟨_, rfl, (by decide : ((-1):Int) ≤ ((-1):Int32).toInt), (Int.le_trans (by decide : ((-1):Int32).toInt ≤ ((-1):Int)) (by decide : ((-1):Int) ≤ 9)), (show (((-1) : Int) = -1 → (g5 0 0).toInt = 6) ∧ (((-1) : Int) ≠ -1 → (g5 0 0).toInt = 0) from ⟨fun h => (by have ffs : (g5 0 0).toInt = 6 := (congrArg Int32.toInt (by rw [e5]; exact x_up2_at _ _ _ _ : g5 0 0 = 6)).trans (by decide); omega), fun h => (by have ffs : (g5 0 0).toInt = 6 := (congrArg Int32.toInt (by rw [e5]; exact x_up2_at _ _ _ _ : g5 0 0 = 6)).trans (by decide); omega)⟩)⟩⟩
    · have u6 : y2_1.toInt ≤ 9 := t_leu (t_nlt h3) (by decide : (9:Int32).toInt ≤ (9:Int))
      refine ev_loc f_X11_clearEcho (nx := 9) rfl rfl rfl rfl ?_
      obtain ⟨a7, e7, p7⟩ := hI.2.2.2.1.1
      refine ev_getR f_X11_clearEcho (nx := 12) rfl (hI.wf.s rfl) rfl rfl e7 rfl rfl ?_
      refine ev_loc f_X11_clearEcho (nx := 13) rfl rfl rfl rfl ?_
      refine ev_cI f_X11_clearEcho (nx := 16) (r := []) rfl rfl rfl rfl rfl rfl rfl (c_couplesAlike hI (a7) p7 (y2_1)) rfl hX rfl (fun w8 gi8 gl8 gr8 l8 u8 hI hX hC8 => ?_)
      replace p7 := p7.ext hC8.2
      refine ev_if f_X11_clearEcho (t1 := 19) (t2 := 25) rfl rfl rfl (fun h9 => ?_) (fun h9 => ?_)
      · have u10 : w8.toInt ≤ 0 := t_equ h9 (by decide : (0:Int32).toInt ≤ (0:Int))
        have l11 : 0 ≤ w8.toInt := t_eql h9 (by decide : (0:Int) ≤ (0:Int32).toInt)
        refine ev_loc f_X11_clearEcho (nx := 20) rfl rfl rfl rfl ?_
        refine ev_loc f_X11_clearEcho (nx := 21) rfl rfl rfl rfl ?_
        refine ev_inV2 f_X11_clearEcho (nx := 24) (lo2 := [(0, .ref 0), (1, .int y2_1)]) rfl rfl rfl rfl f_X11_answer (hI.wf.s rfl) rfl rfl rfl rfl rfl ?_
        refine ev_loc f_X11_answer (nx := 1) rfl rfl rfl rfl ?_
        refine ev_ic f_X11_answer (nx := 2) (v := 0) rfl (by decide) rfl ?_
        refine ev_putIT f_X11_answer (nx := 5) rfl (hI.wf.s rfl) rfl rfl rfl (hI.put0 (hI.wf.s rfl) rfl rfl) (hX.upI rfl) (fun g12 e12 hI hX => ?_)
        refine ev_loc f_X11_answer (nx := 6) rfl rfl rfl rfl ?_
        refine ev_retK1 f_X11_answer rfl rfl rfl ?_
        exact ev_ret f_X11_clearEcho rfl rfl rfl ⟨_, _, _, rfl, hI, hX, ⟨_, rfl, (Int.le_trans (by decide : ((-1):Int) ≤ 0) l2_1), u6, (show (y2_1.toInt = -1 → (g12 0 0).toInt = 6) ∧ (y2_1.toInt ≠ -1 → (g12 0 0).toInt = 0) from ⟨fun h => (by have ffs : (g12 0 0).toInt = 0 := (congrArg Int32.toInt (by rw [e12]; exact x_up2_at _ _ _ _ : g12 0 0 = 0)).trans (by decide); omega), fun h => (by have ffs : (g12 0 0).toInt = 0 := (congrArg Int32.toInt (by rw [e12]; exact x_up2_at _ _ _ _ : g12 0 0 = 0)).trans (by decide); omega)⟩)⟩⟩
      · have r13 : w8.toInt ≠ 0 := fun e => h9 (Int32.toInt_inj.mp (e.trans (by decide : (0:Int) = (0 : Int32).toInt)))
        refine ev_incR f_X11_clearEcho (nx := 28) (c := 1) (l := 1) (u := 10) rfl rfl (by decide) (by decide) l2_1 u6 rfl rfl (by decide) (by decide) rfl (fun z14 e14 l14 u14 => ?_)
        refine ev_jmp f_X11_clearEcho (nx := 2) rfl rfl rfl ?_
        refine ev_sub (lo := [(1, .int z14), (0, .ref 0)]) rfl (t_sc rfl (t_sc rfl t_sn)) ?_
        exact ih2 _ (by omega) gi8 gl8 gr8 (z14) hI hX  (Int.le_trans (by decide : (0:Int) ≤ 1) l14) (Int.le_trans u14 (by decide : (10:Int) ≤ 12)) ((hC8.1 0 0 rfl).1.trans c2_0) rfl
  refine ev_sub (lo := [(1, .int 0), (0, .ref 0)]) rfl (t_sc rfl (t_sc rfl t_sn)) ?_
  exact L2 _ gi gl gr (0) hI hX  (by decide : (0:Int) ≤ (0:Int32).toInt) (Int.le_trans (by decide : (0:Int32).toInt ≤ (0:Int)) (by decide : (0:Int) ≤ 12)) rfl rfl
