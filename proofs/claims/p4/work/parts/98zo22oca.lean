/-! ===== printed by riv.py: the steps of the other side ===== -/
noncomputable def wl_o_turnsRound : List (Nat × Nat) := [(69, 22), (69, 23), (69, 25), (70, 154011750)]
noncomputable def Q_o_turnsRound (gi : Nat → Nat → Int32) (gl : Nat → Nat → Int64) (gr : Nat → Nat → Value) (b : Nat → Int32) : (Nat → Nat → Int32) → (Nat → Nat → Int64) → (Nat → Nat → Value) → Prop := fun (gi2 : Nat → Nat → Int32) (gl2 : Nat → Nat → Int64) (gr2 : Nat → Nat → Value) => (∀ (b : Nat → Int32) (n q : Nat) (K E : List Int), t_OM b n q K E gi → t_OM b n q (s_pp K E).1 (s_pp K E).2 gi2)
theorem c_o_turnsRound {X : x_Ext} {d : Nat} {sh : List (Nat ⊕ (Nat × Nat))} {gi : Nat → Nat → Int32} {gl : Nat → Nat → Int64} {gr : Nat → Nat → Value} (hI : t_I sh gi gr) {b : Nat → Int32} (e_p0 : t_K b gi 1) : x_Me X (d + 3) n_X12_turnsRound [.ref 69] (sh, gi, gl, gr) (t_PN wl_o_turnsRound sh gi gl gr (Q_o_turnsRound gi gl gr b)) := by
  have hX : t_X wl_o_turnsRound sh gi gl gr gi gl gr := t_X.rf
  refine me_i f_X12_turnsRound (hI.wf.s rfl) rfl rfl rfl ?_
  obtain ⟨l1, u1⟩ := hI.b (hI.wf.s (k := 69) rfl) (t_bdK rfl : t_bd 11 22 = some (0, 60))
  obtain ⟨l2, u2⟩ := hI.b (hI.wf.s (k := 69) rfl) (t_bdK rfl : t_bd 11 23 = some (0, 6))
  obtain ⟨l3, u3⟩ := hI.b (hI.wf.s (k := 69) rfl) (t_bdK rfl : t_bd 11 24 = some (0, 24))
  obtain ⟨l4, u4⟩ := hI.b (hI.wf.s (k := 69) rfl) (t_bdK rfl : t_bd 11 25 = some (0, 210))
  have L5 : ∀ (m5 : Nat) (gi5 : Nat → Nat → Int32) (gl5 : Nat → Nat → Int64) (gr5 : Nat → Nat → Value), t_I sh gi5 gr5 → t_X wl_o_turnsRound sh gi gl gr gi5 gl5 gr5 → gi5 69 24 = (gi 69 24) → t_K b gi5 1 → (∀ (b : Nat → Int32) (n q : Nat) (K E : List Int), t_OM b n q K E gi → ∃ K2 E2, s_pp K2 E2 = s_pp K E ∧ t_OM b n q K2 E2 gi5) → (gi5 69 22).toInt.toNat = m5 → x_Ev X (d + 3) n_X12_turnsRound 0 [(0, .ref 69)] [] (sh, gi5, gl5, gr5) (t_PN wl_o_turnsRound sh gi gl gr (Q_o_turnsRound gi gl gr b)) := by
    intro m5
    induction m5 using Nat.strongRecOn with
    | _ m5 ih5 =>
    intro gi5 gl5 gr5 hI hX c5_0 j5_0 j5_1 hm5
    have cf5_0 : (gi5 69 24).toInt = (gi 69 24).toInt := congrArg Int32.toInt c5_0
    obtain ⟨l6, u6⟩ := hI.b (hI.wf.s (k := 69) rfl) (t_bdK rfl : t_bd 11 22 = some (0, 60))
    obtain ⟨l7, u7⟩ := hI.b (hI.wf.s (k := 69) rfl) (t_bdK rfl : t_bd 11 23 = some (0, 6))
    obtain ⟨l8, u8⟩ := hI.b (hI.wf.s (k := 69) rfl) (t_bdK rfl : t_bd 11 25 = some (0, 210))
    refine ev_loc f_X12_turnsRound (nx := 1) rfl rfl rfl rfl ?_
    refine ev_bp f_X12_turnsRound (nx := 3) (v := 20) rfl (by decide) rfl ?_
    refine ev_inV2 f_X12_turnsRound (nx := 6) (lo2 := [(0, .ref 69), (1, .int 20)]) rfl rfl rfl rfl f_X12_isDoing (hI.wf.s rfl) rfl rfl rfl rfl rfl ?_
    refine ev_loc f_X12_isDoing (nx := 1) rfl rfl rfl rfl ?_
    refine ev_gvI f_X12_isDoing (nx := 4) (w := (gi5 69 22)) rfl (hI.wf.s rfl) rfl rfl rfl rfl ?_
    refine ev_if f_X12_isDoing (t1 := 26) (t2 := 7) rfl rfl rfl (fun h9 => ?_) (fun h9 => ?_)
    · have u10 : (gi5 69 22).toInt ≤ 0 := t_leu h9 (by decide : (0:Int32).toInt ≤ (0:Int))
      refine ev_ic f_X12_isDoing (nx := 27) (v := 0) rfl (by decide) rfl ?_
      refine ev_retK1 f_X12_isDoing rfl rfl rfl ?_
      refine ev_t f_X12_turnsRound (t1 := 26) (t2 := 9) rfl rfl rfl (by decide) ?_
      exact ev_ret f_X12_turnsRound rfl rfl rfl ⟨_, _, _, rfl, hI, hX, ⟨rfl, (show (∀ (b : Nat → Int32) (n q : Nat) (K E : List Int), t_OM b n q K E gi → t_OM b n q (s_pp K E).1 (s_pp K E).2 gi5) from (fun b n q K E h => (by
                                                            obtain ⟨K2, E2, hp, hm⟩ := j5_1 b n q K E h
                                                            have hz : s_pp K2 E2 = (K2, E2) := s_pp_h (fun x L e => by rw [hm.e0 (by omega)] at e; cases e)
                                                            rw [← hp, hz]; exact hm)))⟩⟩
    · have l11 : 1 ≤ (gi5 69 22).toInt := t_ltl (t_nle h9) (by decide : (0:Int) ≤ (0:Int32).toInt) rfl
      refine ev_loc f_X12_isDoing (nx := 8) rfl rfl rfl rfl ?_
      refine ev_getR f_X12_isDoing (nx := 11) rfl (hI.wf.s rfl) rfl rfl (hI.wf.r rfl) rfl rfl ?_
      refine ev_loc f_X12_isDoing (nx := 12) rfl rfl rfl rfl ?_
      refine ev_gvI f_X12_isDoing (nx := 15) (w := (gi5 69 22)) rfl (hI.wf.s rfl) rfl rfl rfl rfl ?_
      refine ev_ic f_X12_isDoing (nx := 16) (v := 1) rfl (by decide) rfl ?_
      refine ev_subC f_X12_isDoing (nx := 17) (c := 1) (l := 0) (u := 59) rfl (by decide) l11 u6 rfl rfl (by decide) (by decide) rfl (fun z12 e12 l12 u12 => ?_)
      refine ev_ialdT f_X12_isDoing (nx := 18) rfl (hI.wf.s rfl) l12 (by decide) u12 (by decide) rfl (fun w13 e13 => ?_)
      refine ev_loc f_X12_isDoing (nx := 19) rfl rfl rfl rfl ?_
      refine ev_if f_X12_isDoing (t1 := 22) (t2 := 26) rfl rfl rfl (fun h14 => ?_) (fun h14 => ?_)
      · have u15 : w13.toInt ≤ 20 := t_equ h14 (by decide : (20:Int32).toInt ≤ (20:Int))
        have l16 : 20 ≤ w13.toInt := t_eql h14 (by decide : (20:Int) ≤ (20:Int32).toInt)
        refine ev_ic f_X12_isDoing (nx := 23) (v := 1) rfl (by decide) rfl ?_
        refine ev_jmp f_X12_isDoing (nx := 27) rfl rfl rfl ?_
        refine ev_retK1 f_X12_isDoing rfl rfl rfl ?_
        refine ev_f f_X12_turnsRound (t1 := 26) (t2 := 9) rfl rfl rfl (by decide) ?_
        refine ev_loc f_X12_turnsRound (nx := 10) rfl rfl rfl rfl ?_
        refine ev_inV1 f_X12_turnsRound (nx := 13) (lo2 := [(0, .ref 69)]) rfl rfl rfl rfl f_X12_joins (hI.wf.s rfl) rfl rfl rfl rfl rfl ?_
        have kn17 := t_K_num j5_0
        refine ev_loc f_X12_joins (nx := 1) rfl rfl rfl rfl ?_
        refine ev_alu f_X12_joins (nx := 2) rfl rfl rfl rfl ?_
        refine ev_gvI f_X12_joins (nx := 5) (w := (gi5 69 22)) rfl (hI.wf.s rfl) rfl rfl rfl rfl ?_
        refine ev_ic f_X12_joins (nx := 6) (v := 1) rfl (by decide) rfl ?_
        refine ev_subC f_X12_joins (nx := 7) (c := 1) (l := 0) (u := 59) rfl (by decide) l11 u6 rfl rfl (by decide) (by decide) rfl (fun z18 e18 l18 u18 => ?_)
        refine ev_putIT f_X12_joins (nx := 10) rfl (hI.wf.s rfl) rfl rfl rfl (hI.putB (hI.wf.s rfl) rfl rfl l18 (by decide) u18 (by decide)) (hX.upI rfl) (fun g19 e19 hI hX => ?_)
        refine ev_loc f_X12_joins (nx := 11) rfl rfl rfl rfl ?_
        refine ev_loc f_X12_joins (nx := 12) rfl rfl rfl rfl ?_
        refine ev_getR f_X12_joins (nx := 15) rfl (hI.wf.s rfl) rfl rfl (hI.wf.r rfl) rfl rfl ?_
        refine ev_loc f_X12_joins (nx := 16) rfl rfl rfl rfl ?_
        refine ev_gvI f_X12_joins (nx := 19) (w := z18) rfl (hI.wf.s rfl) rfl rfl (by rw [e19]; exact x_up2_at _ _ _ _ : g19 69 22 = z18) rfl ?_
        refine ev_ialdT f_X12_joins (nx := 20) rfl (hI.wf.s rfl) l18 (by decide) u18 (by decide) rfl (fun w20 e20 => ?_)
        refine ev_inV2 f_X12_joins (nx := 23) (lo2 := [(0, .ref 69), (1, .int w20)]) rfl rfl rfl rfl f_X12_asksAlso (hI.wf.s rfl) rfl rfl rfl rfl rfl ?_
        have kn21 := t_K_num j5_0
        refine ev_loc f_X12_asksAlso (nx := 1) rfl rfl rfl rfl ?_
        refine ev_getR f_X12_asksAlso (nx := 4) rfl (hI.wf.s rfl) rfl rfl (hI.wf.r rfl) rfl rfl ?_
        refine ev_sp f_X12_asksAlso (nx := 7) (v := 1540) rfl (by decide) rfl ?_
        refine ev_loc f_X12_asksAlso (nx := 8) rfl rfl rfl rfl ?_
        refine ev_gvI f_X12_asksAlso (nx := 11) (w := (gi5 69 25)) rfl (hI.wf.s rfl) rfl rfl ((by rw [e19]; exact x_up2_off (Or.inr (by decide)) : g19 69 25 = gi5 69 25).trans rfl) rfl ?_
        refine ev_addK f_X12_asksAlso (nx := 12) (c := 1540) (l := 1540) (u := 1750) rfl (by decide) l8 u8 rfl rfl (by decide) (by decide) rfl (fun z22 e22 l22 u22 => ?_)
        refine ev_loc f_X12_asksAlso (nx := 13) rfl rfl rfl rfl ?_
        refine ev_iastT f_X12_asksAlso (nx := 14) rfl (hI.wf.s rfl) l22 (by decide) u22 (by decide) rfl (hI.astL (hI.wf.s rfl) (by decide +kernel : t_abw 70 1540 1750 (-2147483648) 2147483647 = true) (t_cl1 l22 (by decide)) (t_cl2 l22 u22 (by decide) (by decide)) (t_lo w20) (t_hi w20) rfl) (hX.upI (t_inR (p := 1540) (m := 1750) rfl l22 (by decide) u22 (by decide) (by decide))) (fun g23 e23 hI hX => ?_)
        refine ev_loc f_X12_asksAlso (nx := 15) rfl rfl rfl rfl ?_
        refine ev_alu f_X12_asksAlso (nx := 16) rfl rfl rfl rfl ?_
        refine ev_gvI f_X12_asksAlso (nx := 19) (w := (gi5 69 25)) rfl (hI.wf.s rfl) rfl rfl ((by rw [e23]; exact x_up2_off (Or.inl (by decide)) : g23 69 25 = g19 69 25).trans ((by rw [e19]; exact x_up2_off (Or.inr (by decide)) : g19 69 25 = gi5 69 25).trans rfl)) rfl ?_
        refine ev_ic f_X12_asksAlso (nx := 20) (v := 1) rfl (by decide) rfl ?_
        refine ev_addC f_X12_asksAlso (nx := 21) (c := 1) (l := 1) (u := 211) rfl (by decide) l8 u8 rfl rfl (by decide) (by decide) rfl (fun z24 e24 l24 u24 => ?_)
        have u26 : z24.toInt ≤ (210:Int) := (by omega)
        refine ev_putIT f_X12_asksAlso (nx := 24) rfl (hI.wf.s rfl) rfl rfl rfl (hI.putB (hI.wf.s rfl) rfl rfl l24 (by decide) u26 (by decide)) (hX.upI rfl) (fun g25 e25 hI hX => ?_)
        refine ev_retK0 f_X12_asksAlso rfl rfl rfl ?_
        refine ev_retK0 f_X12_joins rfl rfl rfl ?_
        refine ev_loc f_X12_turnsRound (nx := 14) rfl rfl rfl rfl ?_
        refine ev_alu f_X12_turnsRound (nx := 15) rfl rfl rfl rfl ?_
        refine ev_gvI f_X12_turnsRound (nx := 18) (w := (gi5 69 23)) rfl (hI.wf.s rfl) rfl rfl ((by rw [e25]; exact x_up2_off (Or.inr (by decide)) : g25 69 23 = g23 69 23).trans ((by rw [e23]; exact x_up2_off (Or.inl (by decide)) : g23 69 23 = g19 69 23).trans ((by rw [e19]; exact x_up2_off (Or.inr (by decide)) : g19 69 23 = gi5 69 23).trans rfl))) rfl ?_
        refine ev_ic f_X12_turnsRound (nx := 19) (v := 1) rfl (by decide) rfl ?_
        refine ev_subC f_X12_turnsRound (nx := 20) (c := 1) (l := (-1)) (u := 5) rfl (by decide) l7 u7 rfl rfl (by decide) (by decide) rfl (fun z27 e27 l27 u27 => ?_)
        have l29 : (0:Int) ≤ z27.toInt := (by have hw := t_K_w j5_0 (by omega) (by rw [← (by rw [e13]; have hc := t_clamp (i := z12) (by omega); have hx : z12.toNatClampNeg = (gi5 69 22).toInt.toNat - 1 := (by omega); rw [hx] : w13 = gi5 77 ((gi5 69 22).toInt.toNat - 1))]; omega); omega)
        refine ev_putIT f_X12_turnsRound (nx := 23) rfl (hI.wf.s rfl) rfl rfl rfl (hI.putB (hI.wf.s rfl) rfl rfl l29 (by decide) u27 (by decide)) (hX.upI rfl) (fun g28 e28 hI hX => ?_)
        refine ev_jmp f_X12_turnsRound (nx := 0) rfl rfl rfl ?_
        refine ev_sub (lo := [(0, .ref 69)]) rfl (t_sc rfl t_sn) ?_
        exact ih5 _ (by have ff36 : (g28 69 22).toInt = z18.toInt := congrArg Int32.toInt ((by rw [e28]; exact x_up2_off (Or.inr (by decide)) : g28 69 22 = g25 69 22).trans ((by rw [e25]; exact x_up2_off (Or.inr (by decide)) : g25 69 22 = g23 69 22).trans ((by rw [e23]; exact x_up2_off (Or.inl (by decide)) : g23 69 22 = g19 69 22).trans (by rw [e19]; exact x_up2_at _ _ _ _ : g19 69 22 = z18)))); omega) g28 gl5 gr5  hI hX  ((by rw [e28]; exact x_up2_off (Or.inr (by decide)) : g28 69 24 = g25 69 24).trans ((by rw [e25]; exact x_up2_off (Or.inr (by decide)) : g25 69 24 = g23 69 24).trans ((by rw [e23]; exact x_up2_off (Or.inl (by decide)) : g23 69 24 = g19 69 24).trans ((by rw [e19]; exact x_up2_off (Or.inr (by decide)) : g19 69 24 = gi5 69 24).trans c5_0)))) (by have ht := (by rw [e20]; have hc := t_clamp (i := z18) (by omega); have hx : z18.toNatClampNeg = (gi5 69 22).toInt.toNat - 1 := (by omega); rw [hx]; exact congrFun (((by rw [e19]; exact x_up2_ne (by decide) : g19 77 = gi5 77))) _ : w20 = gi5 77 ((gi5 69 22).toInt.toNat - 1)); have ho := (t_one (p := 1540 + (gi5 69 25).toInt.toNat) ((by rw [e19]; exact x_up2_ne (by decide) : g19 70 = gi5 70)) e23 ((by rw [e28]; exact x_up2_ne (by decide) : g28 70 = g25 70).trans ((by rw [e25]; exact x_up2_ne (by decide) : g25 70 = g23 70))) (by have hc := t_clamp (i := z22) (by omega); omega)); exact t_K_not j5_0 (by omega) (by rw [← (by rw [e13]; have hc := t_clamp (i := z12) (by omega); have hx : z12.toNatClampNeg = (gi5 69 22).toInt.toNat - 1 := (by omega); rw [hx] : w13 = gi5 77 ((gi5 69 22).toInt.toNat - 1))]; omega) (show (g28 69 22).toInt = (gi5 69 22).toInt - 1 from (by have ff30 : (g28 69 22).toInt = z18.toInt := congrArg Int32.toInt ((by rw [e28]; exact x_up2_off (Or.inr (by decide)) : g28 69 22 = g25 69 22).trans ((by rw [e25]; exact x_up2_off (Or.inr (by decide)) : g25 69 22 = g23 69 22).trans ((by rw [e23]; exact x_up2_off (Or.inl (by decide)) : g23 69 22 = g19 69 22).trans (by rw [e19]; exact x_up2_at _ _ _ _ : g19 69 22 = z18)))); omega)) (show (g28 69 23).toInt = (gi5 69 23).toInt - 1 from (by have ff31 : (g28 69 23).toInt = z27.toInt := congrArg Int32.toInt (by rw [e28]; exact x_up2_at _ _ _ _ : g28 69 23 = z27); omega)) (show (g28 69 24).toInt = (gi5 69 24).toInt from (by have ff32 : (g28 69 24).toInt = (gi 69 24).toInt := congrArg Int32.toInt ((by rw [e28]; exact x_up2_off (Or.inr (by decide)) : g28 69 24 = g25 69 24).trans ((by rw [e25]; exact x_up2_off (Or.inr (by decide)) : g25 69 24 = g23 69 24).trans ((by rw [e23]; exact x_up2_off (Or.inl (by decide)) : g23 69 24 = g19 69 24).trans ((by rw [e19]; exact x_up2_off (Or.inr (by decide)) : g19 69 24 = gi5 69 24).trans c5_0)))); omega)) (show (g28 69 25).toInt = (gi5 69 25).toInt + 1 from (by have ff33 : (g28 69 25).toInt = z24.toInt := congrArg Int32.toInt ((by rw [e28]; exact x_up2_off (Or.inr (by decide)) : g28 69 25 = g25 69 25).trans (by rw [e25]; exact x_up2_at _ _ _ _ : g25 69 25 = z24)); omega)) ((by rw [e28]; exact x_up2_ne (by decide) : g28 77 = g25 77).trans ((by rw [e25]; exact x_up2_ne (by decide) : g25 77 = g23 77).trans ((by rw [e23]; exact x_up2_ne (by decide) : g23 77 = g19 77).trans ((by rw [e19]; exact x_up2_ne (by decide) : g19 77 = gi5 77))))) ho.1 (ho.2.trans ht)) (fun b n q K E h => (by
                                                            obtain ⟨K2, E2, hp, hm⟩ := j5_1 b n q K E h
                                                            have e1 := (by rw [e20]; have hc := t_clamp (i := z18) (by omega); have hx : z18.toNatClampNeg = (gi5 69 22).toInt.toNat - 1 := (by omega); rw [hx]; exact congrFun (((by rw [e19]; exact x_up2_ne (by decide) : g19 77 = gi5 77))) _ : w20 = gi5 77 ((gi5 69 22).toInt.toNat - 1))
                                                            obtain ⟨K3, eK, h1⟩ := hm.pe (g1 := g28) (w := w20) ((((t_fM.rf.u9 (by decide) e19).ux (by decide) e23).u9 (by decide) e25).u9 (by decide) e28) (by omega) e1 (show (g28 69 22).toInt = (gi5 69 22).toInt - 1 from (by have ff34 : (g28 69 22).toInt = z18.toInt := congrArg Int32.toInt ((by rw [e28]; exact x_up2_off (Or.inr (by decide)) : g28 69 22 = g25 69 22).trans ((by rw [e25]; exact x_up2_off (Or.inr (by decide)) : g25 69 22 = g23 69 22).trans ((by rw [e23]; exact x_up2_off (Or.inl (by decide)) : g23 69 22 = g19 69 22).trans (by rw [e19]; exact x_up2_at _ _ _ _ : g19 69 22 = z18)))); omega)) (show (g28 69 25).toInt = (gi5 69 25).toInt + 1 from (by have ff35 : (g28 69 25).toInt = z24.toInt := congrArg Int32.toInt ((by rw [e28]; exact x_up2_off (Or.inr (by decide)) : g28 69 25 = g25 69 25).trans (by rw [e25]; exact x_up2_at _ _ _ _ : g25 69 25 = z24)); omega)) ((by rw [e28]; exact x_up2_ne (by decide) : g28 77 = g25 77).trans ((by rw [e25]; exact x_up2_ne (by decide) : g25 77 = g23 77).trans ((by rw [e23]; exact x_up2_ne (by decide) : g23 77 = g19 77).trans ((by rw [e19]; exact x_up2_ne (by decide) : g19 77 = gi5 77))))) (t_one (p := 1540 + (gi5 69 25).toInt.toNat) ((by rw [e19]; exact x_up2_ne (by decide) : g19 70 = gi5 70)) e23 ((by rw [e28]; exact x_up2_ne (by decide) : g28 70 = g25 70).trans ((by rw [e25]; exact x_up2_ne (by decide) : g25 70 = g23 70))) (by have hc := t_clamp (i := z22) (by omega); omega))
                                                            have e2 := (by rw [e13]; have hc := t_clamp (i := z12) (by omega); have hx : z12.toNatClampNeg = (gi5 69 22).toInt.toNat - 1 := (by omega); rw [hx] : w13 = gi5 77 ((gi5 69 22).toInt.toNat - 1))
                                                            have h20 : w20.toInt = 20 := by rw [e1, ← e2]; omega
                                                            exact ⟨K3, _, by rw [← hp, eK, h20, s_pp20], h1⟩)) rfl
      · have r37 : w13.toInt ≠ 20 := fun e => h14 (Int32.toInt_inj.mp (e.trans (by decide : (20:Int) = (20 : Int32).toInt)))
        refine ev_ic f_X12_isDoing (nx := 27) (v := 0) rfl (by decide) rfl ?_
        refine ev_retK1 f_X12_isDoing rfl rfl rfl ?_
        refine ev_t f_X12_turnsRound (t1 := 26) (t2 := 9) rfl rfl rfl (by decide) ?_
        exact ev_ret f_X12_turnsRound rfl rfl rfl ⟨_, _, _, rfl, hI, hX, ⟨rfl, (show (∀ (b : Nat → Int32) (n q : Nat) (K E : List Int), t_OM b n q K E gi → t_OM b n q (s_pp K E).1 (s_pp K E).2 gi5) from (fun b n q K E h => (by
                                                            obtain ⟨K2, E2, hp, hm⟩ := j5_1 b n q K E h
                                                            have e1 := (by rw [e13]; have hc := t_clamp (i := z12) (by omega); have hx : z12.toNatClampNeg = (gi5 69 22).toInt.toNat - 1 := (by omega); rw [hx] : w13 = gi5 77 ((gi5 69 22).toInt.toNat - 1))
                                                            obtain ⟨K3, eK⟩ := hm.tp (by omega) e1
                                                            have hz : s_pp K2 E2 = (K2, E2) := s_pp_h (fun x L e => by rw [eK] at e; have e2 := (List.cons.inj e).1; omega)
                                                            rw [← hp, hz]; exact hm)))⟩⟩
  refine ev_sub (lo := [(0, .ref 69)]) rfl (t_sc rfl t_sn) ?_
  exact L5 _ gi gl gr  hI hX  rfl e_p0 (fun b n q K E h => ⟨K, E, rfl, h⟩) rfl
noncomputable def Q_o_turnsRoundB (gi : Nat → Nat → Int32) (gl : Nat → Nat → Int64) (gr : Nat → Nat → Value) (b : Nat → Int32) : (Nat → Nat → Int32) → (Nat → Nat → Int64) → (Nat → Nat → Value) → Prop := fun (gi2 : Nat → Nat → Int32) (gl2 : Nat → Nat → Int64) (gr2 : Nat → Nat → Value) => (t_K b gi2 2) ∧ ((∀ (b : Nat → Int32) (n q : Nat) (K E : List Int), t_OM b n q K E gi → t_OM b n q (s_pp K E).1 (s_pp K E).2 gi2))
theorem c_o_turnsRoundB {X : x_Ext} {d : Nat} {sh : List (Nat ⊕ (Nat × Nat))} {gi : Nat → Nat → Int32} {gl : Nat → Nat → Int64} {gr : Nat → Nat → Value} (hI : t_I sh gi gr) {b : Nat → Int32} (e_p0 : t_K b gi 1) : x_Me X (d + 3) n_X12_turnsRound [.ref 69] (sh, gi, gl, gr) (t_PN wl_m_turnsRound sh gi gl gr (Q_o_turnsRoundB gi gl gr b)) := by
  refine ((x_Me.up (c_m_turnsRound (X := X) (d := d) (gl := gl) (b := b) hI e_p0) (by omega)).and (x_Me.up (c_o_turnsRound (X := X) (d := d) (gl := gl) (b := b) hI e_p0) (by omega))).mono ?_
  rintro v G' ⟨⟨g1, l1, r1, rfl, k1, k2, rfl, k5⟩, g2, l2, r2, e, _, _, _, q⟩
  cases e
  exact ⟨g1, l1, r1, rfl, k1, k2, rfl, k5, q⟩
