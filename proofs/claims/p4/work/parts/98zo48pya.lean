/-! ===== printed by riv.py: a day of the other side, kept ===== -/
noncomputable def wl_y_draw : List (Nat × Nat) := [(69, 58)]
noncomputable def Q_y_draw (gi : Nat → Nat → Int32) (gl : Nat → Nat → Int64) (gr : Nat → Nat → Value) : Int32 → (Nat → Nat → Int32) → (Nat → Nat → Int64) → (Nat → Nat → Value) → Prop := fun (v : Int32) (gi2 : Nat → Nat → Int32) (gl2 : Nat → Nat → Int64) (gr2 : Nat → Nat → Value) => (∀ a : Int, (gi 69 58).toInt = a → 0 ≤ a → a < 65536 → (gi2 69 58).toInt = s_dr1 a ∧ v.toInt = s_dr1 a / 8 % 8)
theorem c_y_draw {X : x_Ext} {d : Nat} {sh : List (Nat ⊕ (Nat × Nat))} {gi : Nat → Nat → Int32} {gl : Nat → Nat → Int64} {gr : Nat → Nat → Value} (hI : t_I sh gi gr) : x_Me X (d + 1) n_X12_draw [.ref 69] (sh, gi, gl, gr) (t_PI wl_y_draw sh gi gl gr (-2147483648) 2147483647 (Q_y_draw gi gl gr)) := by
  have hX : t_X wl_y_draw sh gi gl gr gi gl gr := t_X.rf
  refine me_i f_X12_draw (hI.wf.s rfl) rfl rfl rfl ?_
  refine ev_loc f_X12_draw (nx := 1) rfl rfl rfl rfl ?_
  refine ev_loc f_X12_draw (nx := 2) rfl rfl rfl rfl ?_
  refine ev_gvI f_X12_draw (nx := 5) (w := (gi 69 58)) rfl (hI.wf.s rfl) rfl rfl rfl rfl ?_
  refine ev_sp f_X12_draw (nx := 8) (v := 2749) rfl (by decide) rfl ?_
  refine ev_anyIE f_X12_draw (nx := 9) rfl rfl rfl rfl (fun z2 e2 => ?_)
  refine ev_sp f_X12_draw (nx := 12) (v := 12553) rfl (by decide) rfl ?_
  refine ev_anyIE f_X12_draw (nx := 13) rfl rfl rfl rfl (fun z3 e3 => ?_)
  refine ev_ldW f_X12_draw (nx := 16) (v := 65536) rfl (by decide) rfl ?_
  refine ev_remN f_X12_draw (nx := 17) rfl (by decide) rfl (fun z4 e4 => ?_)
  refine ev_putIT f_X12_draw (nx := 20) rfl (hI.wf.s rfl) rfl rfl rfl (hI.put0 (hI.wf.s rfl) rfl rfl) (hX.upI rfl) (fun g5 e5 hI hX => ?_)
  refine ev_loc f_X12_draw (nx := 21) rfl rfl rfl rfl ?_
  refine ev_gvI f_X12_draw (nx := 24) (w := z4) rfl (hI.wf.s rfl) rfl rfl (by rw [e5]; exact x_up2_at _ _ _ _ : g5 69 58 = z4) rfl ?_
  refine ev_bp f_X12_draw (nx := 26) (v := 8) rfl (by decide) rfl ?_
  refine ev_divN f_X12_draw (nx := 27) rfl (by decide) rfl (fun z6 e6 => ?_)
  refine ev_bp f_X12_draw (nx := 29) (v := 8) rfl (by decide) rfl ?_
  refine ev_remN f_X12_draw (nx := 30) rfl (by decide) rfl (fun z7 e7 => ?_)
  exact ev_ret f_X12_draw rfl rfl rfl ⟨_, _, _, rfl, hI, hX, ⟨_, rfl, (t_lo z7), (t_hi z7), (show (∀ a : Int, (gi 69 58).toInt = a → 0 ≤ a → a < 65536 → (g5 69 58).toInt = s_dr1 a ∧ z7.toInt = s_dr1 a / 8 % 8) from (fun a h h0 h1 => by have hd1 := t_drw e2 e3 e4 h h0 h1; exact ⟨by rw [e5, x_up2_at]; exact hd1, t_dl8 e6 e7 hd1 (by show 0 ≤ (a * 2749 + 12553) % 65536; omega)⟩))⟩⟩
noncomputable def wl_y_leftOver : List (Nat × Nat) := []
noncomputable def Q_y_leftOver (gi : Nat → Nat → Int32) (gl : Nat → Nat → Int64) (gr : Nat → Nat → Value) : Int32 → (Nat → Nat → Int32) → (Nat → Nat → Int64) → (Nat → Nat → Value) → Prop := fun (v : Int32) (gi2 : Nat → Nat → Int32) (gl2 : Nat → Nat → Int64) (gr2 : Nat → Nat → Value) => (∀ (P : Nat → Nat → Int) (Z : Nat → Int) (q : Int), s_TP gi q P → t_YS (P 0 0).toNat Z gi → (gi 69 65).toInt = Z 4 → s_okz P Z → v.toInt = s_lf P Z)
theorem c_y_leftOver {X : x_Ext} {d : Nat} {sh : List (Nat ⊕ (Nat × Nat))} {gi : Nat → Nat → Int32} {gl : Nat → Nat → Int64} {gr : Nat → Nat → Value} (hI : t_I sh gi gr) : x_Me X (d + 1) n_X12_leftOver [.ref 69] (sh, gi, gl, gr) (t_PI wl_y_leftOver sh gi gl gr (-2147483648) 2147483647 (Q_y_leftOver gi gl gr)) := by
  have hX : t_X wl_y_leftOver sh gi gl gr gi gl gr := t_X.rf
  refine me_i f_X12_leftOver (hI.wf.s rfl) rfl rfl rfl ?_
  obtain ⟨l1, u1⟩ := hI.b (hI.wf.s (k := 69) rfl) (t_bdK rfl : t_bd 11 64 = some (0, 6))
  obtain ⟨l2, u2⟩ := hI.b (hI.wf.s (k := 69) rfl) (t_bdK rfl : t_bd 11 65 = some (0, 6))
  have hI0 := hI
  refine ev_loc f_X12_leftOver (nx := 1) rfl rfl rfl rfl ?_
  refine ev_getI f_X12_leftOver (nx := 4) rfl (hI.wf.s rfl) rfl rfl rfl ?_
  obtain ⟨l3, u3⟩ := hI.b (hI.wf.s (k := 69) rfl) (t_bdK rfl : t_bd 11 45 = some (0, 6))
  refine ev_loc f_X12_leftOver (nx := 5) rfl rfl rfl rfl ?_
  refine ev_gvI f_X12_leftOver (nx := 8) (w := (gi 69 65)) rfl (hI.wf.s rfl) rfl rfl rfl rfl ?_
  refine ev_subR f_X12_leftOver (nx := 9) (l := (-6)) (u := 6) rfl l3 u3 l2 u2 rfl rfl (by decide) (by decide) rfl (fun z4 e4 l4 u4 => ?_)
  refine ev_loc f_X12_leftOver (nx := 10) (lo' := [(1, .int z4), (0, .ref 69)]) rfl rfl rfl rfl ?_
  refine ev_loc f_X12_leftOver (nx := 11) rfl rfl rfl rfl ?_
  refine ev_gvI f_X12_leftOver (nx := 14) (w := (gi 69 64)) rfl (hI.wf.s rfl) rfl rfl rfl rfl ?_
  refine ev_loc f_X12_leftOver (nx := 15) (lo' := [(2, .int (gi 69 64)), (1, .int z4), (0, .ref 69)]) rfl rfl rfl rfl ?_
  have L5 : ∀ (m5 : Nat) (gi5 : Nat → Nat → Int32) (gl5 : Nat → Nat → Int64) (gr5 : Nat → Nat → Value) (y5_2 : Int32) (y5_1 : Int32), t_I sh gi5 gr5 → t_X wl_y_leftOver sh gi gl gr gi5 gl5 gr5 → 0 ≤ y5_2.toInt → y5_2.toInt ≤ 6 → gi5 69 45 = (gi 69 45) → gi5 69 64 = (gi 69 64) → gi5 69 65 = (gi 69 65) → (∀ (P : Nat → Nat → Int) (Z : Nat → Int) (q : Int), s_TP gi q P → t_YS (P 0 0).toNat Z gi → (gi 69 65).toInt = Z 4 → s_okz P Z → y5_1.toInt = P 0 1 - Z 4 + s_cu (s_lS Z) y5_2.toNatClampNeg ∧ (gi 69 64).toInt ≤ y5_2.toInt ∧ y5_2.toInt ≤ P 0 0) → (6 - y5_2.toInt).toNat = m5 → x_Ev X (d + 1) n_X12_leftOver 15 [(2, .int y5_2), (1, .int y5_1), (0, .ref 69)] [] (sh, gi5, gl5, gr5) (t_PI wl_y_leftOver sh gi gl gr (-2147483648) 2147483647 (Q_y_leftOver gi gl gr)) := by
    intro m5
    induction m5 using Nat.strongRecOn with
    | _ m5 ih5 =>
    intro gi5 gl5 gr5 y5_2 y5_1 hI hX l5_2 u5_2 c5_0 c5_1 c5_2 j5_0 hm5
    refine ev_loc f_X12_leftOver (nx := 16) rfl rfl rfl rfl ?_
    refine ev_loc f_X12_leftOver (nx := 17) rfl rfl rfl rfl ?_
    refine ev_getI f_X12_leftOver (nx := 20) rfl (hI.wf.s rfl) rfl rfl rfl ?_
    obtain ⟨l6, u6⟩ := hI.b (hI.wf.s (k := 69) rfl) (t_bdK rfl : t_bd 11 44 = some (0, 6))
    refine ev_if f_X12_leftOver (t1 := 51) (t2 := 23) rfl rfl rfl (fun h7 => ?_) (fun h7 => ?_)
    · have r8 : (gi5 69 44).toInt ≤ y5_2.toInt := Int32.le_iff_toInt_le.mp h7
      refine ev_loc f_X12_leftOver (nx := 52) rfl rfl rfl rfl ?_
      exact ev_ret f_X12_leftOver rfl rfl rfl ⟨_, _, _, rfl, hI, hX, ⟨_, rfl, (t_lo y5_1), (t_hi y5_1), (show (∀ (P : Nat → Nat → Int) (Z : Nat → Int) (q : Int), s_TP gi q P → t_YS (P 0 0).toNat Z gi → (gi 69 65).toInt = Z 4 → s_okz P Z → y5_1.toInt = s_lf P Z) from (fun P Z q hP hS h4 hO => (by
                                                            have q0 : P 0 0 = ((t_S gi : Nat) : Int) := hP.1.1
                                                            have q1 : P 0 1 = ((t_C gi : Nat) : Int) := hP.1.2
                                                            have b44 := hI0.b (hI0.wf.s (k := 69) rfl) (t_bdK rfl : t_bd 11 44 = some (0, 6))
                                                            have b45 := hI0.b (hI0.wf.s (k := 69) rfl) (t_bdK rfl : t_bd 11 45 = some (0, 6))
                                                            have u0 : ((t_S gi : Nat) : Int) = (gi 69 44).toInt := by unfold t_S; omega
                                                            have u1 : ((t_C gi : Nat) : Int) = (gi 69 45).toInt := by unfold t_C; omega
                                                            have s64 := hS.1
                                                            have o4 := hO.2
                                                            obtain ⟨h1, h2, h3⟩ := j5_0 P Z q hP hS h4 hO
                                                            have eg : gi5 = gi := funext fun c => funext fun j => (hX.1 c j rfl).1
                                                            have E44 : (gi5 69 44).toInt = (gi 69 44).toInt := by rw [eg]
                                                            have cy := t_clamp (i := y5_2) (by omega)
                                                            rw [show y5_2.toNatClampNeg = (P 0 0).toNat by omega] at h1
                                                            exact h1)))⟩⟩
    · have r9 : y5_2.toInt < (gi5 69 44).toInt := Int32.lt_iff_toInt_lt.mp (t_nle h7)
      have u10 : y5_2.toInt ≤ 5 := t_ltu (t_nle h7) u6 rfl
      have l11 : 1 ≤ (gi5 69 44).toInt := t_ltl (t_nle h7) l5_2 rfl
      refine ev_loc f_X12_leftOver (nx := 24) rfl rfl rfl rfl ?_
      refine ev_loc f_X12_leftOver (nx := 25) rfl rfl rfl rfl ?_
      refine ev_getR f_X12_leftOver (nx := 28) rfl (hI.wf.s rfl) rfl rfl (hI.wf.r rfl) rfl rfl ?_
      refine ev_loc f_X12_leftOver (nx := 29) rfl rfl rfl rfl ?_
      refine ev_getR f_X12_leftOver (nx := 32) rfl (hI.wf.s rfl) rfl rfl (hI.wf.r rfl) rfl rfl ?_
      refine ev_loc f_X12_leftOver (nx := 33) rfl rfl rfl rfl ?_
      refine ev_ialdT f_X12_leftOver (nx := 34) rfl (hI.wf.s rfl) l5_2 (by decide) u10 (by decide) rfl (fun w12 e12 => ?_)
      obtain ⟨l12, u12⟩ := hI.abi e12 (by decide +kernel : t_abr 90 0 5 0 5 = true) l5_2 (by decide) u10 (by decide)
      refine ev_baldT f_X12_leftOver (nx := 35) rfl (hI.wf.s rfl) rfl l12 (by decide) u12 (by decide) rfl (fun w13 e13 => ?_)
      obtain ⟨l13, u13⟩ := hI.abi e13 (by decide +kernel : t_abr 99 0 5 0 1 = true) l12 (by decide) u12 (by decide)
      refine ev_if f_X12_leftOver (t1 := 42) (t2 := 38) rfl rfl rfl (fun h14 => ?_) (fun h14 => ?_)
      · have u15 : w13.toInt ≤ 0 := t_equ h14 (by decide : (0:Int32).toInt ≤ (0:Int))
        refine ev_ic f_X12_leftOver (nx := 43) (v := 1) rfl (by decide) rfl ?_
        refine ev_anyIE f_X12_leftOver (nx := 44) rfl rfl rfl rfl (fun z16 e16 => ?_)
        refine ev_loc f_X12_leftOver (nx := 45) (lo' := [(1, .int z16), (2, .int y5_2), (0, .ref 69)]) rfl rfl rfl rfl ?_
        refine ev_incR f_X12_leftOver (nx := 48) (c := 1) (l := 1) (u := 6) rfl rfl (by decide) (by decide) l5_2 u10 rfl rfl (by decide) (by decide) rfl (fun z17 e17 l17 u17 => ?_)
        refine ev_jmp f_X12_leftOver (nx := 15) rfl rfl rfl ?_
        refine ev_sub (lo := [(2, .int z17), (1, .int z16), (0, .ref 69)]) rfl (t_sc rfl (t_sc rfl (t_sc rfl t_sn))) ?_
        exact ih5 _ (by omega) gi5 gl5 gr5 (z17) (z16) hI hX  (Int.le_trans (by decide : (0:Int) ≤ 1) l17) u17 c5_0 c5_1 c5_2 (fun P Z q hP hS h4 hO => (by
                                                            have q0 : P 0 0 = ((t_S gi : Nat) : Int) := hP.1.1
                                                            have q1 : P 0 1 = ((t_C gi : Nat) : Int) := hP.1.2
                                                            have b44 := hI0.b (hI0.wf.s (k := 69) rfl) (t_bdK rfl : t_bd 11 44 = some (0, 6))
                                                            have b45 := hI0.b (hI0.wf.s (k := 69) rfl) (t_bdK rfl : t_bd 11 45 = some (0, 6))
                                                            have u0 : ((t_S gi : Nat) : Int) = (gi 69 44).toInt := by unfold t_S; omega
                                                            have u1 : ((t_C gi : Nat) : Int) = (gi 69 45).toInt := by unfold t_C; omega
                                                            have s64 := hS.1
                                                            have o4 := hO.2
                                                            obtain ⟨h1, h2, h3⟩ := j5_0 P Z q hP hS h4 hO
                                                            have eg : gi5 = gi := funext fun c => funext fun j => (hX.1 c j rfl).1
                                                            have E44 : (gi5 69 44).toInt = (gi 69 44).toInt := by rw [eg]
                                                            have cy := t_clamp (i := y5_2) (by omega)
                                                            have cx := t_clamp (i := z17) (by omega)
                                                            have cw := t_clamp (i := w12) (by omega)
                                                            have hs : t_si gi y5_2.toNatClampNeg = w12.toNatClampNeg := by rw [← eg]; unfold t_si; rw [← e12]; omega
                                                            have hg : (gi 99 (t_si gi y5_2.toNatClampNeg)).toInt = w13.toInt := by rw [hs, ← eg, e13]
                                                            have hl := hS.lS (k := y5_2.toNatClampNeg) (by omega) (by omega)
                                                            rw [hg] at hl
                                                            have hk : s_cu (s_lS Z) (y5_2.toNatClampNeg + 1) = s_cu (s_lS Z) y5_2.toNatClampNeg + s_lS Z y5_2.toNatClampNeg := rfl
                                                            rw [show z17.toNatClampNeg = y5_2.toNatClampNeg + 1 by omega, hk, hl]
                                                            have hcb := s_cu_b (fun k => s_lS_b (Z := Z) (k := k)) y5_2.toNatClampNeg
                                                            rw [if_pos (by omega)]
                                                            have e1 : (1 : Int32).toInt = 1 := rfl
                                                            have hz := s_add e16 h1 e1 (by omega)
                                                            exact ⟨by omega, by omega, by omega⟩)) rfl
      · have r18 : w13.toInt ≠ 0 := fun e => h14 (Int32.toInt_inj.mp (e.trans (by decide : (0:Int) = (0 : Int32).toInt)))
        have l19 : 1 ≤ w13.toInt := t_nel h14 l13 rfl rfl
        refine ev_ic f_X12_leftOver (nx := 39) (v := 0) rfl (by decide) rfl ?_
        refine ev_jmp f_X12_leftOver (nx := 43) rfl rfl rfl ?_
        refine ev_addC f_X12_leftOver (nx := 44) (c := 0) (l := (-2147483648)) (u := 2147483647) rfl (by decide) (t_lo y5_1) (t_hi y5_1) rfl rfl (by decide) (by decide) rfl (fun z20 e20 l20 u20 => ?_)
        refine ev_loc f_X12_leftOver (nx := 45) (lo' := [(1, .int z20), (2, .int y5_2), (0, .ref 69)]) rfl rfl rfl rfl ?_
        refine ev_incR f_X12_leftOver (nx := 48) (c := 1) (l := 1) (u := 6) rfl rfl (by decide) (by decide) l5_2 u10 rfl rfl (by decide) (by decide) rfl (fun z21 e21 l21 u21 => ?_)
        refine ev_jmp f_X12_leftOver (nx := 15) rfl rfl rfl ?_
        refine ev_sub (lo := [(2, .int z21), (1, .int z20), (0, .ref 69)]) rfl (t_sc rfl (t_sc rfl (t_sc rfl t_sn))) ?_
        exact ih5 _ (by omega) gi5 gl5 gr5 (z21) (z20) hI hX  (Int.le_trans (by decide : (0:Int) ≤ 1) l21) u21 c5_0 c5_1 c5_2 (fun P Z q hP hS h4 hO => (by
                                                            have q0 : P 0 0 = ((t_S gi : Nat) : Int) := hP.1.1
                                                            have q1 : P 0 1 = ((t_C gi : Nat) : Int) := hP.1.2
                                                            have b44 := hI0.b (hI0.wf.s (k := 69) rfl) (t_bdK rfl : t_bd 11 44 = some (0, 6))
                                                            have b45 := hI0.b (hI0.wf.s (k := 69) rfl) (t_bdK rfl : t_bd 11 45 = some (0, 6))
                                                            have u0 : ((t_S gi : Nat) : Int) = (gi 69 44).toInt := by unfold t_S; omega
                                                            have u1 : ((t_C gi : Nat) : Int) = (gi 69 45).toInt := by unfold t_C; omega
                                                            have s64 := hS.1
                                                            have o4 := hO.2
                                                            obtain ⟨h1, h2, h3⟩ := j5_0 P Z q hP hS h4 hO
                                                            have eg : gi5 = gi := funext fun c => funext fun j => (hX.1 c j rfl).1
                                                            have E44 : (gi5 69 44).toInt = (gi 69 44).toInt := by rw [eg]
                                                            have cy := t_clamp (i := y5_2) (by omega)
                                                            have cx := t_clamp (i := z21) (by omega)
                                                            have cw := t_clamp (i := w12) (by omega)
                                                            have hs : t_si gi y5_2.toNatClampNeg = w12.toNatClampNeg := by rw [← eg]; unfold t_si; rw [← e12]; omega
                                                            have hg : (gi 99 (t_si gi y5_2.toNatClampNeg)).toInt = w13.toInt := by rw [hs, ← eg, e13]
                                                            have hl := hS.lS (k := y5_2.toNatClampNeg) (by omega) (by omega)
                                                            rw [hg] at hl
                                                            have hk : s_cu (s_lS Z) (y5_2.toNatClampNeg + 1) = s_cu (s_lS Z) y5_2.toNatClampNeg + s_lS Z y5_2.toNatClampNeg := rfl
                                                            rw [show z21.toNatClampNeg = y5_2.toNatClampNeg + 1 by omega, hk, hl]
                                                            have hcb := s_cu_b (fun k => s_lS_b (Z := Z) (k := k)) y5_2.toNatClampNeg
                                                            rw [if_neg (by omega)]
                                                            exact ⟨by omega, by omega, by omega⟩)) rfl
  refine ev_sub (lo := [(2, .int (gi 69 64)), (1, .int z4), (0, .ref 69)]) rfl (t_sc rfl (t_sc rfl (t_sc rfl t_sn))) ?_
  exact L5 _ gi gl gr ((gi 69 64)) (z4) hI hX  l1 u1 rfl rfl rfl (fun P Z q hP hS h4 hO => (by
                                                            have q0 : P 0 0 = ((t_S gi : Nat) : Int) := hP.1.1
                                                            have q1 : P 0 1 = ((t_C gi : Nat) : Int) := hP.1.2
                                                            have b44 := hI0.b (hI0.wf.s (k := 69) rfl) (t_bdK rfl : t_bd 11 44 = some (0, 6))
                                                            have b45 := hI0.b (hI0.wf.s (k := 69) rfl) (t_bdK rfl : t_bd 11 45 = some (0, 6))
                                                            have u0 : ((t_S gi : Nat) : Int) = (gi 69 44).toInt := by unfold t_S; omega
                                                            have u1 : ((t_C gi : Nat) : Int) = (gi 69 45).toInt := by unfold t_C; omega
                                                            have s64 := hS.1
                                                            have o4 := hO.2
                                                            have cx := t_clamp (i := (gi 69 64)) (by omega)
                                                            have hl := hS.l0 (k := (gi 69 64).toNatClampNeg) (by omega)
                                                            rw [hl]
                                                            exact ⟨by omega, by omega, by omega⟩)) rfl
