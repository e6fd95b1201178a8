/-! ===== printed by riv.py: a minute of the other side ===== -/
noncomputable def wl_y_minuteGoes : List (Nat × Nat) := [(69, 60), (69, 61), (69, 62), (69, 63), (69, 64), (69, 65), (69, 66), (69, 67), (69, 68), (69, 69), (69, 70), (99, 9999), (100, 9999)]
noncomputable def Q_y_minuteGoes (gi : Nat → Nat → Int32) (gl : Nat → Nat → Int64) (gr : Nat → Nat → Value) : (Nat → Nat → Int32) → (Nat → Nat → Int64) → (Nat → Nat → Value) → Prop := fun (gi2 : Nat → Nat → Int32) (gl2 : Nat → Nat → Int64) (gr2 : Nat → Nat → Value) => (∀ (P : Nat → Nat → Int) (Z : Nat → Int) (R : List (List Int × Int)), s_TP gi (gi 70 4).toInt P → t_IJ (P 0 0).toNat gi → t_YS (P 0 0).toNat Z gi → t_MB (gi 69 59).toInt Z gi → s_okz P Z → s_PO P → s_PB P → t_MQ (gi 70) R → s_crs R → (s_done P (s_en (gi 69 59).toInt Z) → (gi2 69 69).toInt = (gi 69 59).toInt ∧ t_YS (P 0 0).toNat (s_en (gi 69 59).toInt Z) gi2 ∧ t_MZ (gi 69 59).toInt (s_en (gi 69 59).toInt Z) gi2) ∧ (¬ s_done P (s_en (gi 69 59).toInt Z) → gi2 69 69 = gi 69 69 ∧ t_YS (P 0 0).toNat (s_mn P (fun F => s_ac F R) (gi 69 59).toInt Z) gi2 ∧ t_MB ((gi 69 59).toInt + 1) (s_mn P (fun F => s_ac F R) (gi 69 59).toInt Z) gi2))
theorem c_y_minuteGoes {X : x_Ext} {d : Nat} {sh : List (Nat ⊕ (Nat × Nat))} {gi : Nat → Nat → Int32} {gl : Nat → Nat → Int64} {gr : Nat → Nat → Value} (hI : t_I sh gi gr) (e_p0 : t_rpn (gi 70) 0) : x_Me X (d + 5) n_X12_minuteGoes [.ref 69] (sh, gi, gl, gr) (t_PN wl_y_minuteGoes sh gi gl gr (Q_y_minuteGoes gi gl gr)) := by
  have hX : t_X wl_y_minuteGoes sh gi gl gr gi gl gr := t_X.rf
  have hI0 := hI
  refine me_i f_X12_minuteGoes (hI.wf.s rfl) rfl rfl rfl ?_
  obtain ⟨l1, u1⟩ := hI.b (hI.wf.s (k := 69) rfl) (t_bdK rfl : t_bd 11 59 = some (0, 301))
  obtain ⟨l2, u2⟩ := hI.b (hI.wf.s (k := 69) rfl) (t_bdK rfl : t_bd 11 64 = some (0, 6))
  obtain ⟨l4, u4⟩ := hI.ab (by decide +kernel : t_abr 70 4 4 0 20 = true) (Nat.le_refl _) (Nat.le_refl _)
  have L5 : ∀ (gi5 : Nat → Nat → Int32) (gl5 : Nat → Nat → Int64) (gr5 : Nat → Nat → Value), t_I sh gi5 gr5 → t_X wl_y_minuteGoes sh gi gl gr gi5 gl5 gr5 → t_rpn (gi5 70) 0 → (∀ (P : Nat → Nat → Int) (Z : Nat → Int) (R : List (List Int × Int)), s_TP gi (gi 70 4).toInt P → t_IJ (P 0 0).toNat gi → t_YS (P 0 0).toNat Z gi → t_MB (gi 69 59).toInt Z gi → s_okz P Z → s_PO P → s_PB P → t_MQ (gi 70) R → s_crs R → ¬ s_done P (s_en (gi 69 59).toInt Z) ∧ t_YS (P 0 0).toNat (s_ob P (fun F => s_ac F R) (gi 69 59).toInt (s_skz P (gi 69 59).toInt (P 0 0).toNat 0 (s_en (gi 69 59).toInt Z))) gi5 ∧ t_MZ (gi 69 59).toInt (s_ob P (fun F => s_ac F R) (gi 69 59).toInt (s_skz P (gi 69 59).toInt (P 0 0).toNat 0 (s_en (gi 69 59).toInt Z))) gi5 ∧ gi5 69 69 = gi 69 69 ∧ (s_ob P (fun F => s_ac F R) (gi 69 59).toInt (s_skz P (gi 69 59).toInt (P 0 0).toNat 0 (s_en (gi 69 59).toInt Z))) 1 = 0 ∧ ¬ ((s_ob P (fun F => s_ac F R) (gi 69 59).toInt (s_skz P (gi 69 59).toInt (P 0 0).toNat 0 (s_en (gi 69 59).toInt Z))) 0 = 1 ∧ ((s_f1 (s_ob P (fun F => s_ac F R) (gi 69 59).toInt (s_skz P (gi 69 59).toInt (P 0 0).toNat 0 (s_en (gi 69 59).toInt Z))) (P 0 0).toNat 0 : Nat) : Int) < P 0 0 ∧ P 1 (s_f1 (s_ob P (fun F => s_ac F R) (gi 69 59).toInt (s_skz P (gi 69 59).toInt (P 0 0).toNat 0 (s_en (gi 69 59).toInt Z))) (P 0 0).toNat 0) ≤ (gi 69 59).toInt)) → x_Ev X (d + 5) n_X12_minuteGoes 283 [(0, .ref 69)] [] (sh, gi5, gl5, gr5) (t_PN wl_y_minuteGoes sh gi gl gr (Q_y_minuteGoes gi gl gr)) := by
    intro gi5 gl5 gr5 hI hX j5_0 j5_1
    obtain ⟨l6, u6⟩ := hI.b (hI.wf.s (k := 69) rfl) (t_bdK rfl : t_bd 11 59 = some (0, 301))
    obtain ⟨l7, u7⟩ := hI.b (hI.wf.s (k := 69) rfl) (t_bdK rfl : t_bd 11 64 = some (0, 6))
    obtain ⟨l9, u9⟩ := hI.ab (by decide +kernel : t_abr 70 4 4 0 20 = true) (Nat.le_refl _) (Nat.le_refl _)
    have hX283_5 := hX
    refine ev_loc f_X12_minuteGoes (nx := 284) rfl rfl rfl rfl ?_
    refine ev_getI f_X12_minuteGoes (nx := 287) rfl (hI.wf.s rfl) rfl rfl rfl ?_
    refine ev_if f_X12_minuteGoes (t1 := 290) (t2 := 390) rfl rfl rfl (fun h10 => ?_) (fun h10 => ?_)
    · have u11 : (gi5 69 60).toInt ≤ 0 := t_equ h10 (by decide : (0:Int32).toInt ≤ (0:Int))
      have l12 : 0 ≤ (gi5 69 60).toInt := t_eql h10 (by decide : (0:Int) ≤ (0:Int32).toInt)
      refine ev_loc f_X12_minuteGoes (nx := 291) rfl rfl rfl rfl ?_
      refine ev_getI f_X12_minuteGoes (nx := 294) rfl (hI.wf.s rfl) rfl rfl rfl ?_
      obtain ⟨l13, u13⟩ := hI.b (hI.wf.s (k := 69) rfl) (t_bdK rfl : t_bd 11 65 = some (0, 6))
      refine ev_loc f_X12_minuteGoes (nx := 295) rfl rfl rfl rfl ?_
      refine ev_getI f_X12_minuteGoes (nx := 298) rfl (hI.wf.s rfl) rfl rfl rfl ?_
      obtain ⟨l14, u14⟩ := hI.b (hI.wf.s (k := 69) rfl) (t_bdK rfl : t_bd 11 45 = some (0, 6))
      refine ev_if f_X12_minuteGoes (t1 := 390) (t2 := 301) rfl rfl rfl (fun h15 => ?_) (fun h15 => ?_)
      · have r16 : (gi5 69 45).toInt ≤ (gi5 69 65).toInt := Int32.le_iff_toInt_le.mp h15
        exact ev_ret f_X12_minuteGoes rfl rfl rfl ⟨_, _, _, rfl, hI, hX, ⟨rfl, (show (∀ (P : Nat → Nat → Int) (Z : Nat → Int) (R : List (List Int × Int)), s_TP gi (gi 70 4).toInt P → t_IJ (P 0 0).toNat gi → t_YS (P 0 0).toNat Z gi → t_MB (gi 69 59).toInt Z gi → s_okz P Z → s_PO P → s_PB P → t_MQ (gi 70) R → s_crs R → (s_done P (s_en (gi 69 59).toInt Z) → (gi5 69 69).toInt = (gi 69 59).toInt ∧ t_YS (P 0 0).toNat (s_en (gi 69 59).toInt Z) gi5 ∧ t_MZ (gi 69 59).toInt (s_en (gi 69 59).toInt Z) gi5) ∧ (¬ s_done P (s_en (gi 69 59).toInt Z) → gi5 69 69 = gi 69 69 ∧ t_YS (P 0 0).toNat (s_mn P (fun F => s_ac F R) (gi 69 59).toInt Z) gi5 ∧ t_MB ((gi 69 59).toInt + 1) (s_mn P (fun F => s_ac F R) (gi 69 59).toInt Z) gi5)) from (fun P Z R hP hJ hS hB hO hPO hPB hQ hcr => (by
                                                            have hm0 : 0 ≤ (gi 69 59).toInt := (hI0.b (hI0.wf.s (k := 69) rfl) (t_bdK rfl : t_bd 11 59 = some (0, 301))).1
                                                            have hm3 : (gi 69 59).toInt ≤ 301 := (hI0.b (hI0.wf.s (k := 69) rfl) (t_bdK rfl : t_bd 11 59 = some (0, 301))).2
                                                            have b44 := hI0.b (hI0.wf.s (k := 69) rfl) (t_bdK rfl : t_bd 11 44 = some (0, 6))
                                                            have b45 := hI0.b (hI0.wf.s (k := 69) rfl) (t_bdK rfl : t_bd 11 45 = some (0, 6))
                                                            have q0 : P 0 0 = ((t_S gi : Nat) : Int) := hP.1.1
                                                            have q1 : P 0 1 = ((t_C gi : Nat) : Int) := hP.1.2
                                                            have u0 : ((t_S gi : Nat) : Int) = (gi 69 44).toInt := by unfold t_S; omega
                                                            have u1 : ((t_C gi : Nat) : Int) = (gi 69 45).toInt := by unfold t_C; omega
                                                            have hO1 : s_okz P (s_en (gi 69 59).toInt Z) := s_en_ok hO hm3
                                                            have fa := t_F_X hX283_5
                                                            have Ta := hP.eq (fa 69 44 (by decide) rfl).1 (fa 69 45 (by decide) rfl).1 (t_F_nc fa rfl (by decide)) (t_F_nc fa rfl (by decide)) (t_F_nc fa rfl (by decide)) (t_F_nc fa rfl (by decide))
                                                            have Ia := hJ.eq (t_F_nc fa rfl (by decide))
                                                            have ma := congrArg Int32.toInt (fa 69 59 (by decide) rfl).1
                                                            have c44a := congrArg Int32.toInt (fa 69 44 (by decide) rfl).1
                                                            have c45a := congrArg Int32.toInt (fa 69 45 (by decide) rfl).1
                                                            obtain ⟨hnd, s1, y1, e69, hz0, nsh⟩ := j5_1 P Z R hP hJ hS hB hO hPO hPB hQ hcr
                                                            have hO3 : s_okz P (s_ob P (fun F => s_ac F R) (gi 69 59).toInt (s_skz P (gi 69 59).toInt (P 0 0).toNat 0 (s_en (gi 69 59).toInt Z))) := s_ob_ok (s_skz_ok hO1) hm0 hPO
                                                            have a0 := y1.1.1
                                                            have o0 := hO3.1
                                                            have a4 := y1.1.2.2
                                                            have n1 : ¬ (s_ob P (fun F => s_ac F R) (gi 69 59).toInt (s_skz P (gi 69 59).toInt (P 0 0).toNat 0 (s_en (gi 69 59).toInt Z))) 1 ≠ 0 := fun hh => hh hz0
                                                            have o4 := hO3.2
                                                            have nca : ¬ ((s_ob P (fun F => s_ac F R) (gi 69 59).toInt (s_skz P (gi 69 59).toInt (P 0 0).toNat 0 (s_en (gi 69 59).toInt Z))) 0 ≠ 1 ∧ (s_ob P (fun F => s_ac F R) (gi 69 59).toInt (s_skz P (gi 69 59).toInt (P 0 0).toNat 0 (s_en (gi 69 59).toInt Z))) 4 < P 0 1 ∧ P 5 ((s_ob P (fun F => s_ac F R) (gi 69 59).toInt (s_skz P (gi 69 59).toInt (P 0 0).toNat 0 (s_en (gi 69 59).toInt Z))) 4).toNat ≤ (gi 69 59).toInt) := fun hh => by have h7 := hh.1; have h8 := hh.2.1; have h9 := hh.2.2; omega
                                                            refine ⟨fun hd => absurd hd hnd, fun _ => ?_⟩
                                                            rw [show (s_mn P (fun F => s_ac F R) (gi 69 59).toInt Z) = (s_ob P (fun F => s_ac F R) (gi 69 59).toInt (s_skz P (gi 69 59).toInt (P 0 0).toNat 0 (s_en (gi 69 59).toInt Z))) from (if_neg n1).trans ((if_neg nsh).trans (if_neg nca))]
                                                            exact ⟨e69, s1, y1.next⟩)))⟩⟩
      · have r17 : (gi5 69 65).toInt < (gi5 69 45).toInt := Int32.lt_iff_toInt_lt.mp (t_nle h15)
        have u18 : (gi5 69 65).toInt ≤ 5 := t_ltu (t_nle h15) u14 rfl
        have l19 : 1 ≤ (gi5 69 45).toInt := t_ltl (t_nle h15) l13 rfl
        refine ev_loc f_X12_minuteGoes (nx := 302) rfl rfl rfl rfl ?_
        refine ev_getR f_X12_minuteGoes (nx := 305) rfl (hI.wf.s rfl) rfl rfl (hI.wf.r rfl) rfl rfl ?_
        refine ev_bp f_X12_minuteGoes (nx := 307) (v := 6) rfl (by decide) rfl ?_
        refine ev_loc f_X12_minuteGoes (nx := 308) rfl rfl rfl rfl ?_
        refine ev_getR f_X12_minuteGoes (nx := 311) rfl (hI.wf.s rfl) rfl rfl (hI.wf.r rfl) rfl rfl ?_
        refine ev_loc f_X12_minuteGoes (nx := 312) rfl rfl rfl rfl ?_
        refine ev_gvI f_X12_minuteGoes (nx := 315) (w := (gi5 69 65)) rfl (hI.wf.s rfl) rfl rfl rfl rfl ?_
        refine ev_ialdT f_X12_minuteGoes (nx := 316) rfl (hI.wf.s rfl) l13 (by decide) u18 (by decide) rfl (fun w20 e20 => ?_)
        obtain ⟨l20, u20⟩ := hI.abi e20 (by decide +kernel : t_abr 91 0 5 0 5 = true) l13 (by decide) u18 (by decide)
        refine ev_addK f_X12_minuteGoes (nx := 317) (c := 6) (l := 6) (u := 11) rfl (by decide) l20 u20 rfl rfl (by decide) (by decide) rfl (fun z21 e21 l21 u21 => ?_)
        refine ev_ialdT f_X12_minuteGoes (nx := 318) rfl (hI.wf.s rfl) l21 (by decide) u21 (by decide) rfl (fun w22 e22 => ?_)
        refine ev_loc f_X12_minuteGoes (nx := 319) rfl rfl rfl rfl ?_
        refine ev_gvI f_X12_minuteGoes (nx := 322) (w := (gi5 69 59)) rfl (hI.wf.s rfl) rfl rfl rfl rfl ?_
        refine ev_if f_X12_minuteGoes (t1 := 390) (t2 := 325) rfl rfl rfl (fun h23 => ?_) (fun h23 => ?_)
        · have r24 : (gi5 69 59).toInt < w22.toInt := Int32.lt_iff_toInt_lt.mp h23
          have l25 : 1 ≤ w22.toInt := t_ltl h23 l6 rfl
          exact ev_ret f_X12_minuteGoes rfl rfl rfl ⟨_, _, _, rfl, hI, hX, ⟨rfl, (show (∀ (P : Nat → Nat → Int) (Z : Nat → Int) (R : List (List Int × Int)), s_TP gi (gi 70 4).toInt P → t_IJ (P 0 0).toNat gi → t_YS (P 0 0).toNat Z gi → t_MB (gi 69 59).toInt Z gi → s_okz P Z → s_PO P → s_PB P → t_MQ (gi 70) R → s_crs R → (s_done P (s_en (gi 69 59).toInt Z) → (gi5 69 69).toInt = (gi 69 59).toInt ∧ t_YS (P 0 0).toNat (s_en (gi 69 59).toInt Z) gi5 ∧ t_MZ (gi 69 59).toInt (s_en (gi 69 59).toInt Z) gi5) ∧ (¬ s_done P (s_en (gi 69 59).toInt Z) → gi5 69 69 = gi 69 69 ∧ t_YS (P 0 0).toNat (s_mn P (fun F => s_ac F R) (gi 69 59).toInt Z) gi5 ∧ t_MB ((gi 69 59).toInt + 1) (s_mn P (fun F => s_ac F R) (gi 69 59).toInt Z) gi5)) from (fun P Z R hP hJ hS hB hO hPO hPB hQ hcr => (by
                                                            have hm0 : 0 ≤ (gi 69 59).toInt := (hI0.b (hI0.wf.s (k := 69) rfl) (t_bdK rfl : t_bd 11 59 = some (0, 301))).1
                                                            have hm3 : (gi 69 59).toInt ≤ 301 := (hI0.b (hI0.wf.s (k := 69) rfl) (t_bdK rfl : t_bd 11 59 = some (0, 301))).2
                                                            have b44 := hI0.b (hI0.wf.s (k := 69) rfl) (t_bdK rfl : t_bd 11 44 = some (0, 6))
                                                            have b45 := hI0.b (hI0.wf.s (k := 69) rfl) (t_bdK rfl : t_bd 11 45 = some (0, 6))
                                                            have q0 : P 0 0 = ((t_S gi : Nat) : Int) := hP.1.1
                                                            have q1 : P 0 1 = ((t_C gi : Nat) : Int) := hP.1.2
                                                            have u0 : ((t_S gi : Nat) : Int) = (gi 69 44).toInt := by unfold t_S; omega
                                                            have u1 : ((t_C gi : Nat) : Int) = (gi 69 45).toInt := by unfold t_C; omega
                                                            have hO1 : s_okz P (s_en (gi 69 59).toInt Z) := s_en_ok hO hm3
                                                            have fa := t_F_X hX283_5
                                                            have Ta := hP.eq (fa 69 44 (by decide) rfl).1 (fa 69 45 (by decide) rfl).1 (t_F_nc fa rfl (by decide)) (t_F_nc fa rfl (by decide)) (t_F_nc fa rfl (by decide)) (t_F_nc fa rfl (by decide))
                                                            have Ia := hJ.eq (t_F_nc fa rfl (by decide))
                                                            have ma := congrArg Int32.toInt (fa 69 59 (by decide) rfl).1
                                                            have c44a := congrArg Int32.toInt (fa 69 44 (by decide) rfl).1
                                                            have c45a := congrArg Int32.toInt (fa 69 45 (by decide) rfl).1
                                                            obtain ⟨hnd, s1, y1, e69, hz0, nsh⟩ := j5_1 P Z R hP hJ hS hB hO hPO hPB hQ hcr
                                                            have hO3 : s_okz P (s_ob P (fun F => s_ac F R) (gi 69 59).toInt (s_skz P (gi 69 59).toInt (P 0 0).toNat 0 (s_en (gi 69 59).toInt Z))) := s_ob_ok (s_skz_ok hO1) hm0 hPO
                                                            have a0 := y1.1.1
                                                            have o0 := hO3.1
                                                            have a4 := y1.1.2.2
                                                            have n1 : ¬ (s_ob P (fun F => s_ac F R) (gi 69 59).toInt (s_skz P (gi 69 59).toInt (P 0 0).toNat 0 (s_en (gi 69 59).toInt Z))) 1 ≠ 0 := fun hh => hh hz0
                                                            have o4 := hO3.2
                                                            have cx := t_clamp (i := (gi5 69 65)) (by omega)
                                                            have ek : (gi5 69 65).toNatClampNeg = ((s_ob P (fun F => s_ac F R) (gi 69 59).toInt (s_skz P (gi 69 59).toInt (P 0 0).toNat 0 (s_en (gi 69 59).toInt Z))) 4).toNat := by omega
                                                            have cw := t_clamp (i := w20) (by omega)
                                                            have ci := t_clamp (i := z21) (by omega)
                                                            have hci : t_ci gi5 (gi5 69 65).toNatClampNeg = w20.toNatClampNeg := by unfold t_ci; rw [← e20]; omega
                                                            obtain ⟨p5, p6, p7⟩ := Ta.2.2.1 (gi5 69 65).toNatClampNeg (by have := Ta.1.2; omega)
                                                            have hca : P 5 (gi5 69 65).toNatClampNeg = w22.toInt := by rw [p5]; unfold t_ca; rw [hci, e22, show z21.toNatClampNeg = 6 + w20.toNatClampNeg by omega]
                                                            rw [ek] at hca
                                                            have nca : ¬ ((s_ob P (fun F => s_ac F R) (gi 69 59).toInt (s_skz P (gi 69 59).toInt (P 0 0).toNat 0 (s_en (gi 69 59).toInt Z))) 0 ≠ 1 ∧ (s_ob P (fun F => s_ac F R) (gi 69 59).toInt (s_skz P (gi 69 59).toInt (P 0 0).toNat 0 (s_en (gi 69 59).toInt Z))) 4 < P 0 1 ∧ P 5 ((s_ob P (fun F => s_ac F R) (gi 69 59).toInt (s_skz P (gi 69 59).toInt (P 0 0).toNat 0 (s_en (gi 69 59).toInt Z))) 4).toNat ≤ (gi 69 59).toInt) := fun hh => by have h7 := hh.1; have h8 := hh.2.1; have h9 := hh.2.2; omega
                                                            refine ⟨fun hd => absurd hd hnd, fun _ => ?_⟩
                                                            rw [show (s_mn P (fun F => s_ac F R) (gi 69 59).toInt Z) = (s_ob P (fun F => s_ac F R) (gi 69 59).toInt (s_skz P (gi 69 59).toInt (P 0 0).toNat 0 (s_en (gi 69 59).toInt Z))) from (if_neg n1).trans ((if_neg nsh).trans (if_neg nca))]
                                                            exact ⟨e69, s1, y1.next⟩)))⟩⟩
        · have r26 : w22.toInt ≤ (gi5 69 59).toInt := Int32.le_iff_toInt_le.mp (t_nlt h23)
          have u27 : w22.toInt ≤ 301 := t_leu (t_nlt h23) u6
          refine ev_loc f_X12_minuteGoes (nx := 326) rfl rfl rfl rfl ?_
          refine ev_getR f_X12_minuteGoes (nx := 329) rfl (hI.wf.s rfl) rfl rfl (hI.wf.r rfl) rfl rfl ?_
          refine ev_loc f_X12_minuteGoes (nx := 330) rfl rfl rfl rfl ?_
          refine ev_gvI f_X12_minuteGoes (nx := 333) (w := (gi5 69 65)) rfl (hI.wf.s rfl) rfl rfl rfl rfl ?_
          refine ev_ialdT f_X12_minuteGoes (nx := 334) rfl (hI.wf.s rfl) l13 (by decide) u18 (by decide) rfl (fun w28 e28 => ?_)
          rw [e28.trans e20.symm]
          refine ev_loc f_X12_minuteGoes (nx := 335) (lo' := [(1, .int w20), (0, .ref 69)]) rfl rfl rfl rfl ?_
          refine ev_loc f_X12_minuteGoes (nx := 336) rfl rfl rfl rfl ?_
          refine ev_alu f_X12_minuteGoes (nx := 337) rfl rfl rfl rfl ?_
          refine ev_getI f_X12_minuteGoes (nx := 340) rfl (hI.wf.s rfl) rfl rfl rfl ?_
          refine ev_loc f_X12_minuteGoes (nx := 341) rfl rfl rfl rfl ?_
          refine ev_gvI f_X12_minuteGoes (nx := 344) (w := (gi5 69 59)) rfl (hI.wf.s rfl) rfl rfl rfl rfl ?_
          refine ev_loc f_X12_minuteGoes (nx := 345) rfl rfl rfl rfl ?_
          refine ev_getR f_X12_minuteGoes (nx := 348) rfl (hI.wf.s rfl) rfl rfl (hI.wf.r rfl) rfl rfl ?_
          refine ev_bp f_X12_minuteGoes (nx := 350) (v := 6) rfl (by decide) rfl ?_
          refine ev_loc f_X12_minuteGoes (nx := 351) rfl rfl rfl rfl ?_
          refine ev_addK f_X12_minuteGoes (nx := 352) (c := 6) (l := 6) (u := 11) rfl (by decide) l20 u20 rfl rfl (by decide) (by decide) rfl (fun z29 e29 l29 u29 => ?_)
          refine ev_ialdT f_X12_minuteGoes (nx := 353) rfl (hI.wf.s rfl) l29 (by decide) u29 (by decide) rfl (fun w30 e30 => ?_)
          refine ev_anyIE f_X12_minuteGoes (nx := 354) rfl rfl rfl rfl (fun z31 e31 => ?_)
          refine ev_loc f_X12_minuteGoes (nx := 355) rfl rfl rfl rfl ?_
          refine ev_loc f_X12_minuteGoes (nx := 356) rfl rfl rfl rfl ?_
          refine ev_ic f_X12_minuteGoes (nx := 357) (v := 2) rfl (by decide) rfl ?_
          refine ev_inV3 f_X12_minuteGoes (nx := 360) (lo2 := [(0, .ref 69), (1, .int w20), (2, .int 2)]) rfl rfl rfl rfl f_X12_ofCart (hI.wf.s rfl) rfl rfl rfl rfl rfl ?_
          refine ev_loc f_X12_ofCart (nx := 1) rfl rfl rfl rfl ?_
          refine ev_getR f_X12_ofCart (nx := 4) rfl (hI.wf.s rfl) rfl rfl (hI.wf.r rfl) rfl rfl ?_
          refine ev_bp f_X12_ofCart (nx := 6) (v := 82) rfl (by decide) rfl ?_
          refine ev_ic f_X12_ofCart (nx := 7) (v := 3) rfl (by decide) rfl ?_
          refine ev_loc f_X12_ofCart (nx := 8) rfl rfl rfl rfl ?_
          refine ev_mulL f_X12_ofCart (nx := 9) (c := 3) (l := 0) (u := 15) rfl (by decide) (by decide) l20 u20 rfl rfl (by decide) (by decide) rfl (fun z32 e32 l32 u32 => ?_)
          refine ev_addK f_X12_ofCart (nx := 10) (c := 82) (l := 82) (u := 97) rfl (by decide) l32 u32 rfl rfl (by decide) (by decide) rfl (fun z33 e33 l33 u33 => ?_)
          refine ev_loc f_X12_ofCart (nx := 11) rfl rfl rfl rfl ?_
          refine ev_addC f_X12_ofCart (nx := 12) (c := 2) (l := 84) (u := 99) rfl (by decide) l33 u33 rfl rfl (by decide) (by decide) rfl (fun z34 e34 l34 u34 => ?_)
          refine ev_ialdT f_X12_ofCart (nx := 13) rfl (hI.wf.s rfl) l34 (by decide) u34 (by decide) rfl (fun w35 e35 => ?_)
          obtain ⟨l35, u35⟩ := hI.abA (x := w20) e35 (by decide +kernel : t_aba 70 84 3 0 5 0 99 = true) (by omega) (by omega) (by omega)
          refine ev_retK1 f_X12_ofCart rfl rfl rfl ?_
          refine ev_anyIE f_X12_minuteGoes (nx := 361) rfl rfl rfl rfl (fun z36 e36 => ?_)
          refine ev_anyIE f_X12_minuteGoes (nx := 362) rfl rfl rfl rfl (fun z37 e37 => ?_)
          refine ev_putIT f_X12_minuteGoes (nx := 365) rfl (hI.wf.s rfl) rfl rfl rfl (hI.put0 (hI.wf.s rfl) rfl rfl) (hX.upI rfl) (fun g38 e38 hI hX => ?_)
          refine ev_loc f_X12_minuteGoes (nx := 366) rfl rfl rfl rfl ?_
          refine ev_loc f_X12_minuteGoes (nx := 367) rfl rfl rfl rfl ?_
          refine ev_gvI f_X12_minuteGoes (nx := 370) (w := (gi5 69 59)) rfl (hI.wf.s rfl) rfl rfl ((by rw [e38]; exact x_up2_off (Or.inr (by decide)) : g38 69 59 = gi5 69 59).trans rfl) rfl ?_
          refine ev_loc f_X12_minuteGoes (nx := 371) rfl rfl rfl rfl ?_
          refine ev_loc f_X12_minuteGoes (nx := 372) rfl rfl rfl rfl ?_
          refine ev_ic f_X12_minuteGoes (nx := 373) (v := 1) rfl (by decide) rfl ?_
          refine ev_inV3 f_X12_minuteGoes (nx := 376) (lo2 := [(0, .ref 69), (1, .int w20), (2, .int 1)]) rfl rfl rfl rfl f_X12_ofCart (hI.wf.s rfl) rfl rfl rfl rfl rfl ?_
          refine ev_loc f_X12_ofCart (nx := 1) rfl rfl rfl rfl ?_
          refine ev_getR f_X12_ofCart (nx := 4) rfl (hI.wf.s rfl) rfl rfl (hI.wf.r rfl) rfl rfl ?_
          refine ev_bp f_X12_ofCart (nx := 6) (v := 82) rfl (by decide) rfl ?_
          refine ev_ic f_X12_ofCart (nx := 7) (v := 3) rfl (by decide) rfl ?_
          refine ev_loc f_X12_ofCart (nx := 8) rfl rfl rfl rfl ?_
          refine ev_mulL f_X12_ofCart (nx := 9) (c := 3) (l := 0) (u := 15) rfl (by decide) (by decide) l20 u20 rfl rfl (by decide) (by decide) rfl (fun z39 e39 l39 u39 => ?_)
          refine ev_addK f_X12_ofCart (nx := 10) (c := 82) (l := 82) (u := 97) rfl (by decide) l39 u39 rfl rfl (by decide) (by decide) rfl (fun z40 e40 l40 u40 => ?_)
          refine ev_loc f_X12_ofCart (nx := 11) rfl rfl rfl rfl ?_
          refine ev_addC f_X12_ofCart (nx := 12) (c := 1) (l := 83) (u := 98) rfl (by decide) l40 u40 rfl rfl (by decide) (by decide) rfl (fun z41 e41 l41 u41 => ?_)
          refine ev_ialdT f_X12_ofCart (nx := 13) rfl (hI.wf.s rfl) l41 (by decide) u41 (by decide) rfl (fun w42 e42 => ?_)
          obtain ⟨l42, u42⟩ := hI.abA (x := w20) e42 (by decide +kernel : t_aba 70 83 3 0 5 0 20 = true) (by omega) (by omega) (by omega)
          refine ev_retK1 f_X12_ofCart rfl rfl rfl ?_
          refine ev_addR f_X12_minuteGoes (nx := 377) (l := 0) (u := 321) rfl l6 u6 l42 u42 rfl rfl (by decide) (by decide) rfl (fun z43 e43 l43 u43 => ?_)
          refine ev_putIT f_X12_minuteGoes (nx := 380) rfl (hI.wf.s rfl) rfl rfl rfl (hI.put0 (hI.wf.s rfl) rfl rfl) (hX.upI rfl) (fun g44 e44 hI hX => ?_)
          refine ev_loc f_X12_minuteGoes (nx := 381) rfl rfl rfl rfl ?_
          refine ev_alu f_X12_minuteGoes (nx := 382) rfl rfl rfl rfl ?_
          refine ev_gvI f_X12_minuteGoes (nx := 385) (w := (gi5 69 65)) rfl (hI.wf.s rfl) rfl rfl ((by rw [e44]; exact x_up2_off (Or.inr (by decide)) : g44 69 65 = g38 69 65).trans ((by rw [e38]; exact x_up2_off (Or.inr (by decide)) : g38 69 65 = gi5 69 65).trans rfl)) rfl ?_
          refine ev_ic f_X12_minuteGoes (nx := 386) (v := 1) rfl (by decide) rfl ?_
          refine ev_addC f_X12_minuteGoes (nx := 387) (c := 1) (l := 1) (u := 6) rfl (by decide) l13 u18 rfl rfl (by decide) (by decide) rfl (fun z45 e45 l45 u45 => ?_)
          refine ev_putIT f_X12_minuteGoes (nx := 390) rfl (hI.wf.s rfl) rfl rfl rfl (hI.putB (hI.wf.s rfl) rfl rfl l45 (by decide) u45 (by decide)) (hX.upI rfl) (fun g46 e46 hI hX => ?_)
          exact ev_ret f_X12_minuteGoes rfl rfl rfl ⟨_, _, _, rfl, hI, hX, ⟨rfl, (show (∀ (P : Nat → Nat → Int) (Z : Nat → Int) (R : List (List Int × Int)), s_TP gi (gi 70 4).toInt P → t_IJ (P 0 0).toNat gi → t_YS (P 0 0).toNat Z gi → t_MB (gi 69 59).toInt Z gi → s_okz P Z → s_PO P → s_PB P → t_MQ (gi 70) R → s_crs R → (s_done P (s_en (gi 69 59).toInt Z) → (g46 69 69).toInt = (gi 69 59).toInt ∧ t_YS (P 0 0).toNat (s_en (gi 69 59).toInt Z) g46 ∧ t_MZ (gi 69 59).toInt (s_en (gi 69 59).toInt Z) g46) ∧ (¬ s_done P (s_en (gi 69 59).toInt Z) → g46 69 69 = gi 69 69 ∧ t_YS (P 0 0).toNat (s_mn P (fun F => s_ac F R) (gi 69 59).toInt Z) g46 ∧ t_MB ((gi 69 59).toInt + 1) (s_mn P (fun F => s_ac F R) (gi 69 59).toInt Z) g46)) from (fun P Z R hP hJ hS hB hO hPO hPB hQ hcr => (by
                                                            have hm0 : 0 ≤ (gi 69 59).toInt := (hI0.b (hI0.wf.s (k := 69) rfl) (t_bdK rfl : t_bd 11 59 = some (0, 301))).1
                                                            have hm3 : (gi 69 59).toInt ≤ 301 := (hI0.b (hI0.wf.s (k := 69) rfl) (t_bdK rfl : t_bd 11 59 = some (0, 301))).2
                                                            have b44 := hI0.b (hI0.wf.s (k := 69) rfl) (t_bdK rfl : t_bd 11 44 = some (0, 6))
                                                            have b45 := hI0.b (hI0.wf.s (k := 69) rfl) (t_bdK rfl : t_bd 11 45 = some (0, 6))
                                                            have q0 : P 0 0 = ((t_S gi : Nat) : Int) := hP.1.1
                                                            have q1 : P 0 1 = ((t_C gi : Nat) : Int) := hP.1.2
                                                            have u0 : ((t_S gi : Nat) : Int) = (gi 69 44).toInt := by unfold t_S; omega
                                                            have u1 : ((t_C gi : Nat) : Int) = (gi 69 45).toInt := by unfold t_C; omega
                                                            have hO1 : s_okz P (s_en (gi 69 59).toInt Z) := s_en_ok hO hm3
                                                            have fa := t_F_X hX283_5
                                                            have Ta := hP.eq (fa 69 44 (by decide) rfl).1 (fa 69 45 (by decide) rfl).1 (t_F_nc fa rfl (by decide)) (t_F_nc fa rfl (by decide)) (t_F_nc fa rfl (by decide)) (t_F_nc fa rfl (by decide))
                                                            have Ia := hJ.eq (t_F_nc fa rfl (by decide))
                                                            have ma := congrArg Int32.toInt (fa 69 59 (by decide) rfl).1
                                                            have c44a := congrArg Int32.toInt (fa 69 44 (by decide) rfl).1
                                                            have c45a := congrArg Int32.toInt (fa 69 45 (by decide) rfl).1
                                                            obtain ⟨hnd, s1, y1, e69, hz0, nsh⟩ := j5_1 P Z R hP hJ hS hB hO hPO hPB hQ hcr
                                                            have hO3 : s_okz P (s_ob P (fun F => s_ac F R) (gi 69 59).toInt (s_skz P (gi 69 59).toInt (P 0 0).toNat 0 (s_en (gi 69 59).toInt Z))) := s_ob_ok (s_skz_ok hO1) hm0 hPO
                                                            have a0 := y1.1.1
                                                            have o0 := hO3.1
                                                            have a4 := y1.1.2.2
                                                            have n1 : ¬ (s_ob P (fun F => s_ac F R) (gi 69 59).toInt (s_skz P (gi 69 59).toInt (P 0 0).toNat 0 (s_en (gi 69 59).toInt Z))) 1 ≠ 0 := fun hh => hh hz0
                                                            have o4 := hO3.2
                                                            have cx := t_clamp (i := (gi5 69 65)) (by omega)
                                                            have ek : (gi5 69 65).toNatClampNeg = ((s_ob P (fun F => s_ac F R) (gi 69 59).toInt (s_skz P (gi 69 59).toInt (P 0 0).toNat 0 (s_en (gi 69 59).toInt Z))) 4).toNat := by omega
                                                            have cw := t_clamp (i := w20) (by omega)
                                                            have ci := t_clamp (i := z21) (by omega)
                                                            have hci : t_ci gi5 (gi5 69 65).toNatClampNeg = w20.toNatClampNeg := by unfold t_ci; rw [← e20]; omega
                                                            obtain ⟨p5, p6, p7⟩ := Ta.2.2.1 (gi5 69 65).toNatClampNeg (by have := Ta.1.2; omega)
                                                            have hca : P 5 (gi5 69 65).toNatClampNeg = w22.toInt := by rw [p5]; unfold t_ca; rw [hci, e22, show z21.toNatClampNeg = 6 + w20.toNatClampNeg by omega]
                                                            rw [ek] at hca
                                                            have cw2 := t_clamp (i := w20) (by omega)
                                                            have hs2 : t_ci gi5 (gi5 69 65).toNatClampNeg = w20.toNatClampNeg := by unfold t_ci; rw [← e20]; omega
                                                            have ka : w30.toInt = P 5 (gi5 69 65).toNatClampNeg := by rw [p5]; unfold t_ca; rw [hs2]; rw [e30, show z29.toNatClampNeg = 6 + w20.toNatClampNeg from (by have := t_clamp (i := z29) (by omega); omega)]
                                                            have kq : w35.toInt = P 7 (gi5 69 65).toNatClampNeg := by rw [p7]; unfold t_cc; rw [hs2]; rw [e35, show z34.toNatClampNeg = 84 + 3 * w20.toNatClampNeg from (by have := t_clamp (i := z34) (by omega); omega)]
                                                            have kt : w42.toInt = P 6 (gi5 69 65).toNatClampNeg := by rw [p6]; unfold t_ct; rw [hs2]; have hh : w42.toInt = (gi5 70 (83 + 3 * w20.toNatClampNeg)).toInt := (by rw [e42, show g38 70 = gi5 70 from funext fun j => by rw [e38, x_up2_off (Or.inl (by decide))], show z41.toNatClampNeg = 83 + 3 * w20.toNatClampNeg from (by have := t_clamp (i := z41) (by omega); omega)]); omega
                                                            have pb := hPB.2.2.1 (gi5 69 65).toNatClampNeg (by omega)
                                                            have pp := hPO.2.1 (gi5 69 65).toNatClampNeg (by omega)
                                                            have e66v := t_oi_w e37 e36 e31 (y1.2.1.1) ma ka kq
                                                            have e62v : z43.toInt = (gi 69 59).toInt + P 6 (gi5 69 65).toNatClampNeg := by have mr_ := ma; rw [← kt]; omega
                                                            rw [ek] at e66v e62v
                                                            have sca : ((s_ob P (fun F => s_ac F R) (gi 69 59).toInt (s_skz P (gi 69 59).toInt (P 0 0).toNat 0 (s_en (gi 69 59).toInt Z))) 0 ≠ 1 ∧ (s_ob P (fun F => s_ac F R) (gi 69 59).toInt (s_skz P (gi 69 59).toInt (P 0 0).toNat 0 (s_en (gi 69 59).toInt Z))) 4 < P 0 1 ∧ P 5 ((s_ob P (fun F => s_ac F R) (gi 69 59).toInt (s_skz P (gi 69 59).toInt (P 0 0).toNat 0 (s_en (gi 69 59).toInt Z))) 4).toNat ≤ (gi 69 59).toInt) := ⟨by omega, by omega, by omega⟩
                                                            refine ⟨fun hd => absurd hd hnd, fun _ => ?_⟩
                                                            rw [show (s_mn P (fun F => s_ac F R) (gi 69 59).toInt Z) = s_bC1 P (gi 69 59).toInt (s_ob P (fun F => s_ac F R) (gi 69 59).toInt (s_skz P (gi 69 59).toInt (P 0 0).toNat 0 (s_en (gi 69 59).toInt Z))) ((s_ob P (fun F => s_ac F R) (gi 69 59).toInt (s_skz P (gi 69 59).toInt (P 0 0).toNat 0 (s_en (gi 69 59).toInt Z))) 4).toNat from (if_neg n1).trans ((if_neg nsh).trans (if_pos sca))]
                                                            exact ⟨by rw [e46, x_up2_off (Or.inr (by decide)), e44, x_up2_off (Or.inr (by decide)), e38, x_up2_off (Or.inr (by decide))]; exact e69, s1.bc (by rw [e46, x_up2_off (Or.inr (by decide)), e44, x_up2_off (Or.inr (by decide)), e38, x_up2_off (Or.inr (by decide))]) (funext fun j => by rw [e46, x_up2_off (Or.inl (by decide)), e44, x_up2_off (Or.inl (by decide)), e38, x_up2_off (Or.inl (by decide))]) (funext fun j => by rw [e46, x_up2_off (Or.inl (by decide)), e44, x_up2_off (Or.inl (by decide)), e38, x_up2_off (Or.inl (by decide))]), y1.bc hz0 (by rw [e46, x_up2_off (Or.inr (by decide)), e44, x_up2_at]; exact e62v) (by rw [e46, x_up2_at]; omega) (by rw [e46, x_up2_off (Or.inr (by decide)), e44, x_up2_off (Or.inr (by decide)), e38, x_up2_at]; exact e66v) (fun j a b c d e f => by rcases (show j = 60 ∨ j = 61 ∨ j = 63 ∨ j = 67 by omega) with rfl | rfl | rfl | rfl <;> rw [e46, x_up2_off (Or.inr (by decide)), e44, x_up2_off (Or.inr (by decide)), e38, x_up2_off (Or.inr (by decide))])⟩)))⟩⟩
    · have r47 : (gi5 69 60).toInt ≠ 0 := fun e => h10 (Int32.toInt_inj.mp (e.trans (by decide : (0:Int) = (0 : Int32).toInt)))
      exact ev_ret f_X12_minuteGoes rfl rfl rfl ⟨_, _, _, rfl, hI, hX, ⟨rfl, (show (∀ (P : Nat → Nat → Int) (Z : Nat → Int) (R : List (List Int × Int)), s_TP gi (gi 70 4).toInt P → t_IJ (P 0 0).toNat gi → t_YS (P 0 0).toNat Z gi → t_MB (gi 69 59).toInt Z gi → s_okz P Z → s_PO P → s_PB P → t_MQ (gi 70) R → s_crs R → (s_done P (s_en (gi 69 59).toInt Z) → (gi5 69 69).toInt = (gi 69 59).toInt ∧ t_YS (P 0 0).toNat (s_en (gi 69 59).toInt Z) gi5 ∧ t_MZ (gi 69 59).toInt (s_en (gi 69 59).toInt Z) gi5) ∧ (¬ s_done P (s_en (gi 69 59).toInt Z) → gi5 69 69 = gi 69 69 ∧ t_YS (P 0 0).toNat (s_mn P (fun F => s_ac F R) (gi 69 59).toInt Z) gi5 ∧ t_MB ((gi 69 59).toInt + 1) (s_mn P (fun F => s_ac F R) (gi 69 59).toInt Z) gi5)) from (fun P Z R hP hJ hS hB hO hPO hPB hQ hcr => (by
                                                            have hm0 : 0 ≤ (gi 69 59).toInt := (hI0.b (hI0.wf.s (k := 69) rfl) (t_bdK rfl : t_bd 11 59 = some (0, 301))).1
                                                            have hm3 : (gi 69 59).toInt ≤ 301 := (hI0.b (hI0.wf.s (k := 69) rfl) (t_bdK rfl : t_bd 11 59 = some (0, 301))).2
                                                            have b44 := hI0.b (hI0.wf.s (k := 69) rfl) (t_bdK rfl : t_bd 11 44 = some (0, 6))
                                                            have b45 := hI0.b (hI0.wf.s (k := 69) rfl) (t_bdK rfl : t_bd 11 45 = some (0, 6))
                                                            have q0 : P 0 0 = ((t_S gi : Nat) : Int) := hP.1.1
                                                            have q1 : P 0 1 = ((t_C gi : Nat) : Int) := hP.1.2
                                                            have u0 : ((t_S gi : Nat) : Int) = (gi 69 44).toInt := by unfold t_S; omega
                                                            have u1 : ((t_C gi : Nat) : Int) = (gi 69 45).toInt := by unfold t_C; omega
                                                            have hO1 : s_okz P (s_en (gi 69 59).toInt Z) := s_en_ok hO hm3
                                                            have fa := t_F_X hX283_5
                                                            have Ta := hP.eq (fa 69 44 (by decide) rfl).1 (fa 69 45 (by decide) rfl).1 (t_F_nc fa rfl (by decide)) (t_F_nc fa rfl (by decide)) (t_F_nc fa rfl (by decide)) (t_F_nc fa rfl (by decide))
                                                            have Ia := hJ.eq (t_F_nc fa rfl (by decide))
                                                            have ma := congrArg Int32.toInt (fa 69 59 (by decide) rfl).1
                                                            have c44a := congrArg Int32.toInt (fa 69 44 (by decide) rfl).1
                                                            have c45a := congrArg Int32.toInt (fa 69 45 (by decide) rfl).1
                                                            obtain ⟨hnd, s1, y1, e69, hz0, nsh⟩ := j5_1 P Z R hP hJ hS hB hO hPO hPB hQ hcr
                                                            have hO3 : s_okz P (s_ob P (fun F => s_ac F R) (gi 69 59).toInt (s_skz P (gi 69 59).toInt (P 0 0).toNat 0 (s_en (gi 69 59).toInt Z))) := s_ob_ok (s_skz_ok hO1) hm0 hPO
                                                            have a0 := y1.1.1
                                                            have o0 := hO3.1
                                                            have a4 := y1.1.2.2
                                                            have n1 : ¬ (s_ob P (fun F => s_ac F R) (gi 69 59).toInt (s_skz P (gi 69 59).toInt (P 0 0).toNat 0 (s_en (gi 69 59).toInt Z))) 1 ≠ 0 := fun hh => hh hz0
                                                            have o4 := hO3.2
                                                            have nca : ¬ ((s_ob P (fun F => s_ac F R) (gi 69 59).toInt (s_skz P (gi 69 59).toInt (P 0 0).toNat 0 (s_en (gi 69 59).toInt Z))) 0 ≠ 1 ∧ (s_ob P (fun F => s_ac F R) (gi 69 59).toInt (s_skz P (gi 69 59).toInt (P 0 0).toNat 0 (s_en (gi 69 59).toInt Z))) 4 < P 0 1 ∧ P 5 ((s_ob P (fun F => s_ac F R) (gi 69 59).toInt (s_skz P (gi 69 59).toInt (P 0 0).toNat 0 (s_en (gi 69 59).toInt Z))) 4).toNat ≤ (gi 69 59).toInt) := fun hh => by have h7 := hh.1; have h8 := hh.2.1; have h9 := hh.2.2; omega
                                                            refine ⟨fun hd => absurd hd hnd, fun _ => ?_⟩
                                                            rw [show (s_mn P (fun F => s_ac F R) (gi 69 59).toInt Z) = (s_ob P (fun F => s_ac F R) (gi 69 59).toInt (s_skz P (gi 69 59).toInt (P 0 0).toNat 0 (s_en (gi 69 59).toInt Z))) from (if_neg n1).trans ((if_neg nsh).trans (if_neg nca))]
                                                            exact ⟨e69, s1, y1.next⟩)))⟩⟩
  have L48 : ∀ (gi48 : Nat → Nat → Int32) (gl48 : Nat → Nat → Int64) (gr48 : Nat → Nat → Value), t_I sh gi48 gr48 → t_X wl_y_minuteGoes sh gi gl gr gi48 gl48 gr48 → t_rpn (gi48 70) 0 → (∀ (P : Nat → Nat → Int) (Z : Nat → Int) (R : List (List Int × Int)), s_TP gi (gi 70 4).toInt P → t_IJ (P 0 0).toNat gi → t_YS (P 0 0).toNat Z gi → t_MB (gi 69 59).toInt Z gi → s_okz P Z → s_PO P → s_PB P → t_MQ (gi 70) R → s_crs R → ¬ s_done P (s_en (gi 69 59).toInt Z) ∧ t_YS (P 0 0).toNat (s_ob P (fun F => s_ac F R) (gi 69 59).toInt (s_skz P (gi 69 59).toInt (P 0 0).toNat 0 (s_en (gi 69 59).toInt Z))) gi48 ∧ t_MZ (gi 69 59).toInt (s_ob P (fun F => s_ac F R) (gi 69 59).toInt (s_skz P (gi 69 59).toInt (P 0 0).toNat 0 (s_en (gi 69 59).toInt Z))) gi48 ∧ gi48 69 69 = gi 69 69 ∧ (gi48 69 64).toInt = ((s_f1 (s_ob P (fun F => s_ac F R) (gi 69 59).toInt (s_skz P (gi 69 59).toInt (P 0 0).toNat 0 (s_en (gi 69 59).toInt Z))) (P 0 0).toNat 0 : Nat) : Int)) → x_Ev X (d + 5) n_X12_minuteGoes 160 [(0, .ref 69)] [] (sh, gi48, gl48, gr48) (t_PN wl_y_minuteGoes sh gi gl gr (Q_y_minuteGoes gi gl gr)) := by
    intro gi48 gl48 gr48 hI hX j48_0 j48_1
    obtain ⟨l49, u49⟩ := hI.b (hI.wf.s (k := 69) rfl) (t_bdK rfl : t_bd 11 59 = some (0, 301))
    obtain ⟨l50, u50⟩ := hI.b (hI.wf.s (k := 69) rfl) (t_bdK rfl : t_bd 11 64 = some (0, 6))
    obtain ⟨l52, u52⟩ := hI.ab (by decide +kernel : t_abr 70 4 4 0 20 = true) (Nat.le_refl _) (Nat.le_refl _)
    have hX160_48 := hX
    refine ev_loc f_X12_minuteGoes (nx := 161) rfl rfl rfl rfl ?_
    refine ev_inV1 f_X12_minuteGoes (nx := 164) (lo2 := [(0, .ref 69)]) rfl rfl rfl rfl f_X12_isBusy (hI.wf.s rfl) rfl rfl rfl rfl rfl ?_
    refine ev_loc f_X12_isBusy (nx := 1) rfl rfl rfl rfl ?_
    refine ev_getI f_X12_isBusy (nx := 4) rfl (hI.wf.s rfl) rfl rfl rfl ?_
    refine ev_loc f_X12_isBusy (nx := 5) rfl rfl rfl rfl ?_
    refine ev_gvI f_X12_isBusy (nx := 8) (w := (gi48 69 59)) rfl (hI.wf.s rfl) rfl rfl rfl rfl ?_
    refine ev_if f_X12_isBusy (t1 := 22) (t2 := 11) rfl rfl rfl (fun h53 => ?_) (fun h53 => ?_)
    · have r54 : (gi48 69 59).toInt < (gi48 69 61).toInt := Int32.lt_iff_toInt_lt.mp h53
      have l55 : 1 ≤ (gi48 69 61).toInt := t_ltl h53 l49 rfl
      refine ev_ic f_X12_isBusy (nx := 23) (v := 1) rfl (by decide) rfl ?_
      refine ev_jmp f_X12_isBusy (nx := 27) rfl rfl rfl ?_
      refine ev_retK1 f_X12_isBusy rfl rfl rfl ?_
      refine ev_f f_X12_minuteGoes (t1 := 168) (t2 := 167) rfl rfl rfl (by decide) ?_
      exact ev_ret f_X12_minuteGoes rfl rfl rfl ⟨_, _, _, rfl, hI, hX, ⟨rfl, (show (∀ (P : Nat → Nat → Int) (Z : Nat → Int) (R : List (List Int × Int)), s_TP gi (gi 70 4).toInt P → t_IJ (P 0 0).toNat gi → t_YS (P 0 0).toNat Z gi → t_MB (gi 69 59).toInt Z gi → s_okz P Z → s_PO P → s_PB P → t_MQ (gi 70) R → s_crs R → (s_done P (s_en (gi 69 59).toInt Z) → (gi48 69 69).toInt = (gi 69 59).toInt ∧ t_YS (P 0 0).toNat (s_en (gi 69 59).toInt Z) gi48 ∧ t_MZ (gi 69 59).toInt (s_en (gi 69 59).toInt Z) gi48) ∧ (¬ s_done P (s_en (gi 69 59).toInt Z) → gi48 69 69 = gi 69 69 ∧ t_YS (P 0 0).toNat (s_mn P (fun F => s_ac F R) (gi 69 59).toInt Z) gi48 ∧ t_MB ((gi 69 59).toInt + 1) (s_mn P (fun F => s_ac F R) (gi 69 59).toInt Z) gi48)) from (fun P Z R hP hJ hS hB hO hPO hPB hQ hcr => (by
                                                            have hm0 : 0 ≤ (gi 69 59).toInt := (hI0.b (hI0.wf.s (k := 69) rfl) (t_bdK rfl : t_bd 11 59 = some (0, 301))).1
                                                            have hm3 : (gi 69 59).toInt ≤ 301 := (hI0.b (hI0.wf.s (k := 69) rfl) (t_bdK rfl : t_bd 11 59 = some (0, 301))).2
                                                            have b44 := hI0.b (hI0.wf.s (k := 69) rfl) (t_bdK rfl : t_bd 11 44 = some (0, 6))
                                                            have b45 := hI0.b (hI0.wf.s (k := 69) rfl) (t_bdK rfl : t_bd 11 45 = some (0, 6))
                                                            have q0 : P 0 0 = ((t_S gi : Nat) : Int) := hP.1.1
                                                            have q1 : P 0 1 = ((t_C gi : Nat) : Int) := hP.1.2
                                                            have u0 : ((t_S gi : Nat) : Int) = (gi 69 44).toInt := by unfold t_S; omega
                                                            have u1 : ((t_C gi : Nat) : Int) = (gi 69 45).toInt := by unfold t_C; omega
                                                            have hO1 : s_okz P (s_en (gi 69 59).toInt Z) := s_en_ok hO hm3
                                                            have fa := t_F_X hX160_48
                                                            have Ta := hP.eq (fa 69 44 (by decide) rfl).1 (fa 69 45 (by decide) rfl).1 (t_F_nc fa rfl (by decide)) (t_F_nc fa rfl (by decide)) (t_F_nc fa rfl (by decide)) (t_F_nc fa rfl (by decide))
                                                            have Ia := hJ.eq (t_F_nc fa rfl (by decide))
                                                            have ma := congrArg Int32.toInt (fa 69 59 (by decide) rfl).1
                                                            have c44a := congrArg Int32.toInt (fa 69 44 (by decide) rfl).1
                                                            have c45a := congrArg Int32.toInt (fa 69 45 (by decide) rfl).1
                                                            obtain ⟨hnd, s1, y1, e69, f1_⟩ := j48_1 P Z R hP hJ hS hB hO hPO hPB hQ hcr
                                                            have hO3 : s_okz P (s_ob P (fun F => s_ac F R) (gi 69 59).toInt (s_skz P (gi 69 59).toInt (P 0 0).toNat 0 (s_en (gi 69 59).toInt Z))) := s_ob_ok (s_skz_ok hO1) hm0 hPO
                                                            have mo3 := (y1.mo hO3.1 hm0).2
                                                            have a0 := y1.1.1
                                                            have hbz : (s_ob P (fun F => s_ac F R) (gi 69 59).toInt (s_skz P (gi 69 59).toInt (P 0 0).toNat 0 (s_en (gi 69 59).toInt Z))) 1 ≠ 0 := mo3.mp (by omega)
                                                            refine ⟨fun hd => absurd hd hnd, fun _ => ?_⟩
                                                            rw [show (s_mn P (fun F => s_ac F R) (gi 69 59).toInt Z) = (s_ob P (fun F => s_ac F R) (gi 69 59).toInt (s_skz P (gi 69 59).toInt (P 0 0).toNat 0 (s_en (gi 69 59).toInt Z))) from if_pos hbz]
                                                            exact ⟨e69, s1, y1.next⟩)))⟩⟩
    · have r56 : (gi48 69 61).toInt ≤ (gi48 69 59).toInt := Int32.le_iff_toInt_le.mp (t_nlt h53)
      have u57 : (gi48 69 61).toInt ≤ 301 := t_leu (t_nlt h53) u49
      refine ev_loc f_X12_isBusy (nx := 12) rfl rfl rfl rfl ?_
      refine ev_getI f_X12_isBusy (nx := 15) rfl (hI.wf.s rfl) rfl rfl rfl ?_
      refine ev_loc f_X12_isBusy (nx := 16) rfl rfl rfl rfl ?_
      refine ev_gvI f_X12_isBusy (nx := 19) (w := (gi48 69 59)) rfl (hI.wf.s rfl) rfl rfl rfl rfl ?_
      refine ev_if f_X12_isBusy (t1 := 26) (t2 := 22) rfl rfl rfl (fun h58 => ?_) (fun h58 => ?_)
      · have r59 : (gi48 69 62).toInt ≤ (gi48 69 59).toInt := Int32.le_iff_toInt_le.mp h58
        have u60 : (gi48 69 62).toInt ≤ 301 := t_leu h58 u49
        refine ev_ic f_X12_isBusy (nx := 27) (v := 0) rfl (by decide) rfl ?_
        refine ev_retK1 f_X12_isBusy rfl rfl rfl ?_
        refine ev_t f_X12_minuteGoes (t1 := 168) (t2 := 167) rfl rfl rfl (by decide) ?_
        refine ev_loc f_X12_minuteGoes (nx := 169) rfl rfl rfl rfl ?_
        refine ev_getI f_X12_minuteGoes (nx := 172) rfl (hI.wf.s rfl) rfl rfl rfl ?_
        refine ev_ic f_X12_minuteGoes (nx := 173) (v := 1) rfl (by decide) rfl ?_
        refine ev_if f_X12_minuteGoes (t1 := 176) (t2 := 283) rfl rfl rfl (fun h61 => ?_) (fun h61 => ?_)
        · have u62 : (gi48 69 60).toInt ≤ 1 := t_equ h61 (by decide : (1:Int32).toInt ≤ (1:Int))
          have l63 : 1 ≤ (gi48 69 60).toInt := t_eql h61 (by decide : (1:Int) ≤ (1:Int32).toInt)
          refine ev_loc f_X12_minuteGoes (nx := 177) rfl rfl rfl rfl ?_
          refine ev_gvI f_X12_minuteGoes (nx := 180) (w := (gi48 69 64)) rfl (hI.wf.s rfl) rfl rfl rfl rfl ?_
          refine ev_loc f_X12_minuteGoes (nx := 181) rfl rfl rfl rfl ?_
          refine ev_getI f_X12_minuteGoes (nx := 184) rfl (hI.wf.s rfl) rfl rfl rfl ?_
          obtain ⟨l64, u64⟩ := hI.b (hI.wf.s (k := 69) rfl) (t_bdK rfl : t_bd 11 44 = some (0, 6))
          refine ev_if f_X12_minuteGoes (t1 := 283) (t2 := 187) rfl rfl rfl (fun h65 => ?_) (fun h65 => ?_)
          · have r66 : (gi48 69 44).toInt ≤ (gi48 69 64).toInt := Int32.le_iff_toInt_le.mp h65
            refine ev_sub (lo := [(0, .ref 69)]) rfl (t_sc rfl t_sn) ?_
            exact L5 gi48 gl48 gr48  hI hX  j48_0 (fun P Z R hP hJ hS hB hO hPO hPB hQ hcr => (by
                                                            have hm0 : 0 ≤ (gi 69 59).toInt := (hI0.b (hI0.wf.s (k := 69) rfl) (t_bdK rfl : t_bd 11 59 = some (0, 301))).1
                                                            have hm3 : (gi 69 59).toInt ≤ 301 := (hI0.b (hI0.wf.s (k := 69) rfl) (t_bdK rfl : t_bd 11 59 = some (0, 301))).2
                                                            have b44 := hI0.b (hI0.wf.s (k := 69) rfl) (t_bdK rfl : t_bd 11 44 = some (0, 6))
                                                            have b45 := hI0.b (hI0.wf.s (k := 69) rfl) (t_bdK rfl : t_bd 11 45 = some (0, 6))
                                                            have q0 : P 0 0 = ((t_S gi : Nat) : Int) := hP.1.1
                                                            have q1 : P 0 1 = ((t_C gi : Nat) : Int) := hP.1.2
                                                            have u0 : ((t_S gi : Nat) : Int) = (gi 69 44).toInt := by unfold t_S; omega
                                                            have u1 : ((t_C gi : Nat) : Int) = (gi 69 45).toInt := by unfold t_C; omega
                                                            have hO1 : s_okz P (s_en (gi 69 59).toInt Z) := s_en_ok hO hm3
                                                            have fa := t_F_X hX160_48
                                                            have Ta := hP.eq (fa 69 44 (by decide) rfl).1 (fa 69 45 (by decide) rfl).1 (t_F_nc fa rfl (by decide)) (t_F_nc fa rfl (by decide)) (t_F_nc fa rfl (by decide)) (t_F_nc fa rfl (by decide))
                                                            have Ia := hJ.eq (t_F_nc fa rfl (by decide))
                                                            have ma := congrArg Int32.toInt (fa 69 59 (by decide) rfl).1
                                                            have c44a := congrArg Int32.toInt (fa 69 44 (by decide) rfl).1
                                                            have c45a := congrArg Int32.toInt (fa 69 45 (by decide) rfl).1
                                                            obtain ⟨hnd, s1, y1, e69, f1_⟩ := j48_1 P Z R hP hJ hS hB hO hPO hPB hQ hcr
                                                            have hO3 : s_okz P (s_ob P (fun F => s_ac F R) (gi 69 59).toInt (s_skz P (gi 69 59).toInt (P 0 0).toNat 0 (s_en (gi 69 59).toInt Z))) := s_ob_ok (s_skz_ok hO1) hm0 hPO
                                                            have mo3 := (y1.mo hO3.1 hm0).2
                                                            have a0 := y1.1.1
                                                            have hz0 : (s_ob P (fun F => s_ac F R) (gi 69 59).toInt (s_skz P (gi 69 59).toInt (P 0 0).toNat 0 (s_en (gi 69 59).toInt Z))) 1 = 0 := by by_cases hz : (s_ob P (fun F => s_ac F R) (gi 69 59).toInt (s_skz P (gi 69 59).toInt (P 0 0).toNat 0 (s_en (gi 69 59).toInt Z))) 1 = 0; exact hz; exact absurd (mo3.mpr hz) (by omega)
                                                            exact ⟨hnd, s1, y1, e69, hz0, fun hh => by have h7 := hh.1; have h8 := hh.2.1; omega⟩))
          · have r67 : (gi48 69 64).toInt < (gi48 69 44).toInt := Int32.lt_iff_toInt_lt.mp (t_nle h65)
            have u68 : (gi48 69 64).toInt ≤ 5 := t_ltu (t_nle h65) u64 rfl
            have l69 : 1 ≤ (gi48 69 44).toInt := t_ltl (t_nle h65) l50 rfl
            refine ev_loc f_X12_minuteGoes (nx := 188) rfl rfl rfl rfl ?_
            refine ev_getR f_X12_minuteGoes (nx := 191) rfl (hI.wf.s rfl) rfl rfl (hI.wf.r rfl) rfl rfl ?_
            refine ev_loc f_X12_minuteGoes (nx := 192) rfl rfl rfl rfl ?_
            refine ev_getR f_X12_minuteGoes (nx := 195) rfl (hI.wf.s rfl) rfl rfl (hI.wf.r rfl) rfl rfl ?_
            refine ev_loc f_X12_minuteGoes (nx := 196) rfl rfl rfl rfl ?_
            refine ev_gvI f_X12_minuteGoes (nx := 199) (w := (gi48 69 64)) rfl (hI.wf.s rfl) rfl rfl rfl rfl ?_
            refine ev_ialdT f_X12_minuteGoes (nx := 200) rfl (hI.wf.s rfl) l50 (by decide) u68 (by decide) rfl (fun w70 e70 => ?_)
            obtain ⟨l70, u70⟩ := hI.abi e70 (by decide +kernel : t_abr 90 0 5 0 5 = true) l50 (by decide) u68 (by decide)
            refine ev_ialdT f_X12_minuteGoes (nx := 201) rfl (hI.wf.s rfl) l70 (by decide) u70 (by decide) rfl (fun w71 e71 => ?_)
            refine ev_loc f_X12_minuteGoes (nx := 202) rfl rfl rfl rfl ?_
            refine ev_gvI f_X12_minuteGoes (nx := 205) (w := (gi48 69 59)) rfl (hI.wf.s rfl) rfl rfl rfl rfl ?_
            refine ev_if f_X12_minuteGoes (t1 := 283) (t2 := 208) rfl rfl rfl (fun h72 => ?_) (fun h72 => ?_)
            · have r73 : (gi48 69 59).toInt < w71.toInt := Int32.lt_iff_toInt_lt.mp h72
              have l74 : 1 ≤ w71.toInt := t_ltl h72 l49 rfl
              refine ev_sub (lo := [(0, .ref 69)]) rfl (t_sc rfl t_sn) ?_
              exact L5 gi48 gl48 gr48  hI hX  j48_0 (fun P Z R hP hJ hS hB hO hPO hPB hQ hcr => (by
                                                            have hm0 : 0 ≤ (gi 69 59).toInt := (hI0.b (hI0.wf.s (k := 69) rfl) (t_bdK rfl : t_bd 11 59 = some (0, 301))).1
                                                            have hm3 : (gi 69 59).toInt ≤ 301 := (hI0.b (hI0.wf.s (k := 69) rfl) (t_bdK rfl : t_bd 11 59 = some (0, 301))).2
                                                            have b44 := hI0.b (hI0.wf.s (k := 69) rfl) (t_bdK rfl : t_bd 11 44 = some (0, 6))
                                                            have b45 := hI0.b (hI0.wf.s (k := 69) rfl) (t_bdK rfl : t_bd 11 45 = some (0, 6))
                                                            have q0 : P 0 0 = ((t_S gi : Nat) : Int) := hP.1.1
                                                            have q1 : P 0 1 = ((t_C gi : Nat) : Int) := hP.1.2
                                                            have u0 : ((t_S gi : Nat) : Int) = (gi 69 44).toInt := by unfold t_S; omega
                                                            have u1 : ((t_C gi : Nat) : Int) = (gi 69 45).toInt := by unfold t_C; omega
                                                            have hO1 : s_okz P (s_en (gi 69 59).toInt Z) := s_en_ok hO hm3
                                                            have fa := t_F_X hX160_48
                                                            have Ta := hP.eq (fa 69 44 (by decide) rfl).1 (fa 69 45 (by decide) rfl).1 (t_F_nc fa rfl (by decide)) (t_F_nc fa rfl (by decide)) (t_F_nc fa rfl (by decide)) (t_F_nc fa rfl (by decide))
                                                            have Ia := hJ.eq (t_F_nc fa rfl (by decide))
                                                            have ma := congrArg Int32.toInt (fa 69 59 (by decide) rfl).1
                                                            have c44a := congrArg Int32.toInt (fa 69 44 (by decide) rfl).1
                                                            have c45a := congrArg Int32.toInt (fa 69 45 (by decide) rfl).1
                                                            obtain ⟨hnd, s1, y1, e69, f1_⟩ := j48_1 P Z R hP hJ hS hB hO hPO hPB hQ hcr
                                                            have hO3 : s_okz P (s_ob P (fun F => s_ac F R) (gi 69 59).toInt (s_skz P (gi 69 59).toInt (P 0 0).toNat 0 (s_en (gi 69 59).toInt Z))) := s_ob_ok (s_skz_ok hO1) hm0 hPO
                                                            have mo3 := (y1.mo hO3.1 hm0).2
                                                            have a0 := y1.1.1
                                                            have hz0 : (s_ob P (fun F => s_ac F R) (gi 69 59).toInt (s_skz P (gi 69 59).toInt (P 0 0).toNat 0 (s_en (gi 69 59).toInt Z))) 1 = 0 := by by_cases hz : (s_ob P (fun F => s_ac F R) (gi 69 59).toInt (s_skz P (gi 69 59).toInt (P 0 0).toNat 0 (s_en (gi 69 59).toInt Z))) 1 = 0; exact hz; exact absurd (mo3.mpr hz) (by omega)
                                                            have s64 := s1.1
                                                            have cx := t_clamp (i := (gi48 69 64)) (by omega)
                                                            have hk : s_f1 (s_ob P (fun F => s_ac F R) (gi 69 59).toInt (s_skz P (gi 69 59).toInt (P 0 0).toNat 0 (s_en (gi 69 59).toInt Z))) (P 0 0).toNat 0 = (gi48 69 64).toNatClampNeg := by omega
                                                            have cw := t_clamp (i := w70) (by omega)
                                                            have hsi : t_si gi48 (gi48 69 64).toNatClampNeg = w70.toNatClampNeg := by unfold t_si; rw [← e70]; omega
                                                            obtain ⟨p1, p2, p3, p4⟩ := Ta.2.1 (gi48 69 64).toNatClampNeg (by have := Ta.1.1; omega)
                                                            have hsa : P 1 (gi48 69 64).toNatClampNeg = w71.toInt := by rw [p1]; unfold t_sa; rw [hsi, e71]
                                                            exact ⟨hnd, s1, y1, e69, hz0, fun hh => by have h9 := hh.2.2; rw [hk, hsa] at h9; omega⟩))
            · have r75 : w71.toInt ≤ (gi48 69 59).toInt := Int32.le_iff_toInt_le.mp (t_nlt h72)
              have u76 : w71.toInt ≤ 301 := t_leu (t_nlt h72) u49
              refine ev_loc f_X12_minuteGoes (nx := 209) rfl rfl rfl rfl ?_
              refine ev_getR f_X12_minuteGoes (nx := 212) rfl (hI.wf.s rfl) rfl rfl (hI.wf.r rfl) rfl rfl ?_
              refine ev_loc f_X12_minuteGoes (nx := 213) rfl rfl rfl rfl ?_
              refine ev_gvI f_X12_minuteGoes (nx := 216) (w := (gi48 69 64)) rfl (hI.wf.s rfl) rfl rfl rfl rfl ?_
              refine ev_ialdT f_X12_minuteGoes (nx := 217) rfl (hI.wf.s rfl) l50 (by decide) u68 (by decide) rfl (fun w77 e77 => ?_)
              rw [e77.trans e70.symm]
              refine ev_loc f_X12_minuteGoes (nx := 218) (lo' := [(1, .int w70), (0, .ref 69)]) rfl rfl rfl rfl ?_
              refine ev_loc f_X12_minuteGoes (nx := 219) rfl rfl rfl rfl ?_
              refine ev_alu f_X12_minuteGoes (nx := 220) rfl rfl rfl rfl ?_
              refine ev_getI f_X12_minuteGoes (nx := 223) rfl (hI.wf.s rfl) rfl rfl rfl ?_
              refine ev_loc f_X12_minuteGoes (nx := 224) rfl rfl rfl rfl ?_
              refine ev_gvI f_X12_minuteGoes (nx := 227) (w := (gi48 69 59)) rfl (hI.wf.s rfl) rfl rfl rfl rfl ?_
              refine ev_loc f_X12_minuteGoes (nx := 228) rfl rfl rfl rfl ?_
              refine ev_getR f_X12_minuteGoes (nx := 231) rfl (hI.wf.s rfl) rfl rfl (hI.wf.r rfl) rfl rfl ?_
              refine ev_loc f_X12_minuteGoes (nx := 232) rfl rfl rfl rfl ?_
              refine ev_ialdT f_X12_minuteGoes (nx := 233) rfl (hI.wf.s rfl) l70 (by decide) u70 (by decide) rfl (fun w78 e78 => ?_)
              rw [e78.trans e71.symm]
              refine ev_anyIE f_X12_minuteGoes (nx := 234) rfl rfl rfl rfl (fun z79 e79 => ?_)
              refine ev_loc f_X12_minuteGoes (nx := 235) rfl rfl rfl rfl ?_
              refine ev_loc f_X12_minuteGoes (nx := 236) rfl rfl rfl rfl ?_
              refine ev_ic f_X12_minuteGoes (nx := 237) (v := 3) rfl (by decide) rfl ?_
              refine ev_inV3 f_X12_minuteGoes (nx := 240) (lo2 := [(0, .ref 69), (1, .int w70), (2, .int 3)]) rfl rfl rfl rfl f_X12_ofShip (hI.wf.s rfl) rfl rfl rfl rfl rfl ?_
              refine ev_loc f_X12_ofShip (nx := 1) rfl rfl rfl rfl ?_
              refine ev_getR f_X12_ofShip (nx := 4) rfl (hI.wf.s rfl) rfl rfl (hI.wf.r rfl) rfl rfl ?_
              refine ev_bp f_X12_ofShip (nx := 6) (v := 52) rfl (by decide) rfl ?_
              refine ev_ic f_X12_ofShip (nx := 7) (v := 5) rfl (by decide) rfl ?_
              refine ev_loc f_X12_ofShip (nx := 8) rfl rfl rfl rfl ?_
              refine ev_mulL f_X12_ofShip (nx := 9) (c := 5) (l := 0) (u := 25) rfl (by decide) (by decide) l70 u70 rfl rfl (by decide) (by decide) rfl (fun z80 e80 l80 u80 => ?_)
              refine ev_addK f_X12_ofShip (nx := 10) (c := 52) (l := 52) (u := 77) rfl (by decide) l80 u80 rfl rfl (by decide) (by decide) rfl (fun z81 e81 l81 u81 => ?_)
              refine ev_loc f_X12_ofShip (nx := 11) rfl rfl rfl rfl ?_
              refine ev_addC f_X12_ofShip (nx := 12) (c := 3) (l := 55) (u := 80) rfl (by decide) l81 u81 rfl rfl (by decide) (by decide) rfl (fun z82 e82 l82 u82 => ?_)
              refine ev_ialdT f_X12_ofShip (nx := 13) rfl (hI.wf.s rfl) l82 (by decide) u82 (by decide) rfl (fun w83 e83 => ?_)
              obtain ⟨l83, u83⟩ := hI.abA (x := w70) e83 (by decide +kernel : t_aba 70 55 5 0 5 0 99 = true) (by omega) (by omega) (by omega)
              refine ev_retK1 f_X12_ofShip rfl rfl rfl ?_
              refine ev_anyIE f_X12_minuteGoes (nx := 241) rfl rfl rfl rfl (fun z84 e84 => ?_)
              refine ev_anyIE f_X12_minuteGoes (nx := 242) rfl rfl rfl rfl (fun z85 e85 => ?_)
              refine ev_putIT f_X12_minuteGoes (nx := 245) rfl (hI.wf.s rfl) rfl rfl rfl (hI.put0 (hI.wf.s rfl) rfl rfl) (hX.upI rfl) (fun g86 e86 hI hX => ?_)
              refine ev_loc f_X12_minuteGoes (nx := 246) rfl rfl rfl rfl ?_
              refine ev_loc f_X12_minuteGoes (nx := 247) rfl rfl rfl rfl ?_
              refine ev_gvI f_X12_minuteGoes (nx := 250) (w := (gi48 69 59)) rfl (hI.wf.s rfl) rfl rfl ((by rw [e86]; exact x_up2_off (Or.inr (by decide)) : g86 69 59 = gi48 69 59).trans rfl) rfl ?_
              refine ev_loc f_X12_minuteGoes (nx := 251) rfl rfl rfl rfl ?_
              refine ev_loc f_X12_minuteGoes (nx := 252) rfl rfl rfl rfl ?_
              refine ev_ic f_X12_minuteGoes (nx := 253) (v := 2) rfl (by decide) rfl ?_
              refine ev_inV3 f_X12_minuteGoes (nx := 256) (lo2 := [(0, .ref 69), (1, .int w70), (2, .int 2)]) rfl rfl rfl rfl f_X12_ofShip (hI.wf.s rfl) rfl rfl rfl rfl rfl ?_
              refine ev_loc f_X12_ofShip (nx := 1) rfl rfl rfl rfl ?_
              refine ev_getR f_X12_ofShip (nx := 4) rfl (hI.wf.s rfl) rfl rfl (hI.wf.r rfl) rfl rfl ?_
              refine ev_bp f_X12_ofShip (nx := 6) (v := 52) rfl (by decide) rfl ?_
              refine ev_ic f_X12_ofShip (nx := 7) (v := 5) rfl (by decide) rfl ?_
              refine ev_loc f_X12_ofShip (nx := 8) rfl rfl rfl rfl ?_
              refine ev_mulL f_X12_ofShip (nx := 9) (c := 5) (l := 0) (u := 25) rfl (by decide) (by decide) l70 u70 rfl rfl (by decide) (by decide) rfl (fun z87 e87 l87 u87 => ?_)
              refine ev_addK f_X12_ofShip (nx := 10) (c := 52) (l := 52) (u := 77) rfl (by decide) l87 u87 rfl rfl (by decide) (by decide) rfl (fun z88 e88 l88 u88 => ?_)
              refine ev_loc f_X12_ofShip (nx := 11) rfl rfl rfl rfl ?_
              refine ev_addC f_X12_ofShip (nx := 12) (c := 2) (l := 54) (u := 79) rfl (by decide) l88 u88 rfl rfl (by decide) (by decide) rfl (fun z89 e89 l89 u89 => ?_)
              refine ev_ialdT f_X12_ofShip (nx := 13) rfl (hI.wf.s rfl) l89 (by decide) u89 (by decide) rfl (fun w90 e90 => ?_)
              obtain ⟨l90, u90⟩ := hI.abA (x := w70) e90 (by decide +kernel : t_aba 70 54 5 0 5 0 20 = true) (by omega) (by omega) (by omega)
              refine ev_retK1 f_X12_ofShip rfl rfl rfl ?_
              refine ev_addR f_X12_minuteGoes (nx := 257) (l := 0) (u := 321) rfl l49 u49 l90 u90 rfl rfl (by decide) (by decide) rfl (fun z91 e91 l91 u91 => ?_)
              refine ev_putIT f_X12_minuteGoes (nx := 260) rfl (hI.wf.s rfl) rfl rfl rfl (hI.put0 (hI.wf.s rfl) rfl rfl) (hX.upI rfl) (fun g92 e92 hI hX => ?_)
              refine ev_loc f_X12_minuteGoes (nx := 261) rfl rfl rfl rfl ?_
              refine ev_alu f_X12_minuteGoes (nx := 262) rfl rfl rfl rfl ?_
              refine ev_getI f_X12_minuteGoes (nx := 265) rfl (hI.wf.s rfl) rfl rfl rfl ?_
              refine ev_ic f_X12_minuteGoes (nx := 266) (v := 1) rfl (by decide) rfl ?_
              refine ev_anyIE f_X12_minuteGoes (nx := 267) rfl rfl rfl rfl (fun z93 e93 => ?_)
              refine ev_putIT f_X12_minuteGoes (nx := 270) rfl (hI.wf.s rfl) rfl rfl rfl (hI.put0 (hI.wf.s rfl) rfl rfl) (hX.upI rfl) (fun g94 e94 hI hX => ?_)
              refine ev_loc f_X12_minuteGoes (nx := 271) rfl rfl rfl rfl ?_
              refine ev_alu f_X12_minuteGoes (nx := 272) rfl rfl rfl rfl ?_
              refine ev_gvI f_X12_minuteGoes (nx := 275) (w := (gi48 69 64)) rfl (hI.wf.s rfl) rfl rfl ((by rw [e94]; exact x_up2_off (Or.inr (by decide)) : g94 69 64 = g92 69 64).trans ((by rw [e92]; exact x_up2_off (Or.inr (by decide)) : g92 69 64 = g86 69 64).trans ((by rw [e86]; exact x_up2_off (Or.inr (by decide)) : g86 69 64 = gi48 69 64).trans rfl))) rfl ?_
              refine ev_ic f_X12_minuteGoes (nx := 276) (v := 1) rfl (by decide) rfl ?_
              refine ev_addC f_X12_minuteGoes (nx := 277) (c := 1) (l := 1) (u := 6) rfl (by decide) l50 u68 rfl rfl (by decide) (by decide) rfl (fun z95 e95 l95 u95 => ?_)
              refine ev_putIT f_X12_minuteGoes (nx := 280) rfl (hI.wf.s rfl) rfl rfl rfl (hI.putB (hI.wf.s rfl) rfl rfl l95 (by decide) u95 (by decide)) (hX.upI rfl) (fun g96 e96 hI hX => ?_)
              refine ev_jmp f_X12_minuteGoes (nx := 390) rfl rfl rfl ?_
              exact ev_ret f_X12_minuteGoes rfl rfl rfl ⟨_, _, _, rfl, hI, hX, ⟨rfl, (show (∀ (P : Nat → Nat → Int) (Z : Nat → Int) (R : List (List Int × Int)), s_TP gi (gi 70 4).toInt P → t_IJ (P 0 0).toNat gi → t_YS (P 0 0).toNat Z gi → t_MB (gi 69 59).toInt Z gi → s_okz P Z → s_PO P → s_PB P → t_MQ (gi 70) R → s_crs R → (s_done P (s_en (gi 69 59).toInt Z) → (g96 69 69).toInt = (gi 69 59).toInt ∧ t_YS (P 0 0).toNat (s_en (gi 69 59).toInt Z) g96 ∧ t_MZ (gi 69 59).toInt (s_en (gi 69 59).toInt Z) g96) ∧ (¬ s_done P (s_en (gi 69 59).toInt Z) → g96 69 69 = gi 69 69 ∧ t_YS (P 0 0).toNat (s_mn P (fun F => s_ac F R) (gi 69 59).toInt Z) g96 ∧ t_MB ((gi 69 59).toInt + 1) (s_mn P (fun F => s_ac F R) (gi 69 59).toInt Z) g96)) from (fun P Z R hP hJ hS hB hO hPO hPB hQ hcr => (by
                                                            have hm0 : 0 ≤ (gi 69 59).toInt := (hI0.b (hI0.wf.s (k := 69) rfl) (t_bdK rfl : t_bd 11 59 = some (0, 301))).1
                                                            have hm3 : (gi 69 59).toInt ≤ 301 := (hI0.b (hI0.wf.s (k := 69) rfl) (t_bdK rfl : t_bd 11 59 = some (0, 301))).2
                                                            have b44 := hI0.b (hI0.wf.s (k := 69) rfl) (t_bdK rfl : t_bd 11 44 = some (0, 6))
                                                            have b45 := hI0.b (hI0.wf.s (k := 69) rfl) (t_bdK rfl : t_bd 11 45 = some (0, 6))
                                                            have q0 : P 0 0 = ((t_S gi : Nat) : Int) := hP.1.1
                                                            have q1 : P 0 1 = ((t_C gi : Nat) : Int) := hP.1.2
                                                            have u0 : ((t_S gi : Nat) : Int) = (gi 69 44).toInt := by unfold t_S; omega
                                                            have u1 : ((t_C gi : Nat) : Int) = (gi 69 45).toInt := by unfold t_C; omega
                                                            have hO1 : s_okz P (s_en (gi 69 59).toInt Z) := s_en_ok hO hm3
                                                            have fa := t_F_X hX160_48
                                                            have Ta := hP.eq (fa 69 44 (by decide) rfl).1 (fa 69 45 (by decide) rfl).1 (t_F_nc fa rfl (by decide)) (t_F_nc fa rfl (by decide)) (t_F_nc fa rfl (by decide)) (t_F_nc fa rfl (by decide))
                                                            have Ia := hJ.eq (t_F_nc fa rfl (by decide))
                                                            have ma := congrArg Int32.toInt (fa 69 59 (by decide) rfl).1
                                                            have c44a := congrArg Int32.toInt (fa 69 44 (by decide) rfl).1
                                                            have c45a := congrArg Int32.toInt (fa 69 45 (by decide) rfl).1
                                                            obtain ⟨hnd, s1, y1, e69, f1_⟩ := j48_1 P Z R hP hJ hS hB hO hPO hPB hQ hcr
                                                            have hO3 : s_okz P (s_ob P (fun F => s_ac F R) (gi 69 59).toInt (s_skz P (gi 69 59).toInt (P 0 0).toNat 0 (s_en (gi 69 59).toInt Z))) := s_ob_ok (s_skz_ok hO1) hm0 hPO
                                                            have mo3 := (y1.mo hO3.1 hm0).2
                                                            have a0 := y1.1.1
                                                            have hz0 : (s_ob P (fun F => s_ac F R) (gi 69 59).toInt (s_skz P (gi 69 59).toInt (P 0 0).toNat 0 (s_en (gi 69 59).toInt Z))) 1 = 0 := by by_cases hz : (s_ob P (fun F => s_ac F R) (gi 69 59).toInt (s_skz P (gi 69 59).toInt (P 0 0).toNat 0 (s_en (gi 69 59).toInt Z))) 1 = 0; exact hz; exact absurd (mo3.mpr hz) (by omega)
                                                            have n1 : ¬ (s_ob P (fun F => s_ac F R) (gi 69 59).toInt (s_skz P (gi 69 59).toInt (P 0 0).toNat 0 (s_en (gi 69 59).toInt Z))) 1 ≠ 0 := fun hh => hh hz0
                                                            have s64 := s1.1
                                                            have cx := t_clamp (i := (gi48 69 64)) (by omega)
                                                            have hk : s_f1 (s_ob P (fun F => s_ac F R) (gi 69 59).toInt (s_skz P (gi 69 59).toInt (P 0 0).toNat 0 (s_en (gi 69 59).toInt Z))) (P 0 0).toNat 0 = (gi48 69 64).toNatClampNeg := by omega
                                                            have cw := t_clamp (i := w70) (by omega)
                                                            have hsi : t_si gi48 (gi48 69 64).toNatClampNeg = w70.toNatClampNeg := by unfold t_si; rw [← e70]; omega
                                                            obtain ⟨p1, p2, p3, p4⟩ := Ta.2.1 (gi48 69 64).toNatClampNeg (by have := Ta.1.1; omega)
                                                            have hsa : P 1 (gi48 69 64).toNatClampNeg = w71.toInt := by rw [p1]; unfold t_sa; rw [hsi, e71]
                                                            have cw2 := t_clamp (i := w70) (by omega)
                                                            have hs2 : t_si gi48 (gi48 69 64).toNatClampNeg = w70.toNatClampNeg := by unfold t_si; rw [← e70]; omega
                                                            have ka : w71.toInt = P 1 (gi48 69 64).toNatClampNeg := by rw [p1]; unfold t_sa; rw [hs2]; rw [e71, show w70.toNatClampNeg = w70.toNatClampNeg from (by have := t_clamp (i := w70) (by omega); omega)]
                                                            have kq : w83.toInt = P 3 (gi48 69 64).toNatClampNeg := by rw [p3]; unfold t_so; rw [hs2]; rw [e83, show z82.toNatClampNeg = 55 + 5 * w70.toNatClampNeg from (by have := t_clamp (i := z82) (by omega); omega)]
                                                            have kt : w90.toInt = P 2 (gi48 69 64).toNatClampNeg := by rw [p2]; unfold t_st; rw [hs2]; have hh : w90.toInt = (gi48 70 (54 + 5 * w70.toNatClampNeg)).toInt := (by rw [e90, show g86 70 = gi48 70 from funext fun j => by rw [e86, x_up2_off (Or.inl (by decide))], show z89.toNatClampNeg = 54 + 5 * w70.toNatClampNeg from (by have := t_clamp (i := z89) (by omega); omega)]); omega
                                                            have pb := hPB.2.1 (gi48 69 64).toNatClampNeg (by omega)
                                                            have pp := hPO.1 (gi48 69 64).toNatClampNeg (by omega)
                                                            have e66v := t_oi_w e85 e84 e79 (y1.2.1.1) ma ka kq
                                                            have e62v : z91.toInt = (gi 69 59).toInt + P 2 (gi48 69 64).toNatClampNeg := by have mr_ := ma; rw [← kt]; omega
                                                            have ssh : ((s_ob P (fun F => s_ac F R) (gi 69 59).toInt (s_skz P (gi 69 59).toInt (P 0 0).toNat 0 (s_en (gi 69 59).toInt Z))) 0 = 1 ∧ ((s_f1 (s_ob P (fun F => s_ac F R) (gi 69 59).toInt (s_skz P (gi 69 59).toInt (P 0 0).toNat 0 (s_en (gi 69 59).toInt Z))) (P 0 0).toNat 0 : Nat) : Int) < P 0 0 ∧ P 1 (s_f1 (s_ob P (fun F => s_ac F R) (gi 69 59).toInt (s_skz P (gi 69 59).toInt (P 0 0).toNat 0 (s_en (gi 69 59).toInt Z))) (P 0 0).toNat 0) ≤ (gi 69 59).toInt) := ⟨by omega, by omega, by rw [hk, hsa]; omega⟩
                                                            refine ⟨fun hd => absurd hd hnd, fun _ => ?_⟩
                                                            rw [show (s_mn P (fun F => s_ac F R) (gi 69 59).toInt Z) = s_bS1 P (gi 69 59).toInt (s_ob P (fun F => s_ac F R) (gi 69 59).toInt (s_skz P (gi 69 59).toInt (P 0 0).toNat 0 (s_en (gi 69 59).toInt Z))) (gi48 69 64).toNatClampNeg from (if_neg n1).trans ((if_pos ssh).trans (by rw [hk]))]
                                                            have hzk : (s_ob P (fun F => s_ac F R) (gi 69 59).toInt (s_skz P (gi 69 59).toInt (P 0 0).toNat 0 (s_en (gi 69 59).toInt Z))) (10 + (gi48 69 64).toNatClampNeg) = 0 := by have h9 := (s_f1_b (Z := (s_ob P (fun F => s_ac F R) (gi 69 59).toInt (s_skz P (gi 69 59).toInt (P 0 0).toNat 0 (s_en (gi 69 59).toInt Z)))) (P 0 0).toNat 0).2.2.1 (by omega); rw [hk] at h9; exact h9
                                                            exact ⟨by rw [e96, x_up2_off (Or.inr (by decide)), e94, x_up2_off (Or.inr (by decide)), e92, x_up2_off (Or.inr (by decide)), e86, x_up2_off (Or.inr (by decide))]; exact e69, s1.bg (k := (gi48 69 64).toNatClampNeg) (by omega) (by omega) (by unfold s_bS1; rw [s_z_ne (by omega), s_z_ne (by omega), s_z_ne (by omega), s_z_at]) (fun j hj => by unfold s_bS1; rw [s_z_ne (by omega), s_z_ne (by omega), s_z_ne (by omega), s_z_ne (by omega)]) hzk (by rw [e96, x_up2_at]; omega) (funext fun j => by rw [e96, x_up2_off (Or.inl (by decide)), e94, x_up2_off (Or.inl (by decide)), e92, x_up2_off (Or.inl (by decide)), e86, x_up2_off (Or.inl (by decide))]) (funext fun j => by rw [e96, x_up2_off (Or.inl (by decide)), e94, x_up2_off (Or.inl (by decide)), e92, x_up2_off (Or.inl (by decide)), e86, x_up2_off (Or.inl (by decide))]), y1.bs hz0 (by rw [e96, x_up2_off (Or.inr (by decide)), e94, x_up2_off (Or.inr (by decide)), e92, x_up2_at]; exact e62v) (by rw [e96, x_up2_off (Or.inr (by decide)), e94, x_up2_off (Or.inr (by decide)), e92, x_up2_off (Or.inr (by decide)), e86, x_up2_at]; exact e66v) (fun j a b c d e => by rcases (show j = 60 ∨ j = 61 ∨ j = 63 ∨ j = 65 ∨ j = 67 by omega) with rfl | rfl | rfl | rfl | rfl <;> rw [e96, x_up2_off (Or.inr (by decide)), e94, x_up2_off (Or.inr (by decide)), e92, x_up2_off (Or.inr (by decide)), e86, x_up2_off (Or.inr (by decide))])⟩)))⟩⟩
        · have r97 : (gi48 69 60).toInt ≠ 1 := fun e => h61 (Int32.toInt_inj.mp (e.trans (by decide : (1:Int) = (1 : Int32).toInt)))
          refine ev_sub (lo := [(0, .ref 69)]) rfl (t_sc rfl t_sn) ?_
          exact L5 gi48 gl48 gr48  hI hX  j48_0 (fun P Z R hP hJ hS hB hO hPO hPB hQ hcr => (by
                                                            have hm0 : 0 ≤ (gi 69 59).toInt := (hI0.b (hI0.wf.s (k := 69) rfl) (t_bdK rfl : t_bd 11 59 = some (0, 301))).1
                                                            have hm3 : (gi 69 59).toInt ≤ 301 := (hI0.b (hI0.wf.s (k := 69) rfl) (t_bdK rfl : t_bd 11 59 = some (0, 301))).2
                                                            have b44 := hI0.b (hI0.wf.s (k := 69) rfl) (t_bdK rfl : t_bd 11 44 = some (0, 6))
                                                            have b45 := hI0.b (hI0.wf.s (k := 69) rfl) (t_bdK rfl : t_bd 11 45 = some (0, 6))
                                                            have q0 : P 0 0 = ((t_S gi : Nat) : Int) := hP.1.1
                                                            have q1 : P 0 1 = ((t_C gi : Nat) : Int) := hP.1.2
                                                            have u0 : ((t_S gi : Nat) : Int) = (gi 69 44).toInt := by unfold t_S; omega
                                                            have u1 : ((t_C gi : Nat) : Int) = (gi 69 45).toInt := by unfold t_C; omega
                                                            have hO1 : s_okz P (s_en (gi 69 59).toInt Z) := s_en_ok hO hm3
                                                            have fa := t_F_X hX160_48
                                                            have Ta := hP.eq (fa 69 44 (by decide) rfl).1 (fa 69 45 (by decide) rfl).1 (t_F_nc fa rfl (by decide)) (t_F_nc fa rfl (by decide)) (t_F_nc fa rfl (by decide)) (t_F_nc fa rfl (by decide))
                                                            have Ia := hJ.eq (t_F_nc fa rfl (by decide))
                                                            have ma := congrArg Int32.toInt (fa 69 59 (by decide) rfl).1
                                                            have c44a := congrArg Int32.toInt (fa 69 44 (by decide) rfl).1
                                                            have c45a := congrArg Int32.toInt (fa 69 45 (by decide) rfl).1
                                                            obtain ⟨hnd, s1, y1, e69, f1_⟩ := j48_1 P Z R hP hJ hS hB hO hPO hPB hQ hcr
                                                            have hO3 : s_okz P (s_ob P (fun F => s_ac F R) (gi 69 59).toInt (s_skz P (gi 69 59).toInt (P 0 0).toNat 0 (s_en (gi 69 59).toInt Z))) := s_ob_ok (s_skz_ok hO1) hm0 hPO
                                                            have mo3 := (y1.mo hO3.1 hm0).2
                                                            have a0 := y1.1.1
                                                            have hz0 : (s_ob P (fun F => s_ac F R) (gi 69 59).toInt (s_skz P (gi 69 59).toInt (P 0 0).toNat 0 (s_en (gi 69 59).toInt Z))) 1 = 0 := by by_cases hz : (s_ob P (fun F => s_ac F R) (gi 69 59).toInt (s_skz P (gi 69 59).toInt (P 0 0).toNat 0 (s_en (gi 69 59).toInt Z))) 1 = 0; exact hz; exact absurd (mo3.mpr hz) (by omega)
                                                            exact ⟨hnd, s1, y1, e69, hz0, fun hh => by have h7 := hh.1; have h8 := hh.2.1; omega⟩))
      · have r98 : (gi48 69 59).toInt < (gi48 69 62).toInt := Int32.lt_iff_toInt_lt.mp (t_nle h58)
        have l99 : 1 ≤ (gi48 69 62).toInt := t_ltl (t_nle h58) l49 rfl
        refine ev_ic f_X12_isBusy (nx := 23) (v := 1) rfl (by decide) rfl ?_
        refine ev_jmp f_X12_isBusy (nx := 27) rfl rfl rfl ?_
        refine ev_retK1 f_X12_isBusy rfl rfl rfl ?_
        refine ev_f f_X12_minuteGoes (t1 := 168) (t2 := 167) rfl rfl rfl (by decide) ?_
        exact ev_ret f_X12_minuteGoes rfl rfl rfl ⟨_, _, _, rfl, hI, hX, ⟨rfl, (show (∀ (P : Nat → Nat → Int) (Z : Nat → Int) (R : List (List Int × Int)), s_TP gi (gi 70 4).toInt P → t_IJ (P 0 0).toNat gi → t_YS (P 0 0).toNat Z gi → t_MB (gi 69 59).toInt Z gi → s_okz P Z → s_PO P → s_PB P → t_MQ (gi 70) R → s_crs R → (s_done P (s_en (gi 69 59).toInt Z) → (gi48 69 69).toInt = (gi 69 59).toInt ∧ t_YS (P 0 0).toNat (s_en (gi 69 59).toInt Z) gi48 ∧ t_MZ (gi 69 59).toInt (s_en (gi 69 59).toInt Z) gi48) ∧ (¬ s_done P (s_en (gi 69 59).toInt Z) → gi48 69 69 = gi 69 69 ∧ t_YS (P 0 0).toNat (s_mn P (fun F => s_ac F R) (gi 69 59).toInt Z) gi48 ∧ t_MB ((gi 69 59).toInt + 1) (s_mn P (fun F => s_ac F R) (gi 69 59).toInt Z) gi48)) from (fun P Z R hP hJ hS hB hO hPO hPB hQ hcr => (by
                                                            have hm0 : 0 ≤ (gi 69 59).toInt := (hI0.b (hI0.wf.s (k := 69) rfl) (t_bdK rfl : t_bd 11 59 = some (0, 301))).1
                                                            have hm3 : (gi 69 59).toInt ≤ 301 := (hI0.b (hI0.wf.s (k := 69) rfl) (t_bdK rfl : t_bd 11 59 = some (0, 301))).2
                                                            have b44 := hI0.b (hI0.wf.s (k := 69) rfl) (t_bdK rfl : t_bd 11 44 = some (0, 6))
                                                            have b45 := hI0.b (hI0.wf.s (k := 69) rfl) (t_bdK rfl : t_bd 11 45 = some (0, 6))
                                                            have q0 : P 0 0 = ((t_S gi : Nat) : Int) := hP.1.1
                                                            have q1 : P 0 1 = ((t_C gi : Nat) : Int) := hP.1.2
                                                            have u0 : ((t_S gi : Nat) : Int) = (gi 69 44).toInt := by unfold t_S; omega
                                                            have u1 : ((t_C gi : Nat) : Int) = (gi 69 45).toInt := by unfold t_C; omega
                                                            have hO1 : s_okz P (s_en (gi 69 59).toInt Z) := s_en_ok hO hm3
                                                            have fa := t_F_X hX160_48
                                                            have Ta := hP.eq (fa 69 44 (by decide) rfl).1 (fa 69 45 (by decide) rfl).1 (t_F_nc fa rfl (by decide)) (t_F_nc fa rfl (by decide)) (t_F_nc fa rfl (by decide)) (t_F_nc fa rfl (by decide))
                                                            have Ia := hJ.eq (t_F_nc fa rfl (by decide))
                                                            have ma := congrArg Int32.toInt (fa 69 59 (by decide) rfl).1
                                                            have c44a := congrArg Int32.toInt (fa 69 44 (by decide) rfl).1
                                                            have c45a := congrArg Int32.toInt (fa 69 45 (by decide) rfl).1
                                                            obtain ⟨hnd, s1, y1, e69, f1_⟩ := j48_1 P Z R hP hJ hS hB hO hPO hPB hQ hcr
                                                            have hO3 : s_okz P (s_ob P (fun F => s_ac F R) (gi 69 59).toInt (s_skz P (gi 69 59).toInt (P 0 0).toNat 0 (s_en (gi 69 59).toInt Z))) := s_ob_ok (s_skz_ok hO1) hm0 hPO
                                                            have mo3 := (y1.mo hO3.1 hm0).2
                                                            have a0 := y1.1.1
                                                            have hbz : (s_ob P (fun F => s_ac F R) (gi 69 59).toInt (s_skz P (gi 69 59).toInt (P 0 0).toNat 0 (s_en (gi 69 59).toInt Z))) 1 ≠ 0 := mo3.mp (by omega)
                                                            refine ⟨fun hd => absurd hd hnd, fun _ => ?_⟩
                                                            rw [show (s_mn P (fun F => s_ac F R) (gi 69 59).toInt Z) = (s_ob P (fun F => s_ac F R) (gi 69 59).toInt (s_skz P (gi 69 59).toInt (P 0 0).toNat 0 (s_en (gi 69 59).toInt Z))) from if_pos hbz]
                                                            exact ⟨e69, s1, y1.next⟩)))⟩⟩
  have L100 : ∀ (gi100 : Nat → Nat → Int32) (gl100 : Nat → Nat → Int64) (gr100 : Nat → Nat → Value), t_I sh gi100 gr100 → t_X wl_y_minuteGoes sh gi gl gr gi100 gl100 gr100 → t_rpn (gi100 70) 0 → (∀ (P : Nat → Nat → Int) (Z : Nat → Int) (R : List (List Int × Int)), s_TP gi (gi 70 4).toInt P → t_IJ (P 0 0).toNat gi → t_YS (P 0 0).toNat Z gi → t_MB (gi 69 59).toInt Z gi → s_okz P Z → s_PO P → s_PB P → t_MQ (gi 70) R → s_crs R → ¬ s_done P (s_en (gi 69 59).toInt Z) ∧ t_YS (P 0 0).toNat (s_en (gi 69 59).toInt Z) gi100 ∧ t_MZ (gi 69 59).toInt (s_en (gi 69 59).toInt Z) gi100 ∧ gi100 69 69 = gi 69 69) → x_Ev X (d + 5) n_X12_minuteGoes 80 [(0, .ref 69)] [] (sh, gi100, gl100, gr100) (t_PN wl_y_minuteGoes sh gi gl gr (Q_y_minuteGoes gi gl gr)) := by
    intro gi100 gl100 gr100 hI hX j100_0 j100_1
    obtain ⟨l101, u101⟩ := hI.b (hI.wf.s (k := 69) rfl) (t_bdK rfl : t_bd 11 59 = some (0, 301))
    obtain ⟨l102, u102⟩ := hI.b (hI.wf.s (k := 69) rfl) (t_bdK rfl : t_bd 11 64 = some (0, 6))
    obtain ⟨l104, u104⟩ := hI.ab (by decide +kernel : t_abr 70 4 4 0 20 = true) (Nat.le_refl _) (Nat.le_refl _)
    have hX80_100 := hX
    refine ev_loc f_X12_minuteGoes (nx := 81) rfl rfl rfl rfl ?_
    refine ev_qN f_X12_minuteGoes (nx := 84) (r := []) rfl rfl rfl rfl rfl rfl rfl (c_y_strikes hI ) rfl hX rfl (fun gi105 gl105 gr105 hI hX hC105 q105 => ?_)
    have q105 : (∀ (P : Nat → Nat → Int) (Z : Nat → Int) (q : Int), s_TP gi100 q P → t_IJ (P 0 0).toNat gi100 → t_YS (P 0 0).toNat Z gi100 → t_MO (gi100 69 59).toInt Z gi100 → gi100 69 67 = Int32.ofInt (Z 6) → t_YS (P 0 0).toNat (s_skz P (gi100 69 59).toInt (P 0 0).toNat 0 Z) gi105 ∧ gi105 69 67 = Int32.ofInt ((s_skz P (gi100 69 59).toInt (P 0 0).toNat 0 Z) 6) ∧ (gi105 69 64).toInt = ((s_f1 (s_skz P (gi100 69 59).toInt (P 0 0).toNat 0 Z) (P 0 0).toNat 0 : Nat) : Int)) := q105
    obtain ⟨l106, u106⟩ := hI.b (hI.wf.s (k := 69) rfl) (t_bdK rfl : t_bd 11 64 = some (0, 6))
    refine ev_loc f_X12_minuteGoes (nx := 85) rfl rfl rfl rfl ?_
    refine ev_inV1 f_X12_minuteGoes (nx := 88) (lo2 := [(0, .ref 69)]) rfl rfl rfl rfl f_X12_isBusy (hI.wf.s rfl) rfl rfl rfl rfl rfl ?_
    refine ev_loc f_X12_isBusy (nx := 1) rfl rfl rfl rfl ?_
    refine ev_getI f_X12_isBusy (nx := 4) rfl (hI.wf.s rfl) rfl rfl rfl ?_
    refine ev_loc f_X12_isBusy (nx := 5) rfl rfl rfl rfl ?_
    refine ev_gvI f_X12_isBusy (nx := 8) (w := (gi100 69 59)) rfl (hI.wf.s rfl) rfl rfl ((hC105.1 69 59 rfl).1.trans rfl) rfl ?_
    refine ev_if f_X12_isBusy (t1 := 22) (t2 := 11) rfl rfl rfl (fun h107 => ?_) (fun h107 => ?_)
    · have r108 : (gi100 69 59).toInt < (gi105 69 61).toInt := Int32.lt_iff_toInt_lt.mp h107
      have l109 : 1 ≤ (gi105 69 61).toInt := t_ltl h107 l101 rfl
      refine ev_ic f_X12_isBusy (nx := 23) (v := 1) rfl (by decide) rfl ?_
      refine ev_jmp f_X12_isBusy (nx := 27) rfl rfl rfl ?_
      refine ev_retK1 f_X12_isBusy rfl rfl rfl ?_
      refine ev_f f_X12_minuteGoes (t1 := 91) (t2 := 160) rfl rfl rfl (by decide) ?_
      refine ev_sub (lo := [(0, .ref 69)]) rfl (t_sc rfl t_sn) ?_
      exact L48 gi105 gl105 gr105  hI hX  (by have hq := ((funext (fun j => (hC105.1 70 j rfl).1) : gi105 70 = gi100 70)); rw [hq]; exact j100_0) (fun P Z R hP hJ hS hB hO hPO hPB hQ hcr => (by
                                                            have hm0 : 0 ≤ (gi 69 59).toInt := (hI0.b (hI0.wf.s (k := 69) rfl) (t_bdK rfl : t_bd 11 59 = some (0, 301))).1
                                                            have hm3 : (gi 69 59).toInt ≤ 301 := (hI0.b (hI0.wf.s (k := 69) rfl) (t_bdK rfl : t_bd 11 59 = some (0, 301))).2
                                                            have b44 := hI0.b (hI0.wf.s (k := 69) rfl) (t_bdK rfl : t_bd 11 44 = some (0, 6))
                                                            have b45 := hI0.b (hI0.wf.s (k := 69) rfl) (t_bdK rfl : t_bd 11 45 = some (0, 6))
                                                            have q0 : P 0 0 = ((t_S gi : Nat) : Int) := hP.1.1
                                                            have q1 : P 0 1 = ((t_C gi : Nat) : Int) := hP.1.2
                                                            have u0 : ((t_S gi : Nat) : Int) = (gi 69 44).toInt := by unfold t_S; omega
                                                            have u1 : ((t_C gi : Nat) : Int) = (gi 69 45).toInt := by unfold t_C; omega
                                                            have hO1 : s_okz P (s_en (gi 69 59).toInt Z) := s_en_ok hO hm3
                                                            have fa := t_F_X hX80_100
                                                            have Ta := hP.eq (fa 69 44 (by decide) rfl).1 (fa 69 45 (by decide) rfl).1 (t_F_nc fa rfl (by decide)) (t_F_nc fa rfl (by decide)) (t_F_nc fa rfl (by decide)) (t_F_nc fa rfl (by decide))
                                                            have Ia := hJ.eq (t_F_nc fa rfl (by decide))
                                                            have ma := congrArg Int32.toInt (fa 69 59 (by decide) rfl).1
                                                            have c44a := congrArg Int32.toInt (fa 69 44 (by decide) rfl).1
                                                            have c45a := congrArg Int32.toInt (fa 69 45 (by decide) rfl).1
                                                            obtain ⟨hnd, s1, y1, e69⟩ := j100_1 P Z R hP hJ hS hB hO hPO hPB hQ hcr
                                                            have mo1 := y1.mo hO1.1 hm0
                                                            have hq := q105 P (s_en (gi 69 59).toInt Z) _ Ta Ia s1 (by rw [ma]; exact mo1) y1.2.1.2
                                                            rw [ma] at hq
                                                            obtain ⟨s2, g67, f2⟩ := hq
                                                            have fc := t_F_X hC105
                                                            have y2 : t_MZ (gi 69 59).toInt (s_skz P (gi 69 59).toInt (P 0 0).toNat 0 (s_en (gi 69 59).toInt Z)) gi105 := y1.sk (fun j a b c => by rcases (show j = 60 ∨ j = 61 ∨ j = 62 ∨ j = 63 ∨ j = 65 ∨ j = 66 by omega) with rfl | rfl | rfl | rfl | rfl | rfl <;> exact (fc 69 _ (by decide) rfl).1) g67
                                                            have hO2 : s_okz P (s_skz P (gi 69 59).toInt (P 0 0).toNat 0 (s_en (gi 69 59).toInt Z)) := s_skz_ok hO1
                                                            have mo2 := (y2.mo hO2.1 hm0).2
                                                            have e69c : gi105 69 69 = gi 69 69 := by rw [(fc 69 69 (by decide) rfl).1]; exact e69
                                                            have d44 : (gi105 69 44).toInt = (gi100 69 44).toInt := congrArg Int32.toInt (fc 69 44 (by decide) rfl).1
                                                            have d45 : (gi105 69 45).toInt = (gi100 69 45).toInt := congrArg Int32.toInt (fc 69 45 (by decide) rfl).1
                                                            have d59 : (gi105 69 59).toInt = (gi100 69 59).toInt := congrArg Int32.toInt (fc 69 59 (by decide) rfl).1
                                                            have hbz : (s_skz P (gi 69 59).toInt (P 0 0).toNat 0 (s_en (gi 69 59).toInt Z)) 1 ≠ 0 := mo2.mp (by omega)
                                                            rw [show (s_ob P (fun F => s_ac F R) (gi 69 59).toInt (s_skz P (gi 69 59).toInt (P 0 0).toNat 0 (s_en (gi 69 59).toInt Z))) = (s_skz P (gi 69 59).toInt (P 0 0).toNat 0 (s_en (gi 69 59).toInt Z)) from if_neg (fun hh => hbz hh.1)]
                                                            exact ⟨hnd, s2, y2, e69c, f2⟩))
    · have r110 : (gi105 69 61).toInt ≤ (gi100 69 59).toInt := Int32.le_iff_toInt_le.mp (t_nlt h107)
      have u111 : (gi105 69 61).toInt ≤ 301 := t_leu (t_nlt h107) u101
      refine ev_loc f_X12_isBusy (nx := 12) rfl rfl rfl rfl ?_
      refine ev_getI f_X12_isBusy (nx := 15) rfl (hI.wf.s rfl) rfl rfl rfl ?_
      refine ev_loc f_X12_isBusy (nx := 16) rfl rfl rfl rfl ?_
      refine ev_gvI f_X12_isBusy (nx := 19) (w := (gi100 69 59)) rfl (hI.wf.s rfl) rfl rfl ((hC105.1 69 59 rfl).1.trans rfl) rfl ?_
      refine ev_if f_X12_isBusy (t1 := 26) (t2 := 22) rfl rfl rfl (fun h112 => ?_) (fun h112 => ?_)
      · have r113 : (gi105 69 62).toInt ≤ (gi100 69 59).toInt := Int32.le_iff_toInt_le.mp h112
        have u114 : (gi105 69 62).toInt ≤ 301 := t_leu h112 u101
        refine ev_ic f_X12_isBusy (nx := 27) (v := 0) rfl (by decide) rfl ?_
        refine ev_retK1 f_X12_isBusy rfl rfl rfl ?_
        refine ev_t f_X12_minuteGoes (t1 := 91) (t2 := 160) rfl rfl rfl (by decide) ?_
        have hX91_100 := hX
        refine ev_loc f_X12_minuteGoes (nx := 92) rfl rfl rfl rfl ?_
        refine ev_qI f_X12_minuteGoes (nx := 95) (r := []) rfl rfl rfl rfl rfl rfl rfl (c_e_actNow hI  (by have hq := ((funext (fun j => (hC105.1 70 j rfl).1) : gi105 70 = gi100 70)); rw [hq]; exact j100_0)) rfl hX rfl (fun w115 gi115 gl115 gr115 l115 u115 hI hX hC115 q115 => ?_)
        have q115 : (∀ (F : Nat → Int) (R : List (List Int × Int)), t_MA F gi105 → t_MQ (gi105 70) R → s_crs R → w115.toInt = s_ac F R + 15) := q115
        refine ev_loc f_X12_minuteGoes (nx := 96) (lo' := [(1, .int w115), (0, .ref 69)]) rfl rfl rfl rfl ?_
        refine ev_loc f_X12_minuteGoes (nx := 97) rfl rfl rfl rfl ?_
        refine ev_bp f_X12_minuteGoes (nx := 99) (v := 15) rfl (by decide) rfl ?_
        refine ev_if f_X12_minuteGoes (t1 := 102) (t2 := 109) rfl rfl rfl (fun h116 => ?_) (fun h116 => ?_)
        · have u117 : w115.toInt ≤ 15 := t_equ h116 (by decide : (15:Int32).toInt ≤ (15:Int))
          have l118 : 15 ≤ w115.toInt := t_eql h116 (by decide : (15:Int) ≤ (15:Int32).toInt)
          refine ev_loc f_X12_minuteGoes (nx := 103) rfl rfl rfl rfl ?_
          refine ev_getI f_X12_minuteGoes (nx := 106) rfl (hI.wf.s rfl) rfl rfl rfl ?_
          refine ev_if f_X12_minuteGoes (t1 := 123) (t2 := 109) rfl rfl rfl (fun h119 => ?_) (fun h119 => ?_)
          · have u120 : (gi115 69 60).toInt ≤ 0 := t_equ h119 (by decide : (0:Int32).toInt ≤ (0:Int))
            have l121 : 0 ≤ (gi115 69 60).toInt := t_eql h119 (by decide : (0:Int) ≤ (0:Int32).toInt)
            have hX123_100 := hX
            refine ev_loc f_X12_minuteGoes (nx := 124) rfl rfl rfl rfl ?_
            refine ev_loc f_X12_minuteGoes (nx := 125) rfl rfl rfl rfl ?_
            refine ev_gvI f_X12_minuteGoes (nx := 128) (w := (gi100 69 59)) rfl (hI.wf.s rfl) rfl rfl ((hC115.1 69 59 rfl).1.trans ((hC105.1 69 59 rfl).1.trans rfl)) rfl ?_
            refine ev_loc f_X12_minuteGoes (nx := 129) rfl rfl rfl rfl ?_
            refine ev_loc f_X12_minuteGoes (nx := 130) rfl rfl rfl rfl ?_
            refine ev_gvI f_X12_minuteGoes (nx := 133) (w := (gi100 69 59)) rfl (hI.wf.s rfl) rfl rfl ((hC115.1 69 59 rfl).1.trans ((hC105.1 69 59 rfl).1.trans rfl)) rfl ?_
            refine ev_loc f_X12_minuteGoes (nx := 134) rfl rfl rfl rfl ?_
            refine ev_getR f_X12_minuteGoes (nx := 137) rfl (hI.wf.s rfl) rfl rfl (hI.wf.r rfl) rfl rfl ?_
            refine ev_ic f_X12_minuteGoes (nx := 138) (v := 4) rfl (by decide) rfl ?_
            refine ev_ialdv f_X12_minuteGoes (nx := 139) (w := (gi100 70 4)) rfl (hI.wf.s rfl) (by decide) (rfl : (4 : Int32).toNatClampNeg = 4) (by decide) ((hC115.1 70 4 rfl).1.trans ((hC105.1 70 4 rfl).1.trans rfl)) rfl ?_
            refine ev_inV3 f_X12_minuteGoes (nx := 142) (lo2 := [(0, .ref 69), (1, .int (gi100 69 59)), (2, .int (gi100 70 4))]) rfl rfl rfl rfl f_X12_turnTime (hI.wf.s rfl) rfl rfl rfl rfl rfl ?_
            refine ev_loc f_X12_turnTime (nx := 1) rfl rfl rfl rfl ?_
            refine ev_loc f_X12_turnTime (nx := 2) rfl rfl rfl rfl ?_
            refine ev_getR f_X12_turnTime (nx := 5) rfl (hI.wf.s rfl) rfl rfl (hI.wf.r rfl) rfl rfl ?_
            refine ev_ic f_X12_turnTime (nx := 6) (v := 5) rfl (by decide) rfl ?_
            obtain ⟨l123, u123⟩ := hI.ab (by decide +kernel : t_abr 70 5 5 0 20 = true) (Nat.le_refl _) (Nat.le_refl _)
            refine ev_ialdv f_X12_turnTime (nx := 7) (w := (gi115 70 5)) rfl (hI.wf.s rfl) (by decide) (rfl : (5 : Int32).toNatClampNeg = 5) (by decide) rfl rfl ?_
            refine ev_if f_X12_turnTime (t1 := 30) (t2 := 10) rfl rfl rfl (fun h124 => ?_) (fun h124 => ?_)
            · have u125 : (gi115 70 5).toInt ≤ 0 := t_leu h124 (by decide : (0:Int32).toInt ≤ (0:Int))
              refine ev_ic f_X12_turnTime (nx := 31) (v := 0) rfl (by decide) rfl ?_
              refine ev_addC f_X12_turnTime (nx := 32) (c := 0) (l := 0) (u := 20) rfl (by decide) l104 u104 rfl rfl (by decide) (by decide) rfl (fun z126 e126 l126 u126 => ?_)
              refine ev_retK1 f_X12_turnTime rfl rfl rfl ?_
              refine ev_addR f_X12_minuteGoes (nx := 143) (l := 0) (u := 321) rfl l101 u101 l126 u126 rfl rfl (by decide) (by decide) rfl (fun z127 e127 l127 u127 => ?_)
              refine ev_putIT f_X12_minuteGoes (nx := 146) rfl (hI.wf.s rfl) rfl rfl rfl (hI.put0 (hI.wf.s rfl) rfl rfl) (hX.upI rfl) (fun g128 e128 hI hX => ?_)
              refine ev_loc f_X12_minuteGoes (nx := 147) rfl rfl rfl rfl ?_
              refine ev_alu f_X12_minuteGoes (nx := 148) rfl rfl rfl rfl ?_
              refine ev_getI f_X12_minuteGoes (nx := 151) rfl (hI.wf.s rfl) rfl rfl rfl ?_
              refine ev_ic f_X12_minuteGoes (nx := 152) (v := 1) rfl (by decide) rfl ?_
              refine ev_anyIE f_X12_minuteGoes (nx := 153) rfl rfl rfl rfl (fun z129 e129 => ?_)
              refine ev_putIT f_X12_minuteGoes (nx := 156) rfl (hI.wf.s rfl) rfl rfl rfl (hI.put0 (hI.wf.s rfl) rfl rfl) (hX.upI rfl) (fun g130 e130 hI hX => ?_)
              have hX156_100 := hX
              refine ev_loc f_X12_minuteGoes (nx := 157) rfl rfl rfl rfl ?_
              refine ev_qN f_X12_minuteGoes (nx := 160) (r := []) rfl rfl rfl rfl rfl rfl rfl (c_y_strikes hI ) rfl hX rfl (fun gi131 gl131 gr131 hI hX hC131 q131 => ?_)
              have ff132 : (g130 69 59).toInt = (gi100 69 59).toInt := congrArg Int32.toInt ((by rw [e130]; exact x_up2_off (Or.inr (by decide)) : g130 69 59 = g128 69 59).trans ((by rw [e128]; exact x_up2_off (Or.inr (by decide)) : g128 69 59 = gi115 69 59).trans ((hC115.1 69 59 rfl).1.trans ((hC105.1 69 59 rfl).1.trans rfl))))
              have q131 : (∀ (P : Nat → Nat → Int) (Z : Nat → Int) (q : Int), s_TP g130 q P → t_IJ (P 0 0).toNat g130 → t_YS (P 0 0).toNat Z g130 → t_MO (g130 69 59).toInt Z g130 → g130 69 67 = Int32.ofInt (Z 6) → t_YS (P 0 0).toNat (s_skz P (g130 69 59).toInt (P 0 0).toNat 0 Z) gi131 ∧ gi131 69 67 = Int32.ofInt ((s_skz P (g130 69 59).toInt (P 0 0).toNat 0 Z) 6) ∧ (gi131 69 64).toInt = ((s_f1 (s_skz P (g130 69 59).toInt (P 0 0).toNat 0 Z) (P 0 0).toNat 0 : Nat) : Int)) := q131
              obtain ⟨l133, u133⟩ := hI.b (hI.wf.s (k := 69) rfl) (t_bdK rfl : t_bd 11 64 = some (0, 6))
              refine ev_sub (lo := [(0, .ref 69)]) rfl (t_sc rfl t_sn) ?_
              exact L48 gi131 gl131 gr131  hI hX  (by have hq := ((funext (fun j => (hC131.1 70 j rfl).1) : gi131 70 = g130 70).trans ((by rw [e130]; exact x_up2_ne (by decide) : g130 70 = g128 70).trans ((by rw [e128]; exact x_up2_ne (by decide) : g128 70 = gi115 70).trans ((funext (fun j => (hC115.1 70 j rfl).1) : gi115 70 = gi105 70).trans ((funext (fun j => (hC105.1 70 j rfl).1) : gi105 70 = gi100 70)))))); rw [hq]; exact j100_0) (fun P Z R hP hJ hS hB hO hPO hPB hQ hcr => (by
                                                            have hm0 : 0 ≤ (gi 69 59).toInt := (hI0.b (hI0.wf.s (k := 69) rfl) (t_bdK rfl : t_bd 11 59 = some (0, 301))).1
                                                            have hm3 : (gi 69 59).toInt ≤ 301 := (hI0.b (hI0.wf.s (k := 69) rfl) (t_bdK rfl : t_bd 11 59 = some (0, 301))).2
                                                            have b44 := hI0.b (hI0.wf.s (k := 69) rfl) (t_bdK rfl : t_bd 11 44 = some (0, 6))
                                                            have b45 := hI0.b (hI0.wf.s (k := 69) rfl) (t_bdK rfl : t_bd 11 45 = some (0, 6))
                                                            have q0 : P 0 0 = ((t_S gi : Nat) : Int) := hP.1.1
                                                            have q1 : P 0 1 = ((t_C gi : Nat) : Int) := hP.1.2
                                                            have u0 : ((t_S gi : Nat) : Int) = (gi 69 44).toInt := by unfold t_S; omega
                                                            have u1 : ((t_C gi : Nat) : Int) = (gi 69 45).toInt := by unfold t_C; omega
                                                            have hO1 : s_okz P (s_en (gi 69 59).toInt Z) := s_en_ok hO hm3
                                                            have fa := t_F_X hX80_100
                                                            have Ta := hP.eq (fa 69 44 (by decide) rfl).1 (fa 69 45 (by decide) rfl).1 (t_F_nc fa rfl (by decide)) (t_F_nc fa rfl (by decide)) (t_F_nc fa rfl (by decide)) (t_F_nc fa rfl (by decide))
                                                            have Ia := hJ.eq (t_F_nc fa rfl (by decide))
                                                            have ma := congrArg Int32.toInt (fa 69 59 (by decide) rfl).1
                                                            have c44a := congrArg Int32.toInt (fa 69 44 (by decide) rfl).1
                                                            have c45a := congrArg Int32.toInt (fa 69 45 (by decide) rfl).1
                                                            obtain ⟨hnd, s1, y1, e69⟩ := j100_1 P Z R hP hJ hS hB hO hPO hPB hQ hcr
                                                            have mo1 := y1.mo hO1.1 hm0
                                                            have hq := q105 P (s_en (gi 69 59).toInt Z) _ Ta Ia s1 (by rw [ma]; exact mo1) y1.2.1.2
                                                            rw [ma] at hq
                                                            obtain ⟨s2, g67, f2⟩ := hq
                                                            have fc := t_F_X hC105
                                                            have y2 : t_MZ (gi 69 59).toInt (s_skz P (gi 69 59).toInt (P 0 0).toNat 0 (s_en (gi 69 59).toInt Z)) gi105 := y1.sk (fun j a b c => by rcases (show j = 60 ∨ j = 61 ∨ j = 62 ∨ j = 63 ∨ j = 65 ∨ j = 66 by omega) with rfl | rfl | rfl | rfl | rfl | rfl <;> exact (fc 69 _ (by decide) rfl).1) g67
                                                            have hO2 : s_okz P (s_skz P (gi 69 59).toInt (P 0 0).toNat 0 (s_en (gi 69 59).toInt Z)) := s_skz_ok hO1
                                                            have mo2 := (y2.mo hO2.1 hm0).2
                                                            have e69c : gi105 69 69 = gi 69 69 := by rw [(fc 69 69 (by decide) rfl).1]; exact e69
                                                            have d44 : (gi105 69 44).toInt = (gi100 69 44).toInt := congrArg Int32.toInt (fc 69 44 (by decide) rfl).1
                                                            have d45 : (gi105 69 45).toInt = (gi100 69 45).toInt := congrArg Int32.toInt (fc 69 45 (by decide) rfl).1
                                                            have d59 : (gi105 69 59).toInt = (gi100 69 59).toInt := congrArg Int32.toInt (fc 69 59 (by decide) rfl).1
                                                            have hz0 : (s_skz P (gi 69 59).toInt (P 0 0).toNat 0 (s_en (gi 69 59).toInt Z)) 1 = 0 := by by_cases hz : (s_skz P (gi 69 59).toInt (P 0 0).toNat 0 (s_en (gi 69 59).toInt Z)) 1 = 0; exact hz; exact absurd (mo2.mpr hz) (by omega)
                                                            have fb := t_F_X hX91_100
                                                            have Tb := hP.eq (fb 69 44 (by decide) rfl).1 (fb 69 45 (by decide) rfl).1 (t_F_nc fb rfl (by decide)) (t_F_nc fb rfl (by decide)) (t_F_nc fb rfl (by decide)) (t_F_nc fb rfl (by decide))
                                                            have Ib := hJ.eq (t_F_nc fb rfl (by decide))
                                                            have mb := congrArg Int32.toInt (fb 69 59 (by decide) rfl).1
                                                            have c44b := congrArg Int32.toInt (fb 69 44 (by decide) rfl).1
                                                            have c45b := congrArg Int32.toInt (fb 69 45 (by decide) rfl).1
                                                            have hMA := t_MA_of Tb s2 (by rw [mb]; exact y2) hO2 (by omega) (by omega)
                                                            rw [mb] at hMA
                                                            have ha : w115.toInt = s_ac (s_FA P (gi 69 59).toInt (s_skz P (gi 69 59).toInt (P 0 0).toNat 0 (s_en (gi 69 59).toInt Z))) R + 15 := q115 _ R hMA (by rw [t_F_nc fb rfl (by decide)]; exact hQ) hcr
                                                            have fd := t_F_X hC115
                                                            have y3 : t_MZ (gi 69 59).toInt (s_skz P (gi 69 59).toInt (P 0 0).toNat 0 (s_en (gi 69 59).toInt Z)) gi115 := y2.fr (fun j a b c => by rcases (show j = 60 ∨ j = 61 ∨ j = 62 ∨ j = 63 ∨ j = 65 ∨ j = 66 ∨ j = 67 by omega) with rfl | rfl | rfl | rfl | rfl | rfl | rfl <;> exact (fd 69 _ (by decide) rfl).1)
                                                            have s3 : t_YS (P 0 0).toNat (s_skz P (gi 69 59).toInt (P 0 0).toNat 0 (s_en (gi 69 59).toInt Z)) gi115 := s2.fr (fd 69 64 (by decide) rfl).1 (t_F_nc fd rfl (by decide)) (t_F_nc fd rfl (by decide))
                                                            have e69d : gi115 69 69 = gi 69 69 := by rw [(fd 69 69 (by decide) rfl).1]; exact e69c
                                                            have o60 := y3.1.1
                                                            have o0 := hO2.1
                                                            have fd2 := t_F_X hX123_100
                                                            have Td2 := hP.eq (fd2 69 44 (by decide) rfl).1 (fd2 69 45 (by decide) rfl).1 (t_F_nc fd2 rfl (by decide)) (t_F_nc fd2 rfl (by decide)) (t_F_nc fd2 rfl (by decide)) (t_F_nc fd2 rfl (by decide))
                                                            have Id2 := hJ.eq (t_F_nc fd2 rfl (by decide))
                                                            have md2 := congrArg Int32.toInt (fd2 69 59 (by decide) rfl).1
                                                            have c44d2 := congrArg Int32.toInt (fd2 69 44 (by decide) rfl).1
                                                            have c45d2 := congrArg Int32.toInt (fd2 69 45 (by decide) rfl).1
                                                            have h8 := Td2.2.2.2 (gi 69 59).toInt.toNat
                                                            have k704 : gi115 70 4 = gi 70 4 := congrFun (t_F_nc fd2 rfl (by decide)) 4
                                                            have z0_ : (0 : Int32).toInt = 0 := rfl
                                                            have k4i := congrArg Int32.toInt k704
                                                            have ka4 : (gi100 70 4).toInt = (gi 70 4).toInt := congrArg Int32.toInt (congrFun (t_F_nc fa rfl (by decide)) 4)
                                                            have htt : z126.toInt = P 8 (gi 69 59).toInt.toNat := by rw [h8]; unfold t_tt; split <;> omega
                                                            have pb8 := hPB.2.2.2 (gi 69 59).toInt.toNat
                                                            have po8 := (hPO.2.2 (gi 69 59).toInt.toNat).1
                                                            have bm := (hI0.b (hI0.wf.s (k := 69) rfl) (t_bdK rfl : t_bd 11 59 = some (0, 301))).2
                                                            have e61v : z127.toInt = (gi 69 59).toInt + P 8 (gi 69 59).toInt.toNat := (by rw [← htt]; omega)
                                                            have y4 : t_MZ (gi 69 59).toInt (s_z (s_z (s_z (s_skz P (gi 69 59).toInt (P 0 0).toNat 0 (s_en (gi 69 59).toInt Z)) 1 3) 2 ((gi 69 59).toInt + P 8 (gi 69 59).toInt.toNat)) 7 ((s_skz P (gi 69 59).toInt (P 0 0).toNat 0 (s_en (gi 69 59).toInt Z)) 7 + 1)) g130 := y3.tn hz0 (by omega) (by rw [e130, x_up2_off (Or.inr (by decide)), e128, x_up2_at]; exact e61v) (fun j a b c d => by rcases (show j = 60 ∨ j = 62 ∨ j = 63 ∨ j = 65 ∨ j = 66 ∨ j = 67 by omega) with rfl | rfl | rfl | rfl | rfl | rfl <;> rw [e130, x_up2_off (Or.inr (by decide)), e128, x_up2_off (Or.inr (by decide))])
                                                            have s4 : t_YS (P 0 0).toNat (s_z (s_z (s_z (s_skz P (gi 69 59).toInt (P 0 0).toNat 0 (s_en (gi 69 59).toInt Z)) 1 3) 2 ((gi 69 59).toInt + P 8 (gi 69 59).toInt.toNat)) 7 ((s_skz P (gi 69 59).toInt (P 0 0).toNat 0 (s_en (gi 69 59).toInt Z)) 7 + 1)) g130 := s3.tn (by rw [e130, x_up2_off (Or.inr (by decide)), e128, x_up2_off (Or.inr (by decide))]) (funext fun j => by rw [e130, x_up2_off (Or.inl (by decide)), e128, x_up2_off (Or.inl (by decide))]) (funext fun j => by rw [e130, x_up2_off (Or.inl (by decide)), e128, x_up2_off (Or.inl (by decide))])
                                                            have fe := t_F_X hX156_100
                                                            have Te := hP.eq (fe 69 44 (by decide) rfl).1 (fe 69 45 (by decide) rfl).1 (t_F_nc fe rfl (by decide)) (t_F_nc fe rfl (by decide)) (t_F_nc fe rfl (by decide)) (t_F_nc fe rfl (by decide))
                                                            have Ie := hJ.eq (t_F_nc fe rfl (by decide))
                                                            have me := congrArg Int32.toInt (fe 69 59 (by decide) rfl).1
                                                            have c44e := congrArg Int32.toInt (fe 69 44 (by decide) rfl).1
                                                            have c45e := congrArg Int32.toInt (fe 69 45 (by decide) rfl).1
                                                            have hO4 : s_okz P (s_z (s_z (s_z (s_skz P (gi 69 59).toInt (P 0 0).toNat 0 (s_en (gi 69 59).toInt Z)) 1 3) 2 ((gi 69 59).toInt + P 8 (gi 69 59).toInt.toNat)) 7 ((s_skz P (gi 69 59).toInt (P 0 0).toNat 0 (s_en (gi 69 59).toInt Z)) 7 + 1)) := s_tn_ok hO2 (by omega)
                                                            have hq4 := q131 P (s_z (s_z (s_z (s_skz P (gi 69 59).toInt (P 0 0).toNat 0 (s_en (gi 69 59).toInt Z)) 1 3) 2 ((gi 69 59).toInt + P 8 (gi 69 59).toInt.toNat)) 7 ((s_skz P (gi 69 59).toInt (P 0 0).toNat 0 (s_en (gi 69 59).toInt Z)) 7 + 1)) _ Te Ie s4 (by rw [me]; exact y4.mo hO4.1 hm0) y4.2.1.2
                                                            rw [me] at hq4
                                                            obtain ⟨s5, g5, f5⟩ := hq4
                                                            have ff := t_F_X hC131
                                                            rw [s_ob_y (A := (fun F => s_ac F R)) (P := P) (m := (gi 69 59).toInt) (Z := (s_skz P (gi 69 59).toInt (P 0 0).toNat 0 (s_en (gi 69 59).toInt Z))) hz0 (by show (_ ∧ s_ac _ R = 1) ∨ (_ ∧ s_ac _ R = 0); omega)]
                                                            exact ⟨hnd, s5, y4.sk (fun j a b c => by rcases (show j = 60 ∨ j = 61 ∨ j = 62 ∨ j = 63 ∨ j = 65 ∨ j = 66 by omega) with rfl | rfl | rfl | rfl | rfl | rfl <;> exact (ff 69 _ (by decide) rfl).1) g5, by rw [(ff 69 69 (by decide) rfl).1, e130, x_up2_off (Or.inr (by decide)), e128, x_up2_off (Or.inr (by decide))]; exact e69d, f5⟩))
            · have l134 : 1 ≤ (gi115 70 5).toInt := t_ltl (t_nle h124) (by decide : (0:Int) ≤ (0:Int32).toInt) rfl
              refine ev_loc f_X12_turnTime (nx := 11) rfl rfl rfl rfl ?_
              refine ev_loc f_X12_turnTime (nx := 12) rfl rfl rfl rfl ?_
              refine ev_getR f_X12_turnTime (nx := 15) rfl (hI.wf.s rfl) rfl rfl (hI.wf.r rfl) rfl rfl ?_
              refine ev_bp f_X12_turnTime (nx := 17) (v := 6) rfl (by decide) rfl ?_
              obtain ⟨l135, u135⟩ := hI.ab (by decide +kernel : t_abr 70 6 6 0 200 = true) (Nat.le_refl _) (Nat.le_refl _)
              refine ev_ialdv f_X12_turnTime (nx := 18) (w := (gi115 70 6)) rfl (hI.wf.s rfl) (by decide) (rfl : (6 : Int32).toNatClampNeg = 6) (by decide) rfl rfl ?_
              refine ev_if f_X12_turnTime (t1 := 30) (t2 := 21) rfl rfl rfl (fun h136 => ?_) (fun h136 => ?_)
              · have r137 : (gi100 69 59).toInt < (gi115 70 6).toInt := Int32.lt_iff_toInt_lt.mp h136
                have u138 : (gi100 69 59).toInt ≤ 199 := t_ltu h136 u135 rfl
                have l139 : 1 ≤ (gi115 70 6).toInt := t_ltl h136 l101 rfl
                refine ev_ic f_X12_turnTime (nx := 31) (v := 0) rfl (by decide) rfl ?_
                refine ev_addC f_X12_turnTime (nx := 32) (c := 0) (l := 0) (u := 20) rfl (by decide) l104 u104 rfl rfl (by decide) (by decide) rfl (fun z140 e140 l140 u140 => ?_)
                refine ev_retK1 f_X12_turnTime rfl rfl rfl ?_
                refine ev_addR f_X12_minuteGoes (nx := 143) (l := 0) (u := 219) rfl l101 u138 l140 u140 rfl rfl (by decide) (by decide) rfl (fun z141 e141 l141 u141 => ?_)
                refine ev_putIT f_X12_minuteGoes (nx := 146) rfl (hI.wf.s rfl) rfl rfl rfl (hI.put0 (hI.wf.s rfl) rfl rfl) (hX.upI rfl) (fun g142 e142 hI hX => ?_)
                refine ev_loc f_X12_minuteGoes (nx := 147) rfl rfl rfl rfl ?_
                refine ev_alu f_X12_minuteGoes (nx := 148) rfl rfl rfl rfl ?_
                refine ev_getI f_X12_minuteGoes (nx := 151) rfl (hI.wf.s rfl) rfl rfl rfl ?_
                refine ev_ic f_X12_minuteGoes (nx := 152) (v := 1) rfl (by decide) rfl ?_
                refine ev_anyIE f_X12_minuteGoes (nx := 153) rfl rfl rfl rfl (fun z143 e143 => ?_)
                refine ev_putIT f_X12_minuteGoes (nx := 156) rfl (hI.wf.s rfl) rfl rfl rfl (hI.put0 (hI.wf.s rfl) rfl rfl) (hX.upI rfl) (fun g144 e144 hI hX => ?_)
                have hX156_100 := hX
                refine ev_loc f_X12_minuteGoes (nx := 157) rfl rfl rfl rfl ?_
                refine ev_qN f_X12_minuteGoes (nx := 160) (r := []) rfl rfl rfl rfl rfl rfl rfl (c_y_strikes hI ) rfl hX rfl (fun gi145 gl145 gr145 hI hX hC145 q145 => ?_)
                have ff146 : (g144 69 59).toInt = (gi100 69 59).toInt := congrArg Int32.toInt ((by rw [e144]; exact x_up2_off (Or.inr (by decide)) : g144 69 59 = g142 69 59).trans ((by rw [e142]; exact x_up2_off (Or.inr (by decide)) : g142 69 59 = gi115 69 59).trans ((hC115.1 69 59 rfl).1.trans ((hC105.1 69 59 rfl).1.trans rfl))))
                have q145 : (∀ (P : Nat → Nat → Int) (Z : Nat → Int) (q : Int), s_TP g144 q P → t_IJ (P 0 0).toNat g144 → t_YS (P 0 0).toNat Z g144 → t_MO (g144 69 59).toInt Z g144 → g144 69 67 = Int32.ofInt (Z 6) → t_YS (P 0 0).toNat (s_skz P (g144 69 59).toInt (P 0 0).toNat 0 Z) gi145 ∧ gi145 69 67 = Int32.ofInt ((s_skz P (g144 69 59).toInt (P 0 0).toNat 0 Z) 6) ∧ (gi145 69 64).toInt = ((s_f1 (s_skz P (g144 69 59).toInt (P 0 0).toNat 0 Z) (P 0 0).toNat 0 : Nat) : Int)) := q145
                obtain ⟨l147, u147⟩ := hI.b (hI.wf.s (k := 69) rfl) (t_bdK rfl : t_bd 11 64 = some (0, 6))
                refine ev_sub (lo := [(0, .ref 69)]) rfl (t_sc rfl t_sn) ?_
                exact L48 gi145 gl145 gr145  hI hX  (by have hq := ((funext (fun j => (hC145.1 70 j rfl).1) : gi145 70 = g144 70).trans ((by rw [e144]; exact x_up2_ne (by decide) : g144 70 = g142 70).trans ((by rw [e142]; exact x_up2_ne (by decide) : g142 70 = gi115 70).trans ((funext (fun j => (hC115.1 70 j rfl).1) : gi115 70 = gi105 70).trans ((funext (fun j => (hC105.1 70 j rfl).1) : gi105 70 = gi100 70)))))); rw [hq]; exact j100_0) (fun P Z R hP hJ hS hB hO hPO hPB hQ hcr => (by
                                                            have hm0 : 0 ≤ (gi 69 59).toInt := (hI0.b (hI0.wf.s (k := 69) rfl) (t_bdK rfl : t_bd 11 59 = some (0, 301))).1
                                                            have hm3 : (gi 69 59).toInt ≤ 301 := (hI0.b (hI0.wf.s (k := 69) rfl) (t_bdK rfl : t_bd 11 59 = some (0, 301))).2
                                                            have b44 := hI0.b (hI0.wf.s (k := 69) rfl) (t_bdK rfl : t_bd 11 44 = some (0, 6))
                                                            have b45 := hI0.b (hI0.wf.s (k := 69) rfl) (t_bdK rfl : t_bd 11 45 = some (0, 6))
                                                            have q0 : P 0 0 = ((t_S gi : Nat) : Int) := hP.1.1
                                                            have q1 : P 0 1 = ((t_C gi : Nat) : Int) := hP.1.2
                                                            have u0 : ((t_S gi : Nat) : Int) = (gi 69 44).toInt := by unfold t_S; omega
                                                            have u1 : ((t_C gi : Nat) : Int) = (gi 69 45).toInt := by unfold t_C; omega
                                                            have hO1 : s_okz P (s_en (gi 69 59).toInt Z) := s_en_ok hO hm3
                                                            have fa := t_F_X hX80_100
                                                            have Ta := hP.eq (fa 69 44 (by decide) rfl).1 (fa 69 45 (by decide) rfl).1 (t_F_nc fa rfl (by decide)) (t_F_nc fa rfl (by decide)) (t_F_nc fa rfl (by decide)) (t_F_nc fa rfl (by decide))
                                                            have Ia := hJ.eq (t_F_nc fa rfl (by decide))
                                                            have ma := congrArg Int32.toInt (fa 69 59 (by decide) rfl).1
                                                            have c44a := congrArg Int32.toInt (fa 69 44 (by decide) rfl).1
                                                            have c45a := congrArg Int32.toInt (fa 69 45 (by decide) rfl).1
                                                            obtain ⟨hnd, s1, y1, e69⟩ := j100_1 P Z R hP hJ hS hB hO hPO hPB hQ hcr
                                                            have mo1 := y1.mo hO1.1 hm0
                                                            have hq := q105 P (s_en (gi 69 59).toInt Z) _ Ta Ia s1 (by rw [ma]; exact mo1) y1.2.1.2
                                                            rw [ma] at hq
                                                            obtain ⟨s2, g67, f2⟩ := hq
                                                            have fc := t_F_X hC105
                                                            have y2 : t_MZ (gi 69 59).toInt (s_skz P (gi 69 59).toInt (P 0 0).toNat 0 (s_en (gi 69 59).toInt Z)) gi105 := y1.sk (fun j a b c => by rcases (show j = 60 ∨ j = 61 ∨ j = 62 ∨ j = 63 ∨ j = 65 ∨ j = 66 by omega) with rfl | rfl | rfl | rfl | rfl | rfl <;> exact (fc 69 _ (by decide) rfl).1) g67
                                                            have hO2 : s_okz P (s_skz P (gi 69 59).toInt (P 0 0).toNat 0 (s_en (gi 69 59).toInt Z)) := s_skz_ok hO1
                                                            have mo2 := (y2.mo hO2.1 hm0).2
                                                            have e69c : gi105 69 69 = gi 69 69 := by rw [(fc 69 69 (by decide) rfl).1]; exact e69
                                                            have d44 : (gi105 69 44).toInt = (gi100 69 44).toInt := congrArg Int32.toInt (fc 69 44 (by decide) rfl).1
                                                            have d45 : (gi105 69 45).toInt = (gi100 69 45).toInt := congrArg Int32.toInt (fc 69 45 (by decide) rfl).1
                                                            have d59 : (gi105 69 59).toInt = (gi100 69 59).toInt := congrArg Int32.toInt (fc 69 59 (by decide) rfl).1
                                                            have hz0 : (s_skz P (gi 69 59).toInt (P 0 0).toNat 0 (s_en (gi 69 59).toInt Z)) 1 = 0 := by by_cases hz : (s_skz P (gi 69 59).toInt (P 0 0).toNat 0 (s_en (gi 69 59).toInt Z)) 1 = 0; exact hz; exact absurd (mo2.mpr hz) (by omega)
                                                            have fb := t_F_X hX91_100
                                                            have Tb := hP.eq (fb 69 44 (by decide) rfl).1 (fb 69 45 (by decide) rfl).1 (t_F_nc fb rfl (by decide)) (t_F_nc fb rfl (by decide)) (t_F_nc fb rfl (by decide)) (t_F_nc fb rfl (by decide))
                                                            have Ib := hJ.eq (t_F_nc fb rfl (by decide))
                                                            have mb := congrArg Int32.toInt (fb 69 59 (by decide) rfl).1
                                                            have c44b := congrArg Int32.toInt (fb 69 44 (by decide) rfl).1
                                                            have c45b := congrArg Int32.toInt (fb 69 45 (by decide) rfl).1
                                                            have hMA := t_MA_of Tb s2 (by rw [mb]; exact y2) hO2 (by omega) (by omega)
                                                            rw [mb] at hMA
                                                            have ha : w115.toInt = s_ac (s_FA P (gi 69 59).toInt (s_skz P (gi 69 59).toInt (P 0 0).toNat 0 (s_en (gi 69 59).toInt Z))) R + 15 := q115 _ R hMA (by rw [t_F_nc fb rfl (by decide)]; exact hQ) hcr
                                                            have fd := t_F_X hC115
                                                            have y3 : t_MZ (gi 69 59).toInt (s_skz P (gi 69 59).toInt (P 0 0).toNat 0 (s_en (gi 69 59).toInt Z)) gi115 := y2.fr (fun j a b c => by rcases (show j = 60 ∨ j = 61 ∨ j = 62 ∨ j = 63 ∨ j = 65 ∨ j = 66 ∨ j = 67 by omega) with rfl | rfl | rfl | rfl | rfl | rfl | rfl <;> exact (fd 69 _ (by decide) rfl).1)
                                                            have s3 : t_YS (P 0 0).toNat (s_skz P (gi 69 59).toInt (P 0 0).toNat 0 (s_en (gi 69 59).toInt Z)) gi115 := s2.fr (fd 69 64 (by decide) rfl).1 (t_F_nc fd rfl (by decide)) (t_F_nc fd rfl (by decide))
                                                            have e69d : gi115 69 69 = gi 69 69 := by rw [(fd 69 69 (by decide) rfl).1]; exact e69c
                                                            have o60 := y3.1.1
                                                            have o0 := hO2.1
                                                            have fd2 := t_F_X hX123_100
                                                            have Td2 := hP.eq (fd2 69 44 (by decide) rfl).1 (fd2 69 45 (by decide) rfl).1 (t_F_nc fd2 rfl (by decide)) (t_F_nc fd2 rfl (by decide)) (t_F_nc fd2 rfl (by decide)) (t_F_nc fd2 rfl (by decide))
                                                            have Id2 := hJ.eq (t_F_nc fd2 rfl (by decide))
                                                            have md2 := congrArg Int32.toInt (fd2 69 59 (by decide) rfl).1
                                                            have c44d2 := congrArg Int32.toInt (fd2 69 44 (by decide) rfl).1
                                                            have c45d2 := congrArg Int32.toInt (fd2 69 45 (by decide) rfl).1
                                                            have h8 := Td2.2.2.2 (gi 69 59).toInt.toNat
                                                            have k704 : gi115 70 4 = gi 70 4 := congrFun (t_F_nc fd2 rfl (by decide)) 4
                                                            have z0_ : (0 : Int32).toInt = 0 := rfl
                                                            have k4i := congrArg Int32.toInt k704
                                                            have ka4 : (gi100 70 4).toInt = (gi 70 4).toInt := congrArg Int32.toInt (congrFun (t_F_nc fa rfl (by decide)) 4)
                                                            have htt : z140.toInt = P 8 (gi 69 59).toInt.toNat := by rw [h8]; unfold t_tt; split <;> omega
                                                            have pb8 := hPB.2.2.2 (gi 69 59).toInt.toNat
                                                            have po8 := (hPO.2.2 (gi 69 59).toInt.toNat).1
                                                            have bm := (hI0.b (hI0.wf.s (k := 69) rfl) (t_bdK rfl : t_bd 11 59 = some (0, 301))).2
                                                            have e61v : z141.toInt = (gi 69 59).toInt + P 8 (gi 69 59).toInt.toNat := (by rw [← htt]; omega)
                                                            have y4 : t_MZ (gi 69 59).toInt (s_z (s_z (s_z (s_skz P (gi 69 59).toInt (P 0 0).toNat 0 (s_en (gi 69 59).toInt Z)) 1 3) 2 ((gi 69 59).toInt + P 8 (gi 69 59).toInt.toNat)) 7 ((s_skz P (gi 69 59).toInt (P 0 0).toNat 0 (s_en (gi 69 59).toInt Z)) 7 + 1)) g144 := y3.tn hz0 (by omega) (by rw [e144, x_up2_off (Or.inr (by decide)), e142, x_up2_at]; exact e61v) (fun j a b c d => by rcases (show j = 60 ∨ j = 62 ∨ j = 63 ∨ j = 65 ∨ j = 66 ∨ j = 67 by omega) with rfl | rfl | rfl | rfl | rfl | rfl <;> rw [e144, x_up2_off (Or.inr (by decide)), e142, x_up2_off (Or.inr (by decide))])
                                                            have s4 : t_YS (P 0 0).toNat (s_z (s_z (s_z (s_skz P (gi 69 59).toInt (P 0 0).toNat 0 (s_en (gi 69 59).toInt Z)) 1 3) 2 ((gi 69 59).toInt + P 8 (gi 69 59).toInt.toNat)) 7 ((s_skz P (gi 69 59).toInt (P 0 0).toNat 0 (s_en (gi 69 59).toInt Z)) 7 + 1)) g144 := s3.tn (by rw [e144, x_up2_off (Or.inr (by decide)), e142, x_up2_off (Or.inr (by decide))]) (funext fun j => by rw [e144, x_up2_off (Or.inl (by decide)), e142, x_up2_off (Or.inl (by decide))]) (funext fun j => by rw [e144, x_up2_off (Or.inl (by decide)), e142, x_up2_off (Or.inl (by decide))])
                                                            have fe := t_F_X hX156_100
                                                            have Te := hP.eq (fe 69 44 (by decide) rfl).1 (fe 69 45 (by decide) rfl).1 (t_F_nc fe rfl (by decide)) (t_F_nc fe rfl (by decide)) (t_F_nc fe rfl (by decide)) (t_F_nc fe rfl (by decide))
                                                            have Ie := hJ.eq (t_F_nc fe rfl (by decide))
                                                            have me := congrArg Int32.toInt (fe 69 59 (by decide) rfl).1
                                                            have c44e := congrArg Int32.toInt (fe 69 44 (by decide) rfl).1
                                                            have c45e := congrArg Int32.toInt (fe 69 45 (by decide) rfl).1
                                                            have hO4 : s_okz P (s_z (s_z (s_z (s_skz P (gi 69 59).toInt (P 0 0).toNat 0 (s_en (gi 69 59).toInt Z)) 1 3) 2 ((gi 69 59).toInt + P 8 (gi 69 59).toInt.toNat)) 7 ((s_skz P (gi 69 59).toInt (P 0 0).toNat 0 (s_en (gi 69 59).toInt Z)) 7 + 1)) := s_tn_ok hO2 (by omega)
                                                            have hq4 := q145 P (s_z (s_z (s_z (s_skz P (gi 69 59).toInt (P 0 0).toNat 0 (s_en (gi 69 59).toInt Z)) 1 3) 2 ((gi 69 59).toInt + P 8 (gi 69 59).toInt.toNat)) 7 ((s_skz P (gi 69 59).toInt (P 0 0).toNat 0 (s_en (gi 69 59).toInt Z)) 7 + 1)) _ Te Ie s4 (by rw [me]; exact y4.mo hO4.1 hm0) y4.2.1.2
                                                            rw [me] at hq4
                                                            obtain ⟨s5, g5, f5⟩ := hq4
                                                            have ff := t_F_X hC145
                                                            rw [s_ob_y (A := (fun F => s_ac F R)) (P := P) (m := (gi 69 59).toInt) (Z := (s_skz P (gi 69 59).toInt (P 0 0).toNat 0 (s_en (gi 69 59).toInt Z))) hz0 (by show (_ ∧ s_ac _ R = 1) ∨ (_ ∧ s_ac _ R = 0); omega)]
                                                            exact ⟨hnd, s5, y4.sk (fun j a b c => by rcases (show j = 60 ∨ j = 61 ∨ j = 62 ∨ j = 63 ∨ j = 65 ∨ j = 66 by omega) with rfl | rfl | rfl | rfl | rfl | rfl <;> exact (ff 69 _ (by decide) rfl).1) g5, by rw [(ff 69 69 (by decide) rfl).1, e144, x_up2_off (Or.inr (by decide)), e142, x_up2_off (Or.inr (by decide))]; exact e69d, f5⟩))
              · have r148 : (gi115 70 6).toInt ≤ (gi100 69 59).toInt := Int32.le_iff_toInt_le.mp (t_nlt h136)
                refine ev_loc f_X12_turnTime (nx := 22) rfl rfl rfl rfl ?_
                refine ev_getR f_X12_turnTime (nx := 25) rfl (hI.wf.s rfl) rfl rfl (hI.wf.r rfl) rfl rfl ?_
                refine ev_ic f_X12_turnTime (nx := 26) (v := 5) rfl (by decide) rfl ?_
                refine ev_ialdv f_X12_turnTime (nx := 27) (w := (gi115 70 5)) rfl (hI.wf.s rfl) (by decide) (rfl : (5 : Int32).toNatClampNeg = 5) (by decide) rfl rfl ?_
                refine ev_jmp f_X12_turnTime (nx := 31) rfl rfl rfl ?_
                refine ev_addR f_X12_turnTime (nx := 32) (l := 1) (u := 40) rfl l104 u104 l134 u123 rfl rfl (by decide) (by decide) rfl (fun z150 e150 l150 u150 => ?_)
                refine ev_retK1 f_X12_turnTime rfl rfl rfl ?_
                refine ev_addR f_X12_minuteGoes (nx := 143) (l := 1) (u := 341) rfl l101 u101 l150 u150 rfl rfl (by decide) (by decide) rfl (fun z151 e151 l151 u151 => ?_)
                refine ev_putIT f_X12_minuteGoes (nx := 146) rfl (hI.wf.s rfl) rfl rfl rfl (hI.put0 (hI.wf.s rfl) rfl rfl) (hX.upI rfl) (fun g152 e152 hI hX => ?_)
                refine ev_loc f_X12_minuteGoes (nx := 147) rfl rfl rfl rfl ?_
                refine ev_alu f_X12_minuteGoes (nx := 148) rfl rfl rfl rfl ?_
                refine ev_getI f_X12_minuteGoes (nx := 151) rfl (hI.wf.s rfl) rfl rfl rfl ?_
                refine ev_ic f_X12_minuteGoes (nx := 152) (v := 1) rfl (by decide) rfl ?_
                refine ev_anyIE f_X12_minuteGoes (nx := 153) rfl rfl rfl rfl (fun z153 e153 => ?_)
                refine ev_putIT f_X12_minuteGoes (nx := 156) rfl (hI.wf.s rfl) rfl rfl rfl (hI.put0 (hI.wf.s rfl) rfl rfl) (hX.upI rfl) (fun g154 e154 hI hX => ?_)
                have hX156_100 := hX
                refine ev_loc f_X12_minuteGoes (nx := 157) rfl rfl rfl rfl ?_
                refine ev_qN f_X12_minuteGoes (nx := 160) (r := []) rfl rfl rfl rfl rfl rfl rfl (c_y_strikes hI ) rfl hX rfl (fun gi155 gl155 gr155 hI hX hC155 q155 => ?_)
                have ff156 : (g154 69 59).toInt = (gi100 69 59).toInt := congrArg Int32.toInt ((by rw [e154]; exact x_up2_off (Or.inr (by decide)) : g154 69 59 = g152 69 59).trans ((by rw [e152]; exact x_up2_off (Or.inr (by decide)) : g152 69 59 = gi115 69 59).trans ((hC115.1 69 59 rfl).1.trans ((hC105.1 69 59 rfl).1.trans rfl))))
                have q155 : (∀ (P : Nat → Nat → Int) (Z : Nat → Int) (q : Int), s_TP g154 q P → t_IJ (P 0 0).toNat g154 → t_YS (P 0 0).toNat Z g154 → t_MO (g154 69 59).toInt Z g154 → g154 69 67 = Int32.ofInt (Z 6) → t_YS (P 0 0).toNat (s_skz P (g154 69 59).toInt (P 0 0).toNat 0 Z) gi155 ∧ gi155 69 67 = Int32.ofInt ((s_skz P (g154 69 59).toInt (P 0 0).toNat 0 Z) 6) ∧ (gi155 69 64).toInt = ((s_f1 (s_skz P (g154 69 59).toInt (P 0 0).toNat 0 Z) (P 0 0).toNat 0 : Nat) : Int)) := q155
                obtain ⟨l157, u157⟩ := hI.b (hI.wf.s (k := 69) rfl) (t_bdK rfl : t_bd 11 64 = some (0, 6))
                refine ev_sub (lo := [(0, .ref 69)]) rfl (t_sc rfl t_sn) ?_
                exact L48 gi155 gl155 gr155  hI hX  (by have hq := ((funext (fun j => (hC155.1 70 j rfl).1) : gi155 70 = g154 70).trans ((by rw [e154]; exact x_up2_ne (by decide) : g154 70 = g152 70).trans ((by rw [e152]; exact x_up2_ne (by decide) : g152 70 = gi115 70).trans ((funext (fun j => (hC115.1 70 j rfl).1) : gi115 70 = gi105 70).trans ((funext (fun j => (hC105.1 70 j rfl).1) : gi105 70 = gi100 70)))))); rw [hq]; exact j100_0) (fun P Z R hP hJ hS hB hO hPO hPB hQ hcr => (by
                                                            have hm0 : 0 ≤ (gi 69 59).toInt := (hI0.b (hI0.wf.s (k := 69) rfl) (t_bdK rfl : t_bd 11 59 = some (0, 301))).1
                                                            have hm3 : (gi 69 59).toInt ≤ 301 := (hI0.b (hI0.wf.s (k := 69) rfl) (t_bdK rfl : t_bd 11 59 = some (0, 301))).2
                                                            have b44 := hI0.b (hI0.wf.s (k := 69) rfl) (t_bdK rfl : t_bd 11 44 = some (0, 6))
                                                            have b45 := hI0.b (hI0.wf.s (k := 69) rfl) (t_bdK rfl : t_bd 11 45 = some (0, 6))
                                                            have q0 : P 0 0 = ((t_S gi : Nat) : Int) := hP.1.1
                                                            have q1 : P 0 1 = ((t_C gi : Nat) : Int) := hP.1.2
                                                            have u0 : ((t_S gi : Nat) : Int) = (gi 69 44).toInt := by unfold t_S; omega
                                                            have u1 : ((t_C gi : Nat) : Int) = (gi 69 45).toInt := by unfold t_C; omega
                                                            have hO1 : s_okz P (s_en (gi 69 59).toInt Z) := s_en_ok hO hm3
                                                            have fa := t_F_X hX80_100
                                                            have Ta := hP.eq (fa 69 44 (by decide) rfl).1 (fa 69 45 (by decide) rfl).1 (t_F_nc fa rfl (by decide)) (t_F_nc fa rfl (by decide)) (t_F_nc fa rfl (by decide)) (t_F_nc fa rfl (by decide))
                                                            have Ia := hJ.eq (t_F_nc fa rfl (by decide))
                                                            have ma := congrArg Int32.toInt (fa 69 59 (by decide) rfl).1
                                                            have c44a := congrArg Int32.toInt (fa 69 44 (by decide) rfl).1
                                                            have c45a := congrArg Int32.toInt (fa 69 45 (by decide) rfl).1
                                                            obtain ⟨hnd, s1, y1, e69⟩ := j100_1 P Z R hP hJ hS hB hO hPO hPB hQ hcr
                                                            have mo1 := y1.mo hO1.1 hm0
                                                            have hq := q105 P (s_en (gi 69 59).toInt Z) _ Ta Ia s1 (by rw [ma]; exact mo1) y1.2.1.2
                                                            rw [ma] at hq
                                                            obtain ⟨s2, g67, f2⟩ := hq
                                                            have fc := t_F_X hC105
                                                            have y2 : t_MZ (gi 69 59).toInt (s_skz P (gi 69 59).toInt (P 0 0).toNat 0 (s_en (gi 69 59).toInt Z)) gi105 := y1.sk (fun j a b c => by rcases (show j = 60 ∨ j = 61 ∨ j = 62 ∨ j = 63 ∨ j = 65 ∨ j = 66 by omega) with rfl | rfl | rfl | rfl | rfl | rfl <;> exact (fc 69 _ (by decide) rfl).1) g67
                                                            have hO2 : s_okz P (s_skz P (gi 69 59).toInt (P 0 0).toNat 0 (s_en (gi 69 59).toInt Z)) := s_skz_ok hO1
                                                            have mo2 := (y2.mo hO2.1 hm0).2
                                                            have e69c : gi105 69 69 = gi 69 69 := by rw [(fc 69 69 (by decide) rfl).1]; exact e69
                                                            have d44 : (gi105 69 44).toInt = (gi100 69 44).toInt := congrArg Int32.toInt (fc 69 44 (by decide) rfl).1
                                                            have d45 : (gi105 69 45).toInt = (gi100 69 45).toInt := congrArg Int32.toInt (fc 69 45 (by decide) rfl).1
                                                            have d59 : (gi105 69 59).toInt = (gi100 69 59).toInt := congrArg Int32.toInt (fc 69 59 (by decide) rfl).1
                                                            have hz0 : (s_skz P (gi 69 59).toInt (P 0 0).toNat 0 (s_en (gi 69 59).toInt Z)) 1 = 0 := by by_cases hz : (s_skz P (gi 69 59).toInt (P 0 0).toNat 0 (s_en (gi 69 59).toInt Z)) 1 = 0; exact hz; exact absurd (mo2.mpr hz) (by omega)
                                                            have fb := t_F_X hX91_100
                                                            have Tb := hP.eq (fb 69 44 (by decide) rfl).1 (fb 69 45 (by decide) rfl).1 (t_F_nc fb rfl (by decide)) (t_F_nc fb rfl (by decide)) (t_F_nc fb rfl (by decide)) (t_F_nc fb rfl (by decide))
                                                            have Ib := hJ.eq (t_F_nc fb rfl (by decide))
                                                            have mb := congrArg Int32.toInt (fb 69 59 (by decide) rfl).1
                                                            have c44b := congrArg Int32.toInt (fb 69 44 (by decide) rfl).1
                                                            have c45b := congrArg Int32.toInt (fb 69 45 (by decide) rfl).1
                                                            have hMA := t_MA_of Tb s2 (by rw [mb]; exact y2) hO2 (by omega) (by omega)
                                                            rw [mb] at hMA
                                                            have ha : w115.toInt = s_ac (s_FA P (gi 69 59).toInt (s_skz P (gi 69 59).toInt (P 0 0).toNat 0 (s_en (gi 69 59).toInt Z))) R + 15 := q115 _ R hMA (by rw [t_F_nc fb rfl (by decide)]; exact hQ) hcr
                                                            have fd := t_F_X hC115
                                                            have y3 : t_MZ (gi 69 59).toInt (s_skz P (gi 69 59).toInt (P 0 0).toNat 0 (s_en (gi 69 59).toInt Z)) gi115 := y2.fr (fun j a b c => by rcases (show j = 60 ∨ j = 61 ∨ j = 62 ∨ j = 63 ∨ j = 65 ∨ j = 66 ∨ j = 67 by omega) with rfl | rfl | rfl | rfl | rfl | rfl | rfl <;> exact (fd 69 _ (by decide) rfl).1)
                                                            have s3 : t_YS (P 0 0).toNat (s_skz P (gi 69 59).toInt (P 0 0).toNat 0 (s_en (gi 69 59).toInt Z)) gi115 := s2.fr (fd 69 64 (by decide) rfl).1 (t_F_nc fd rfl (by decide)) (t_F_nc fd rfl (by decide))
                                                            have e69d : gi115 69 69 = gi 69 69 := by rw [(fd 69 69 (by decide) rfl).1]; exact e69c
                                                            have o60 := y3.1.1
                                                            have o0 := hO2.1
                                                            have fd2 := t_F_X hX123_100
                                                            have Td2 := hP.eq (fd2 69 44 (by decide) rfl).1 (fd2 69 45 (by decide) rfl).1 (t_F_nc fd2 rfl (by decide)) (t_F_nc fd2 rfl (by decide)) (t_F_nc fd2 rfl (by decide)) (t_F_nc fd2 rfl (by decide))
                                                            have Id2 := hJ.eq (t_F_nc fd2 rfl (by decide))
                                                            have md2 := congrArg Int32.toInt (fd2 69 59 (by decide) rfl).1
                                                            have c44d2 := congrArg Int32.toInt (fd2 69 44 (by decide) rfl).1
                                                            have c45d2 := congrArg Int32.toInt (fd2 69 45 (by decide) rfl).1
                                                            have h8 := Td2.2.2.2 (gi 69 59).toInt.toNat
                                                            have k704 : gi115 70 4 = gi 70 4 := congrFun (t_F_nc fd2 rfl (by decide)) 4
                                                            have z0_ : (0 : Int32).toInt = 0 := rfl
                                                            have k4i := congrArg Int32.toInt k704
                                                            have ka4 : (gi100 70 4).toInt = (gi 70 4).toInt := congrArg Int32.toInt (congrFun (t_F_nc fa rfl (by decide)) 4)
                                                            have htt : z150.toInt = P 8 (gi 69 59).toInt.toNat := by rw [h8]; unfold t_tt; split <;> omega
                                                            have pb8 := hPB.2.2.2 (gi 69 59).toInt.toNat
                                                            have po8 := (hPO.2.2 (gi 69 59).toInt.toNat).1
                                                            have bm := (hI0.b (hI0.wf.s (k := 69) rfl) (t_bdK rfl : t_bd 11 59 = some (0, 301))).2
                                                            have e61v : z151.toInt = (gi 69 59).toInt + P 8 (gi 69 59).toInt.toNat := (by rw [← htt]; omega)
                                                            have y4 : t_MZ (gi 69 59).toInt (s_z (s_z (s_z (s_skz P (gi 69 59).toInt (P 0 0).toNat 0 (s_en (gi 69 59).toInt Z)) 1 3) 2 ((gi 69 59).toInt + P 8 (gi 69 59).toInt.toNat)) 7 ((s_skz P (gi 69 59).toInt (P 0 0).toNat 0 (s_en (gi 69 59).toInt Z)) 7 + 1)) g154 := y3.tn hz0 (by omega) (by rw [e154, x_up2_off (Or.inr (by decide)), e152, x_up2_at]; exact e61v) (fun j a b c d => by rcases (show j = 60 ∨ j = 62 ∨ j = 63 ∨ j = 65 ∨ j = 66 ∨ j = 67 by omega) with rfl | rfl | rfl | rfl | rfl | rfl <;> rw [e154, x_up2_off (Or.inr (by decide)), e152, x_up2_off (Or.inr (by decide))])
                                                            have s4 : t_YS (P 0 0).toNat (s_z (s_z (s_z (s_skz P (gi 69 59).toInt (P 0 0).toNat 0 (s_en (gi 69 59).toInt Z)) 1 3) 2 ((gi 69 59).toInt + P 8 (gi 69 59).toInt.toNat)) 7 ((s_skz P (gi 69 59).toInt (P 0 0).toNat 0 (s_en (gi 69 59).toInt Z)) 7 + 1)) g154 := s3.tn (by rw [e154, x_up2_off (Or.inr (by decide)), e152, x_up2_off (Or.inr (by decide))]) (funext fun j => by rw [e154, x_up2_off (Or.inl (by decide)), e152, x_up2_off (Or.inl (by decide))]) (funext fun j => by rw [e154, x_up2_off (Or.inl (by decide)), e152, x_up2_off (Or.inl (by decide))])
                                                            have fe := t_F_X hX156_100
                                                            have Te := hP.eq (fe 69 44 (by decide) rfl).1 (fe 69 45 (by decide) rfl).1 (t_F_nc fe rfl (by decide)) (t_F_nc fe rfl (by decide)) (t_F_nc fe rfl (by decide)) (t_F_nc fe rfl (by decide))
                                                            have Ie := hJ.eq (t_F_nc fe rfl (by decide))
                                                            have me := congrArg Int32.toInt (fe 69 59 (by decide) rfl).1
                                                            have c44e := congrArg Int32.toInt (fe 69 44 (by decide) rfl).1
                                                            have c45e := congrArg Int32.toInt (fe 69 45 (by decide) rfl).1
                                                            have hO4 : s_okz P (s_z (s_z (s_z (s_skz P (gi 69 59).toInt (P 0 0).toNat 0 (s_en (gi 69 59).toInt Z)) 1 3) 2 ((gi 69 59).toInt + P 8 (gi 69 59).toInt.toNat)) 7 ((s_skz P (gi 69 59).toInt (P 0 0).toNat 0 (s_en (gi 69 59).toInt Z)) 7 + 1)) := s_tn_ok hO2 (by omega)
                                                            have hq4 := q155 P (s_z (s_z (s_z (s_skz P (gi 69 59).toInt (P 0 0).toNat 0 (s_en (gi 69 59).toInt Z)) 1 3) 2 ((gi 69 59).toInt + P 8 (gi 69 59).toInt.toNat)) 7 ((s_skz P (gi 69 59).toInt (P 0 0).toNat 0 (s_en (gi 69 59).toInt Z)) 7 + 1)) _ Te Ie s4 (by rw [me]; exact y4.mo hO4.1 hm0) y4.2.1.2
                                                            rw [me] at hq4
                                                            obtain ⟨s5, g5, f5⟩ := hq4
                                                            have ff := t_F_X hC155
                                                            rw [s_ob_y (A := (fun F => s_ac F R)) (P := P) (m := (gi 69 59).toInt) (Z := (s_skz P (gi 69 59).toInt (P 0 0).toNat 0 (s_en (gi 69 59).toInt Z))) hz0 (by show (_ ∧ s_ac _ R = 1) ∨ (_ ∧ s_ac _ R = 0); omega)]
                                                            exact ⟨hnd, s5, y4.sk (fun j a b c => by rcases (show j = 60 ∨ j = 61 ∨ j = 62 ∨ j = 63 ∨ j = 65 ∨ j = 66 by omega) with rfl | rfl | rfl | rfl | rfl | rfl <;> exact (ff 69 _ (by decide) rfl).1) g5, by rw [(ff 69 69 (by decide) rfl).1, e154, x_up2_off (Or.inr (by decide)), e152, x_up2_off (Or.inr (by decide))]; exact e69d, f5⟩))
          · have r158 : (gi115 69 60).toInt ≠ 0 := fun e => h119 (Int32.toInt_inj.mp (e.trans (by decide : (0:Int) = (0 : Int32).toInt)))
            refine ev_loc f_X12_minuteGoes (nx := 110) rfl rfl rfl rfl ?_
            refine ev_bp f_X12_minuteGoes (nx := 112) (v := 16) rfl (by decide) rfl ?_
            refine ev_f f_X12_minuteGoes (t1 := 115) (t2 := 160) rfl rfl rfl (t_neT u117 (by decide : (16:Int) ≤ (16:Int32).toInt) (by decide)) ?_
            refine ev_sub (lo := [(0, .ref 69)]) rfl (t_sc rfl t_sn) ?_
            exact L48 gi115 gl115 gr115  hI hX  (by have hq := ((funext (fun j => (hC115.1 70 j rfl).1) : gi115 70 = gi105 70).trans ((funext (fun j => (hC105.1 70 j rfl).1) : gi105 70 = gi100 70))); rw [hq]; exact j100_0) (fun P Z R hP hJ hS hB hO hPO hPB hQ hcr => (by
                                                            have hm0 : 0 ≤ (gi 69 59).toInt := (hI0.b (hI0.wf.s (k := 69) rfl) (t_bdK rfl : t_bd 11 59 = some (0, 301))).1
                                                            have hm3 : (gi 69 59).toInt ≤ 301 := (hI0.b (hI0.wf.s (k := 69) rfl) (t_bdK rfl : t_bd 11 59 = some (0, 301))).2
                                                            have b44 := hI0.b (hI0.wf.s (k := 69) rfl) (t_bdK rfl : t_bd 11 44 = some (0, 6))
                                                            have b45 := hI0.b (hI0.wf.s (k := 69) rfl) (t_bdK rfl : t_bd 11 45 = some (0, 6))
                                                            have q0 : P 0 0 = ((t_S gi : Nat) : Int) := hP.1.1
                                                            have q1 : P 0 1 = ((t_C gi : Nat) : Int) := hP.1.2
                                                            have u0 : ((t_S gi : Nat) : Int) = (gi 69 44).toInt := by unfold t_S; omega
                                                            have u1 : ((t_C gi : Nat) : Int) = (gi 69 45).toInt := by unfold t_C; omega
                                                            have hO1 : s_okz P (s_en (gi 69 59).toInt Z) := s_en_ok hO hm3
                                                            have fa := t_F_X hX80_100
                                                            have Ta := hP.eq (fa 69 44 (by decide) rfl).1 (fa 69 45 (by decide) rfl).1 (t_F_nc fa rfl (by decide)) (t_F_nc fa rfl (by decide)) (t_F_nc fa rfl (by decide)) (t_F_nc fa rfl (by decide))
                                                            have Ia := hJ.eq (t_F_nc fa rfl (by decide))
                                                            have ma := congrArg Int32.toInt (fa 69 59 (by decide) rfl).1
                                                            have c44a := congrArg Int32.toInt (fa 69 44 (by decide) rfl).1
                                                            have c45a := congrArg Int32.toInt (fa 69 45 (by decide) rfl).1
                                                            obtain ⟨hnd, s1, y1, e69⟩ := j100_1 P Z R hP hJ hS hB hO hPO hPB hQ hcr
                                                            have mo1 := y1.mo hO1.1 hm0
                                                            have hq := q105 P (s_en (gi 69 59).toInt Z) _ Ta Ia s1 (by rw [ma]; exact mo1) y1.2.1.2
                                                            rw [ma] at hq
                                                            obtain ⟨s2, g67, f2⟩ := hq
                                                            have fc := t_F_X hC105
                                                            have y2 : t_MZ (gi 69 59).toInt (s_skz P (gi 69 59).toInt (P 0 0).toNat 0 (s_en (gi 69 59).toInt Z)) gi105 := y1.sk (fun j a b c => by rcases (show j = 60 ∨ j = 61 ∨ j = 62 ∨ j = 63 ∨ j = 65 ∨ j = 66 by omega) with rfl | rfl | rfl | rfl | rfl | rfl <;> exact (fc 69 _ (by decide) rfl).1) g67
                                                            have hO2 : s_okz P (s_skz P (gi 69 59).toInt (P 0 0).toNat 0 (s_en (gi 69 59).toInt Z)) := s_skz_ok hO1
                                                            have mo2 := (y2.mo hO2.1 hm0).2
                                                            have e69c : gi105 69 69 = gi 69 69 := by rw [(fc 69 69 (by decide) rfl).1]; exact e69
                                                            have d44 : (gi105 69 44).toInt = (gi100 69 44).toInt := congrArg Int32.toInt (fc 69 44 (by decide) rfl).1
                                                            have d45 : (gi105 69 45).toInt = (gi100 69 45).toInt := congrArg Int32.toInt (fc 69 45 (by decide) rfl).1
                                                            have d59 : (gi105 69 59).toInt = (gi100 69 59).toInt := congrArg Int32.toInt (fc 69 59 (by decide) rfl).1
                                                            have hz0 : (s_skz P (gi 69 59).toInt (P 0 0).toNat 0 (s_en (gi 69 59).toInt Z)) 1 = 0 := by by_cases hz : (s_skz P (gi 69 59).toInt (P 0 0).toNat 0 (s_en (gi 69 59).toInt Z)) 1 = 0; exact hz; exact absurd (mo2.mpr hz) (by omega)
                                                            have fb := t_F_X hX91_100
                                                            have Tb := hP.eq (fb 69 44 (by decide) rfl).1 (fb 69 45 (by decide) rfl).1 (t_F_nc fb rfl (by decide)) (t_F_nc fb rfl (by decide)) (t_F_nc fb rfl (by decide)) (t_F_nc fb rfl (by decide))
                                                            have Ib := hJ.eq (t_F_nc fb rfl (by decide))
                                                            have mb := congrArg Int32.toInt (fb 69 59 (by decide) rfl).1
                                                            have c44b := congrArg Int32.toInt (fb 69 44 (by decide) rfl).1
                                                            have c45b := congrArg Int32.toInt (fb 69 45 (by decide) rfl).1
                                                            have hMA := t_MA_of Tb s2 (by rw [mb]; exact y2) hO2 (by omega) (by omega)
                                                            rw [mb] at hMA
                                                            have ha : w115.toInt = s_ac (s_FA P (gi 69 59).toInt (s_skz P (gi 69 59).toInt (P 0 0).toNat 0 (s_en (gi 69 59).toInt Z))) R + 15 := q115 _ R hMA (by rw [t_F_nc fb rfl (by decide)]; exact hQ) hcr
                                                            have fd := t_F_X hC115
                                                            have y3 : t_MZ (gi 69 59).toInt (s_skz P (gi 69 59).toInt (P 0 0).toNat 0 (s_en (gi 69 59).toInt Z)) gi115 := y2.fr (fun j a b c => by rcases (show j = 60 ∨ j = 61 ∨ j = 62 ∨ j = 63 ∨ j = 65 ∨ j = 66 ∨ j = 67 by omega) with rfl | rfl | rfl | rfl | rfl | rfl | rfl <;> exact (fd 69 _ (by decide) rfl).1)
                                                            have s3 : t_YS (P 0 0).toNat (s_skz P (gi 69 59).toInt (P 0 0).toNat 0 (s_en (gi 69 59).toInt Z)) gi115 := s2.fr (fd 69 64 (by decide) rfl).1 (t_F_nc fd rfl (by decide)) (t_F_nc fd rfl (by decide))
                                                            have e69d : gi115 69 69 = gi 69 69 := by rw [(fd 69 69 (by decide) rfl).1]; exact e69c
                                                            have o60 := y3.1.1
                                                            have o0 := hO2.1
                                                            rw [s_ob_n (A := (fun F => s_ac F R)) (P := P) (m := (gi 69 59).toInt) (Z := (s_skz P (gi 69 59).toInt (P 0 0).toNat 0 (s_en (gi 69 59).toInt Z))) (by show ¬ ((_ ∧ s_ac _ R = 1) ∨ (_ ∧ s_ac _ R = 0)); omega)]
                                                            exact ⟨hnd, s3, y3, e69d, by rw [(fd 69 64 (by decide) rfl).1]; exact f2⟩))
        · have r159 : w115.toInt ≠ 15 := fun e => h116 (Int32.toInt_inj.mp (e.trans (by decide : (15:Int) = (15 : Int32).toInt)))
          refine ev_loc f_X12_minuteGoes (nx := 110) rfl rfl rfl rfl ?_
          refine ev_bp f_X12_minuteGoes (nx := 112) (v := 16) rfl (by decide) rfl ?_
          refine ev_if f_X12_minuteGoes (t1 := 115) (t2 := 160) rfl rfl rfl (fun h160 => ?_) (fun h160 => ?_)
          · have u161 : w115.toInt ≤ 16 := t_equ h160 (by decide : (16:Int32).toInt ≤ (16:Int))
            have l162 : 16 ≤ w115.toInt := t_eql h160 (by decide : (16:Int) ≤ (16:Int32).toInt)
            refine ev_loc f_X12_minuteGoes (nx := 116) rfl rfl rfl rfl ?_
            refine ev_getI f_X12_minuteGoes (nx := 119) rfl (hI.wf.s rfl) rfl rfl rfl ?_
            refine ev_ic f_X12_minuteGoes (nx := 120) (v := 1) rfl (by decide) rfl ?_
            refine ev_if f_X12_minuteGoes (t1 := 123) (t2 := 160) rfl rfl rfl (fun h163 => ?_) (fun h163 => ?_)
            · have u164 : (gi115 69 60).toInt ≤ 1 := t_equ h163 (by decide : (1:Int32).toInt ≤ (1:Int))
              have l165 : 1 ≤ (gi115 69 60).toInt := t_eql h163 (by decide : (1:Int) ≤ (1:Int32).toInt)
              have hX123_100 := hX
              refine ev_loc f_X12_minuteGoes (nx := 124) rfl rfl rfl rfl ?_
              refine ev_loc f_X12_minuteGoes (nx := 125) rfl rfl rfl rfl ?_
              refine ev_gvI f_X12_minuteGoes (nx := 128) (w := (gi100 69 59)) rfl (hI.wf.s rfl) rfl rfl ((hC115.1 69 59 rfl).1.trans ((hC105.1 69 59 rfl).1.trans rfl)) rfl ?_
              refine ev_loc f_X12_minuteGoes (nx := 129) rfl rfl rfl rfl ?_
              refine ev_loc f_X12_minuteGoes (nx := 130) rfl rfl rfl rfl ?_
              refine ev_gvI f_X12_minuteGoes (nx := 133) (w := (gi100 69 59)) rfl (hI.wf.s rfl) rfl rfl ((hC115.1 69 59 rfl).1.trans ((hC105.1 69 59 rfl).1.trans rfl)) rfl ?_
              refine ev_loc f_X12_minuteGoes (nx := 134) rfl rfl rfl rfl ?_
              refine ev_getR f_X12_minuteGoes (nx := 137) rfl (hI.wf.s rfl) rfl rfl (hI.wf.r rfl) rfl rfl ?_
              refine ev_ic f_X12_minuteGoes (nx := 138) (v := 4) rfl (by decide) rfl ?_
              refine ev_ialdv f_X12_minuteGoes (nx := 139) (w := (gi100 70 4)) rfl (hI.wf.s rfl) (by decide) (rfl : (4 : Int32).toNatClampNeg = 4) (by decide) ((hC115.1 70 4 rfl).1.trans ((hC105.1 70 4 rfl).1.trans rfl)) rfl ?_
              refine ev_inV3 f_X12_minuteGoes (nx := 142) (lo2 := [(0, .ref 69), (1, .int (gi100 69 59)), (2, .int (gi100 70 4))]) rfl rfl rfl rfl f_X12_turnTime (hI.wf.s rfl) rfl rfl rfl rfl rfl ?_
              refine ev_loc f_X12_turnTime (nx := 1) rfl rfl rfl rfl ?_
              refine ev_loc f_X12_turnTime (nx := 2) rfl rfl rfl rfl ?_
              refine ev_getR f_X12_turnTime (nx := 5) rfl (hI.wf.s rfl) rfl rfl (hI.wf.r rfl) rfl rfl ?_
              refine ev_ic f_X12_turnTime (nx := 6) (v := 5) rfl (by decide) rfl ?_
              obtain ⟨l167, u167⟩ := hI.ab (by decide +kernel : t_abr 70 5 5 0 20 = true) (Nat.le_refl _) (Nat.le_refl _)
              refine ev_ialdv f_X12_turnTime (nx := 7) (w := (gi115 70 5)) rfl (hI.wf.s rfl) (by decide) (rfl : (5 : Int32).toNatClampNeg = 5) (by decide) rfl rfl ?_
              refine ev_if f_X12_turnTime (t1 := 30) (t2 := 10) rfl rfl rfl (fun h168 => ?_) (fun h168 => ?_)
              · have u169 : (gi115 70 5).toInt ≤ 0 := t_leu h168 (by decide : (0:Int32).toInt ≤ (0:Int))
                refine ev_ic f_X12_turnTime (nx := 31) (v := 0) rfl (by decide) rfl ?_
                refine ev_addC f_X12_turnTime (nx := 32) (c := 0) (l := 0) (u := 20) rfl (by decide) l104 u104 rfl rfl (by decide) (by decide) rfl (fun z170 e170 l170 u170 => ?_)
                refine ev_retK1 f_X12_turnTime rfl rfl rfl ?_
                refine ev_addR f_X12_minuteGoes (nx := 143) (l := 0) (u := 321) rfl l101 u101 l170 u170 rfl rfl (by decide) (by decide) rfl (fun z171 e171 l171 u171 => ?_)
                refine ev_putIT f_X12_minuteGoes (nx := 146) rfl (hI.wf.s rfl) rfl rfl rfl (hI.put0 (hI.wf.s rfl) rfl rfl) (hX.upI rfl) (fun g172 e172 hI hX => ?_)
                refine ev_loc f_X12_minuteGoes (nx := 147) rfl rfl rfl rfl ?_
                refine ev_alu f_X12_minuteGoes (nx := 148) rfl rfl rfl rfl ?_
                refine ev_getI f_X12_minuteGoes (nx := 151) rfl (hI.wf.s rfl) rfl rfl rfl ?_
                refine ev_ic f_X12_minuteGoes (nx := 152) (v := 1) rfl (by decide) rfl ?_
                refine ev_anyIE f_X12_minuteGoes (nx := 153) rfl rfl rfl rfl (fun z173 e173 => ?_)
                refine ev_putIT f_X12_minuteGoes (nx := 156) rfl (hI.wf.s rfl) rfl rfl rfl (hI.put0 (hI.wf.s rfl) rfl rfl) (hX.upI rfl) (fun g174 e174 hI hX => ?_)
                have hX156_100 := hX
                refine ev_loc f_X12_minuteGoes (nx := 157) rfl rfl rfl rfl ?_
                refine ev_qN f_X12_minuteGoes (nx := 160) (r := []) rfl rfl rfl rfl rfl rfl rfl (c_y_strikes hI ) rfl hX rfl (fun gi175 gl175 gr175 hI hX hC175 q175 => ?_)
                have ff176 : (g174 69 59).toInt = (gi100 69 59).toInt := congrArg Int32.toInt ((by rw [e174]; exact x_up2_off (Or.inr (by decide)) : g174 69 59 = g172 69 59).trans ((by rw [e172]; exact x_up2_off (Or.inr (by decide)) : g172 69 59 = gi115 69 59).trans ((hC115.1 69 59 rfl).1.trans ((hC105.1 69 59 rfl).1.trans rfl))))
                have q175 : (∀ (P : Nat → Nat → Int) (Z : Nat → Int) (q : Int), s_TP g174 q P → t_IJ (P 0 0).toNat g174 → t_YS (P 0 0).toNat Z g174 → t_MO (g174 69 59).toInt Z g174 → g174 69 67 = Int32.ofInt (Z 6) → t_YS (P 0 0).toNat (s_skz P (g174 69 59).toInt (P 0 0).toNat 0 Z) gi175 ∧ gi175 69 67 = Int32.ofInt ((s_skz P (g174 69 59).toInt (P 0 0).toNat 0 Z) 6) ∧ (gi175 69 64).toInt = ((s_f1 (s_skz P (g174 69 59).toInt (P 0 0).toNat 0 Z) (P 0 0).toNat 0 : Nat) : Int)) := q175
                obtain ⟨l177, u177⟩ := hI.b (hI.wf.s (k := 69) rfl) (t_bdK rfl : t_bd 11 64 = some (0, 6))
                refine ev_sub (lo := [(0, .ref 69)]) rfl (t_sc rfl t_sn) ?_
                exact L48 gi175 gl175 gr175  hI hX  (by have hq := ((funext (fun j => (hC175.1 70 j rfl).1) : gi175 70 = g174 70).trans ((by rw [e174]; exact x_up2_ne (by decide) : g174 70 = g172 70).trans ((by rw [e172]; exact x_up2_ne (by decide) : g172 70 = gi115 70).trans ((funext (fun j => (hC115.1 70 j rfl).1) : gi115 70 = gi105 70).trans ((funext (fun j => (hC105.1 70 j rfl).1) : gi105 70 = gi100 70)))))); rw [hq]; exact j100_0) (fun P Z R hP hJ hS hB hO hPO hPB hQ hcr => (by
                                                            have hm0 : 0 ≤ (gi 69 59).toInt := (hI0.b (hI0.wf.s (k := 69) rfl) (t_bdK rfl : t_bd 11 59 = some (0, 301))).1
                                                            have hm3 : (gi 69 59).toInt ≤ 301 := (hI0.b (hI0.wf.s (k := 69) rfl) (t_bdK rfl : t_bd 11 59 = some (0, 301))).2
                                                            have b44 := hI0.b (hI0.wf.s (k := 69) rfl) (t_bdK rfl : t_bd 11 44 = some (0, 6))
                                                            have b45 := hI0.b (hI0.wf.s (k := 69) rfl) (t_bdK rfl : t_bd 11 45 = some (0, 6))
                                                            have q0 : P 0 0 = ((t_S gi : Nat) : Int) := hP.1.1
                                                            have q1 : P 0 1 = ((t_C gi : Nat) : Int) := hP.1.2
                                                            have u0 : ((t_S gi : Nat) : Int) = (gi 69 44).toInt := by unfold t_S; omega
                                                            have u1 : ((t_C gi : Nat) : Int) = (gi 69 45).toInt := by unfold t_C; omega
                                                            have hO1 : s_okz P (s_en (gi 69 59).toInt Z) := s_en_ok hO hm3
                                                            have fa := t_F_X hX80_100
                                                            have Ta := hP.eq (fa 69 44 (by decide) rfl).1 (fa 69 45 (by decide) rfl).1 (t_F_nc fa rfl (by decide)) (t_F_nc fa rfl (by decide)) (t_F_nc fa rfl (by decide)) (t_F_nc fa rfl (by decide))
                                                            have Ia := hJ.eq (t_F_nc fa rfl (by decide))
                                                            have ma := congrArg Int32.toInt (fa 69 59 (by decide) rfl).1
                                                            have c44a := congrArg Int32.toInt (fa 69 44 (by decide) rfl).1
                                                            have c45a := congrArg Int32.toInt (fa 69 45 (by decide) rfl).1
                                                            obtain ⟨hnd, s1, y1, e69⟩ := j100_1 P Z R hP hJ hS hB hO hPO hPB hQ hcr
                                                            have mo1 := y1.mo hO1.1 hm0
                                                            have hq := q105 P (s_en (gi 69 59).toInt Z) _ Ta Ia s1 (by rw [ma]; exact mo1) y1.2.1.2
                                                            rw [ma] at hq
                                                            obtain ⟨s2, g67, f2⟩ := hq
                                                            have fc := t_F_X hC105
                                                            have y2 : t_MZ (gi 69 59).toInt (s_skz P (gi 69 59).toInt (P 0 0).toNat 0 (s_en (gi 69 59).toInt Z)) gi105 := y1.sk (fun j a b c => by rcases (show j = 60 ∨ j = 61 ∨ j = 62 ∨ j = 63 ∨ j = 65 ∨ j = 66 by omega) with rfl | rfl | rfl | rfl | rfl | rfl <;> exact (fc 69 _ (by decide) rfl).1) g67
                                                            have hO2 : s_okz P (s_skz P (gi 69 59).toInt (P 0 0).toNat 0 (s_en (gi 69 59).toInt Z)) := s_skz_ok hO1
                                                            have mo2 := (y2.mo hO2.1 hm0).2
                                                            have e69c : gi105 69 69 = gi 69 69 := by rw [(fc 69 69 (by decide) rfl).1]; exact e69
                                                            have d44 : (gi105 69 44).toInt = (gi100 69 44).toInt := congrArg Int32.toInt (fc 69 44 (by decide) rfl).1
                                                            have d45 : (gi105 69 45).toInt = (gi100 69 45).toInt := congrArg Int32.toInt (fc 69 45 (by decide) rfl).1
                                                            have d59 : (gi105 69 59).toInt = (gi100 69 59).toInt := congrArg Int32.toInt (fc 69 59 (by decide) rfl).1
                                                            have hz0 : (s_skz P (gi 69 59).toInt (P 0 0).toNat 0 (s_en (gi 69 59).toInt Z)) 1 = 0 := by by_cases hz : (s_skz P (gi 69 59).toInt (P 0 0).toNat 0 (s_en (gi 69 59).toInt Z)) 1 = 0; exact hz; exact absurd (mo2.mpr hz) (by omega)
                                                            have fb := t_F_X hX91_100
                                                            have Tb := hP.eq (fb 69 44 (by decide) rfl).1 (fb 69 45 (by decide) rfl).1 (t_F_nc fb rfl (by decide)) (t_F_nc fb rfl (by decide)) (t_F_nc fb rfl (by decide)) (t_F_nc fb rfl (by decide))
                                                            have Ib := hJ.eq (t_F_nc fb rfl (by decide))
                                                            have mb := congrArg Int32.toInt (fb 69 59 (by decide) rfl).1
                                                            have c44b := congrArg Int32.toInt (fb 69 44 (by decide) rfl).1
                                                            have c45b := congrArg Int32.toInt (fb 69 45 (by decide) rfl).1
                                                            have hMA := t_MA_of Tb s2 (by rw [mb]; exact y2) hO2 (by omega) (by omega)
                                                            rw [mb] at hMA
                                                            have ha : w115.toInt = s_ac (s_FA P (gi 69 59).toInt (s_skz P (gi 69 59).toInt (P 0 0).toNat 0 (s_en (gi 69 59).toInt Z))) R + 15 := q115 _ R hMA (by rw [t_F_nc fb rfl (by decide)]; exact hQ) hcr
                                                            have fd := t_F_X hC115
                                                            have y3 : t_MZ (gi 69 59).toInt (s_skz P (gi 69 59).toInt (P 0 0).toNat 0 (s_en (gi 69 59).toInt Z)) gi115 := y2.fr (fun j a b c => by rcases (show j = 60 ∨ j = 61 ∨ j = 62 ∨ j = 63 ∨ j = 65 ∨ j = 66 ∨ j = 67 by omega) with rfl | rfl | rfl | rfl | rfl | rfl | rfl <;> exact (fd 69 _ (by decide) rfl).1)
                                                            have s3 : t_YS (P 0 0).toNat (s_skz P (gi 69 59).toInt (P 0 0).toNat 0 (s_en (gi 69 59).toInt Z)) gi115 := s2.fr (fd 69 64 (by decide) rfl).1 (t_F_nc fd rfl (by decide)) (t_F_nc fd rfl (by decide))
                                                            have e69d : gi115 69 69 = gi 69 69 := by rw [(fd 69 69 (by decide) rfl).1]; exact e69c
                                                            have o60 := y3.1.1
                                                            have o0 := hO2.1
                                                            have fd2 := t_F_X hX123_100
                                                            have Td2 := hP.eq (fd2 69 44 (by decide) rfl).1 (fd2 69 45 (by decide) rfl).1 (t_F_nc fd2 rfl (by decide)) (t_F_nc fd2 rfl (by decide)) (t_F_nc fd2 rfl (by decide)) (t_F_nc fd2 rfl (by decide))
                                                            have Id2 := hJ.eq (t_F_nc fd2 rfl (by decide))
                                                            have md2 := congrArg Int32.toInt (fd2 69 59 (by decide) rfl).1
                                                            have c44d2 := congrArg Int32.toInt (fd2 69 44 (by decide) rfl).1
                                                            have c45d2 := congrArg Int32.toInt (fd2 69 45 (by decide) rfl).1
                                                            have h8 := Td2.2.2.2 (gi 69 59).toInt.toNat
                                                            have k704 : gi115 70 4 = gi 70 4 := congrFun (t_F_nc fd2 rfl (by decide)) 4
                                                            have z0_ : (0 : Int32).toInt = 0 := rfl
                                                            have k4i := congrArg Int32.toInt k704
                                                            have ka4 : (gi100 70 4).toInt = (gi 70 4).toInt := congrArg Int32.toInt (congrFun (t_F_nc fa rfl (by decide)) 4)
                                                            have htt : z170.toInt = P 8 (gi 69 59).toInt.toNat := by rw [h8]; unfold t_tt; split <;> omega
                                                            have pb8 := hPB.2.2.2 (gi 69 59).toInt.toNat
                                                            have po8 := (hPO.2.2 (gi 69 59).toInt.toNat).1
                                                            have bm := (hI0.b (hI0.wf.s (k := 69) rfl) (t_bdK rfl : t_bd 11 59 = some (0, 301))).2
                                                            have e61v : z171.toInt = (gi 69 59).toInt + P 8 (gi 69 59).toInt.toNat := (by rw [← htt]; omega)
                                                            have y4 : t_MZ (gi 69 59).toInt (s_z (s_z (s_z (s_skz P (gi 69 59).toInt (P 0 0).toNat 0 (s_en (gi 69 59).toInt Z)) 1 3) 2 ((gi 69 59).toInt + P 8 (gi 69 59).toInt.toNat)) 7 ((s_skz P (gi 69 59).toInt (P 0 0).toNat 0 (s_en (gi 69 59).toInt Z)) 7 + 1)) g174 := y3.tn hz0 (by omega) (by rw [e174, x_up2_off (Or.inr (by decide)), e172, x_up2_at]; exact e61v) (fun j a b c d => by rcases (show j = 60 ∨ j = 62 ∨ j = 63 ∨ j = 65 ∨ j = 66 ∨ j = 67 by omega) with rfl | rfl | rfl | rfl | rfl | rfl <;> rw [e174, x_up2_off (Or.inr (by decide)), e172, x_up2_off (Or.inr (by decide))])
                                                            have s4 : t_YS (P 0 0).toNat (s_z (s_z (s_z (s_skz P (gi 69 59).toInt (P 0 0).toNat 0 (s_en (gi 69 59).toInt Z)) 1 3) 2 ((gi 69 59).toInt + P 8 (gi 69 59).toInt.toNat)) 7 ((s_skz P (gi 69 59).toInt (P 0 0).toNat 0 (s_en (gi 69 59).toInt Z)) 7 + 1)) g174 := s3.tn (by rw [e174, x_up2_off (Or.inr (by decide)), e172, x_up2_off (Or.inr (by decide))]) (funext fun j => by rw [e174, x_up2_off (Or.inl (by decide)), e172, x_up2_off (Or.inl (by decide))]) (funext fun j => by rw [e174, x_up2_off (Or.inl (by decide)), e172, x_up2_off (Or.inl (by decide))])
                                                            have fe := t_F_X hX156_100
                                                            have Te := hP.eq (fe 69 44 (by decide) rfl).1 (fe 69 45 (by decide) rfl).1 (t_F_nc fe rfl (by decide)) (t_F_nc fe rfl (by decide)) (t_F_nc fe rfl (by decide)) (t_F_nc fe rfl (by decide))
                                                            have Ie := hJ.eq (t_F_nc fe rfl (by decide))
                                                            have me := congrArg Int32.toInt (fe 69 59 (by decide) rfl).1
                                                            have c44e := congrArg Int32.toInt (fe 69 44 (by decide) rfl).1
                                                            have c45e := congrArg Int32.toInt (fe 69 45 (by decide) rfl).1
                                                            have hO4 : s_okz P (s_z (s_z (s_z (s_skz P (gi 69 59).toInt (P 0 0).toNat 0 (s_en (gi 69 59).toInt Z)) 1 3) 2 ((gi 69 59).toInt + P 8 (gi 69 59).toInt.toNat)) 7 ((s_skz P (gi 69 59).toInt (P 0 0).toNat 0 (s_en (gi 69 59).toInt Z)) 7 + 1)) := s_tn_ok hO2 (by omega)
                                                            have hq4 := q175 P (s_z (s_z (s_z (s_skz P (gi 69 59).toInt (P 0 0).toNat 0 (s_en (gi 69 59).toInt Z)) 1 3) 2 ((gi 69 59).toInt + P 8 (gi 69 59).toInt.toNat)) 7 ((s_skz P (gi 69 59).toInt (P 0 0).toNat 0 (s_en (gi 69 59).toInt Z)) 7 + 1)) _ Te Ie s4 (by rw [me]; exact y4.mo hO4.1 hm0) y4.2.1.2
                                                            rw [me] at hq4
                                                            obtain ⟨s5, g5, f5⟩ := hq4
                                                            have ff := t_F_X hC175
                                                            rw [s_ob_y (A := (fun F => s_ac F R)) (P := P) (m := (gi 69 59).toInt) (Z := (s_skz P (gi 69 59).toInt (P 0 0).toNat 0 (s_en (gi 69 59).toInt Z))) hz0 (by show (_ ∧ s_ac _ R = 1) ∨ (_ ∧ s_ac _ R = 0); omega)]
                                                            exact ⟨hnd, s5, y4.sk (fun j a b c => by rcases (show j = 60 ∨ j = 61 ∨ j = 62 ∨ j = 63 ∨ j = 65 ∨ j = 66 by omega) with rfl | rfl | rfl | rfl | rfl | rfl <;> exact (ff 69 _ (by decide) rfl).1) g5, by rw [(ff 69 69 (by decide) rfl).1, e174, x_up2_off (Or.inr (by decide)), e172, x_up2_off (Or.inr (by decide))]; exact e69d, f5⟩))
              · have l178 : 1 ≤ (gi115 70 5).toInt := t_ltl (t_nle h168) (by decide : (0:Int) ≤ (0:Int32).toInt) rfl
                refine ev_loc f_X12_turnTime (nx := 11) rfl rfl rfl rfl ?_
                refine ev_loc f_X12_turnTime (nx := 12) rfl rfl rfl rfl ?_
                refine ev_getR f_X12_turnTime (nx := 15) rfl (hI.wf.s rfl) rfl rfl (hI.wf.r rfl) rfl rfl ?_
                refine ev_bp f_X12_turnTime (nx := 17) (v := 6) rfl (by decide) rfl ?_
                obtain ⟨l179, u179⟩ := hI.ab (by decide +kernel : t_abr 70 6 6 0 200 = true) (Nat.le_refl _) (Nat.le_refl _)
                refine ev_ialdv f_X12_turnTime (nx := 18) (w := (gi115 70 6)) rfl (hI.wf.s rfl) (by decide) (rfl : (6 : Int32).toNatClampNeg = 6) (by decide) rfl rfl ?_
                refine ev_if f_X12_turnTime (t1 := 30) (t2 := 21) rfl rfl rfl (fun h180 => ?_) (fun h180 => ?_)
                · have r181 : (gi100 69 59).toInt < (gi115 70 6).toInt := Int32.lt_iff_toInt_lt.mp h180
                  have u182 : (gi100 69 59).toInt ≤ 199 := t_ltu h180 u179 rfl
                  have l183 : 1 ≤ (gi115 70 6).toInt := t_ltl h180 l101 rfl
                  refine ev_ic f_X12_turnTime (nx := 31) (v := 0) rfl (by decide) rfl ?_
                  refine ev_addC f_X12_turnTime (nx := 32) (c := 0) (l := 0) (u := 20) rfl (by decide) l104 u104 rfl rfl (by decide) (by decide) rfl (fun z184 e184 l184 u184 => ?_)
                  refine ev_retK1 f_X12_turnTime rfl rfl rfl ?_
                  refine ev_addR f_X12_minuteGoes (nx := 143) (l := 0) (u := 219) rfl l101 u182 l184 u184 rfl rfl (by decide) (by decide) rfl (fun z185 e185 l185 u185 => ?_)
                  refine ev_putIT f_X12_minuteGoes (nx := 146) rfl (hI.wf.s rfl) rfl rfl rfl (hI.put0 (hI.wf.s rfl) rfl rfl) (hX.upI rfl) (fun g186 e186 hI hX => ?_)
                  refine ev_loc f_X12_minuteGoes (nx := 147) rfl rfl rfl rfl ?_
                  refine ev_alu f_X12_minuteGoes (nx := 148) rfl rfl rfl rfl ?_
                  refine ev_getI f_X12_minuteGoes (nx := 151) rfl (hI.wf.s rfl) rfl rfl rfl ?_
                  refine ev_ic f_X12_minuteGoes (nx := 152) (v := 1) rfl (by decide) rfl ?_
                  refine ev_anyIE f_X12_minuteGoes (nx := 153) rfl rfl rfl rfl (fun z187 e187 => ?_)
                  refine ev_putIT f_X12_minuteGoes (nx := 156) rfl (hI.wf.s rfl) rfl rfl rfl (hI.put0 (hI.wf.s rfl) rfl rfl) (hX.upI rfl) (fun g188 e188 hI hX => ?_)
                  have hX156_100 := hX
                  refine ev_loc f_X12_minuteGoes (nx := 157) rfl rfl rfl rfl ?_
                  refine ev_qN f_X12_minuteGoes (nx := 160) (r := []) rfl rfl rfl rfl rfl rfl rfl (c_y_strikes hI ) rfl hX rfl (fun gi189 gl189 gr189 hI hX hC189 q189 => ?_)
                  have ff190 : (g188 69 59).toInt = (gi100 69 59).toInt := congrArg Int32.toInt ((by rw [e188]; exact x_up2_off (Or.inr (by decide)) : g188 69 59 = g186 69 59).trans ((by rw [e186]; exact x_up2_off (Or.inr (by decide)) : g186 69 59 = gi115 69 59).trans ((hC115.1 69 59 rfl).1.trans ((hC105.1 69 59 rfl).1.trans rfl))))
                  have q189 : (∀ (P : Nat → Nat → Int) (Z : Nat → Int) (q : Int), s_TP g188 q P → t_IJ (P 0 0).toNat g188 → t_YS (P 0 0).toNat Z g188 → t_MO (g188 69 59).toInt Z g188 → g188 69 67 = Int32.ofInt (Z 6) → t_YS (P 0 0).toNat (s_skz P (g188 69 59).toInt (P 0 0).toNat 0 Z) gi189 ∧ gi189 69 67 = Int32.ofInt ((s_skz P (g188 69 59).toInt (P 0 0).toNat 0 Z) 6) ∧ (gi189 69 64).toInt = ((s_f1 (s_skz P (g188 69 59).toInt (P 0 0).toNat 0 Z) (P 0 0).toNat 0 : Nat) : Int)) := q189
                  obtain ⟨l191, u191⟩ := hI.b (hI.wf.s (k := 69) rfl) (t_bdK rfl : t_bd 11 64 = some (0, 6))
                  refine ev_sub (lo := [(0, .ref 69)]) rfl (t_sc rfl t_sn) ?_
                  exact L48 gi189 gl189 gr189  hI hX  (by have hq := ((funext (fun j => (hC189.1 70 j rfl).1) : gi189 70 = g188 70).trans ((by rw [e188]; exact x_up2_ne (by decide) : g188 70 = g186 70).trans ((by rw [e186]; exact x_up2_ne (by decide) : g186 70 = gi115 70).trans ((funext (fun j => (hC115.1 70 j rfl).1) : gi115 70 = gi105 70).trans ((funext (fun j => (hC105.1 70 j rfl).1) : gi105 70 = gi100 70)))))); rw [hq]; exact j100_0) (fun P Z R hP hJ hS hB hO hPO hPB hQ hcr => (by
                                                            have hm0 : 0 ≤ (gi 69 59).toInt := (hI0.b (hI0.wf.s (k := 69) rfl) (t_bdK rfl : t_bd 11 59 = some (0, 301))).1
                                                            have hm3 : (gi 69 59).toInt ≤ 301 := (hI0.b (hI0.wf.s (k := 69) rfl) (t_bdK rfl : t_bd 11 59 = some (0, 301))).2
                                                            have b44 := hI0.b (hI0.wf.s (k := 69) rfl) (t_bdK rfl : t_bd 11 44 = some (0, 6))
                                                            have b45 := hI0.b (hI0.wf.s (k := 69) rfl) (t_bdK rfl : t_bd 11 45 = some (0, 6))
                                                            have q0 : P 0 0 = ((t_S gi : Nat) : Int) := hP.1.1
                                                            have q1 : P 0 1 = ((t_C gi : Nat) : Int) := hP.1.2
                                                            have u0 : ((t_S gi : Nat) : Int) = (gi 69 44).toInt := by unfold t_S; omega
                                                            have u1 : ((t_C gi : Nat) : Int) = (gi 69 45).toInt := by unfold t_C; omega
                                                            have hO1 : s_okz P (s_en (gi 69 59).toInt Z) := s_en_ok hO hm3
                                                            have fa := t_F_X hX80_100
                                                            have Ta := hP.eq (fa 69 44 (by decide) rfl).1 (fa 69 45 (by decide) rfl).1 (t_F_nc fa rfl (by decide)) (t_F_nc fa rfl (by decide)) (t_F_nc fa rfl (by decide)) (t_F_nc fa rfl (by decide))
                                                            have Ia := hJ.eq (t_F_nc fa rfl (by decide))
                                                            have ma := congrArg Int32.toInt (fa 69 59 (by decide) rfl).1
                                                            have c44a := congrArg Int32.toInt (fa 69 44 (by decide) rfl).1
                                                            have c45a := congrArg Int32.toInt (fa 69 45 (by decide) rfl).1
                                                            obtain ⟨hnd, s1, y1, e69⟩ := j100_1 P Z R hP hJ hS hB hO hPO hPB hQ hcr
                                                            have mo1 := y1.mo hO1.1 hm0
                                                            have hq := q105 P (s_en (gi 69 59).toInt Z) _ Ta Ia s1 (by rw [ma]; exact mo1) y1.2.1.2
                                                            rw [ma] at hq
                                                            obtain ⟨s2, g67, f2⟩ := hq
                                                            have fc := t_F_X hC105
                                                            have y2 : t_MZ (gi 69 59).toInt (s_skz P (gi 69 59).toInt (P 0 0).toNat 0 (s_en (gi 69 59).toInt Z)) gi105 := y1.sk (fun j a b c => by rcases (show j = 60 ∨ j = 61 ∨ j = 62 ∨ j = 63 ∨ j = 65 ∨ j = 66 by omega) with rfl | rfl | rfl | rfl | rfl | rfl <;> exact (fc 69 _ (by decide) rfl).1) g67
                                                            have hO2 : s_okz P (s_skz P (gi 69 59).toInt (P 0 0).toNat 0 (s_en (gi 69 59).toInt Z)) := s_skz_ok hO1
                                                            have mo2 := (y2.mo hO2.1 hm0).2
                                                            have e69c : gi105 69 69 = gi 69 69 := by rw [(fc 69 69 (by decide) rfl).1]; exact e69
                                                            have d44 : (gi105 69 44).toInt = (gi100 69 44).toInt := congrArg Int32.toInt (fc 69 44 (by decide) rfl).1
                                                            have d45 : (gi105 69 45).toInt = (gi100 69 45).toInt := congrArg Int32.toInt (fc 69 45 (by decide) rfl).1
                                                            have d59 : (gi105 69 59).toInt = (gi100 69 59).toInt := congrArg Int32.toInt (fc 69 59 (by decide) rfl).1
                                                            have hz0 : (s_skz P (gi 69 59).toInt (P 0 0).toNat 0 (s_en (gi 69 59).toInt Z)) 1 = 0 := by by_cases hz : (s_skz P (gi 69 59).toInt (P 0 0).toNat 0 (s_en (gi 69 59).toInt Z)) 1 = 0; exact hz; exact absurd (mo2.mpr hz) (by omega)
                                                            have fb := t_F_X hX91_100
                                                            have Tb := hP.eq (fb 69 44 (by decide) rfl).1 (fb 69 45 (by decide) rfl).1 (t_F_nc fb rfl (by decide)) (t_F_nc fb rfl (by decide)) (t_F_nc fb rfl (by decide)) (t_F_nc fb rfl (by decide))
                                                            have Ib := hJ.eq (t_F_nc fb rfl (by decide))
                                                            have mb := congrArg Int32.toInt (fb 69 59 (by decide) rfl).1
                                                            have c44b := congrArg Int32.toInt (fb 69 44 (by decide) rfl).1
                                                            have c45b := congrArg Int32.toInt (fb 69 45 (by decide) rfl).1
                                                            have hMA := t_MA_of Tb s2 (by rw [mb]; exact y2) hO2 (by omega) (by omega)
                                                            rw [mb] at hMA
                                                            have ha : w115.toInt = s_ac (s_FA P (gi 69 59).toInt (s_skz P (gi 69 59).toInt (P 0 0).toNat 0 (s_en (gi 69 59).toInt Z))) R + 15 := q115 _ R hMA (by rw [t_F_nc fb rfl (by decide)]; exact hQ) hcr
                                                            have fd := t_F_X hC115
                                                            have y3 : t_MZ (gi 69 59).toInt (s_skz P (gi 69 59).toInt (P 0 0).toNat 0 (s_en (gi 69 59).toInt Z)) gi115 := y2.fr (fun j a b c => by rcases (show j = 60 ∨ j = 61 ∨ j = 62 ∨ j = 63 ∨ j = 65 ∨ j = 66 ∨ j = 67 by omega) with rfl | rfl | rfl | rfl | rfl | rfl | rfl <;> exact (fd 69 _ (by decide) rfl).1)
                                                            have s3 : t_YS (P 0 0).toNat (s_skz P (gi 69 59).toInt (P 0 0).toNat 0 (s_en (gi 69 59).toInt Z)) gi115 := s2.fr (fd 69 64 (by decide) rfl).1 (t_F_nc fd rfl (by decide)) (t_F_nc fd rfl (by decide))
                                                            have e69d : gi115 69 69 = gi 69 69 := by rw [(fd 69 69 (by decide) rfl).1]; exact e69c
                                                            have o60 := y3.1.1
                                                            have o0 := hO2.1
                                                            have fd2 := t_F_X hX123_100
                                                            have Td2 := hP.eq (fd2 69 44 (by decide) rfl).1 (fd2 69 45 (by decide) rfl).1 (t_F_nc fd2 rfl (by decide)) (t_F_nc fd2 rfl (by decide)) (t_F_nc fd2 rfl (by decide)) (t_F_nc fd2 rfl (by decide))
                                                            have Id2 := hJ.eq (t_F_nc fd2 rfl (by decide))
                                                            have md2 := congrArg Int32.toInt (fd2 69 59 (by decide) rfl).1
                                                            have c44d2 := congrArg Int32.toInt (fd2 69 44 (by decide) rfl).1
                                                            have c45d2 := congrArg Int32.toInt (fd2 69 45 (by decide) rfl).1
                                                            have h8 := Td2.2.2.2 (gi 69 59).toInt.toNat
                                                            have k704 : gi115 70 4 = gi 70 4 := congrFun (t_F_nc fd2 rfl (by decide)) 4
                                                            have z0_ : (0 : Int32).toInt = 0 := rfl
                                                            have k4i := congrArg Int32.toInt k704
                                                            have ka4 : (gi100 70 4).toInt = (gi 70 4).toInt := congrArg Int32.toInt (congrFun (t_F_nc fa rfl (by decide)) 4)
                                                            have htt : z184.toInt = P 8 (gi 69 59).toInt.toNat := by rw [h8]; unfold t_tt; split <;> omega
                                                            have pb8 := hPB.2.2.2 (gi 69 59).toInt.toNat
                                                            have po8 := (hPO.2.2 (gi 69 59).toInt.toNat).1
                                                            have bm := (hI0.b (hI0.wf.s (k := 69) rfl) (t_bdK rfl : t_bd 11 59 = some (0, 301))).2
                                                            have e61v : z185.toInt = (gi 69 59).toInt + P 8 (gi 69 59).toInt.toNat := (by rw [← htt]; omega)
                                                            have y4 : t_MZ (gi 69 59).toInt (s_z (s_z (s_z (s_skz P (gi 69 59).toInt (P 0 0).toNat 0 (s_en (gi 69 59).toInt Z)) 1 3) 2 ((gi 69 59).toInt + P 8 (gi 69 59).toInt.toNat)) 7 ((s_skz P (gi 69 59).toInt (P 0 0).toNat 0 (s_en (gi 69 59).toInt Z)) 7 + 1)) g188 := y3.tn hz0 (by omega) (by rw [e188, x_up2_off (Or.inr (by decide)), e186, x_up2_at]; exact e61v) (fun j a b c d => by rcases (show j = 60 ∨ j = 62 ∨ j = 63 ∨ j = 65 ∨ j = 66 ∨ j = 67 by omega) with rfl | rfl | rfl | rfl | rfl | rfl <;> rw [e188, x_up2_off (Or.inr (by decide)), e186, x_up2_off (Or.inr (by decide))])
                                                            have s4 : t_YS (P 0 0).toNat (s_z (s_z (s_z (s_skz P (gi 69 59).toInt (P 0 0).toNat 0 (s_en (gi 69 59).toInt Z)) 1 3) 2 ((gi 69 59).toInt + P 8 (gi 69 59).toInt.toNat)) 7 ((s_skz P (gi 69 59).toInt (P 0 0).toNat 0 (s_en (gi 69 59).toInt Z)) 7 + 1)) g188 := s3.tn (by rw [e188, x_up2_off (Or.inr (by decide)), e186, x_up2_off (Or.inr (by decide))]) (funext fun j => by rw [e188, x_up2_off (Or.inl (by decide)), e186, x_up2_off (Or.inl (by decide))]) (funext fun j => by rw [e188, x_up2_off (Or.inl (by decide)), e186, x_up2_off (Or.inl (by decide))])
                                                            have fe := t_F_X hX156_100
                                                            have Te := hP.eq (fe 69 44 (by decide) rfl).1 (fe 69 45 (by decide) rfl).1 (t_F_nc fe rfl (by decide)) (t_F_nc fe rfl (by decide)) (t_F_nc fe rfl (by decide)) (t_F_nc fe rfl (by decide))
                                                            have Ie := hJ.eq (t_F_nc fe rfl (by decide))
                                                            have me := congrArg Int32.toInt (fe 69 59 (by decide) rfl).1
                                                            have c44e := congrArg Int32.toInt (fe 69 44 (by decide) rfl).1
                                                            have c45e := congrArg Int32.toInt (fe 69 45 (by decide) rfl).1
                                                            have hO4 : s_okz P (s_z (s_z (s_z (s_skz P (gi 69 59).toInt (P 0 0).toNat 0 (s_en (gi 69 59).toInt Z)) 1 3) 2 ((gi 69 59).toInt + P 8 (gi 69 59).toInt.toNat)) 7 ((s_skz P (gi 69 59).toInt (P 0 0).toNat 0 (s_en (gi 69 59).toInt Z)) 7 + 1)) := s_tn_ok hO2 (by omega)
                                                            have hq4 := q189 P (s_z (s_z (s_z (s_skz P (gi 69 59).toInt (P 0 0).toNat 0 (s_en (gi 69 59).toInt Z)) 1 3) 2 ((gi 69 59).toInt + P 8 (gi 69 59).toInt.toNat)) 7 ((s_skz P (gi 69 59).toInt (P 0 0).toNat 0 (s_en (gi 69 59).toInt Z)) 7 + 1)) _ Te Ie s4 (by rw [me]; exact y4.mo hO4.1 hm0) y4.2.1.2
                                                            rw [me] at hq4
                                                            obtain ⟨s5, g5, f5⟩ := hq4
                                                            have ff := t_F_X hC189
                                                            rw [s_ob_y (A := (fun F => s_ac F R)) (P := P) (m := (gi 69 59).toInt) (Z := (s_skz P (gi 69 59).toInt (P 0 0).toNat 0 (s_en (gi 69 59).toInt Z))) hz0 (by show (_ ∧ s_ac _ R = 1) ∨ (_ ∧ s_ac _ R = 0); omega)]
                                                            exact ⟨hnd, s5, y4.sk (fun j a b c => by rcases (show j = 60 ∨ j = 61 ∨ j = 62 ∨ j = 63 ∨ j = 65 ∨ j = 66 by omega) with rfl | rfl | rfl | rfl | rfl | rfl <;> exact (ff 69 _ (by decide) rfl).1) g5, by rw [(ff 69 69 (by decide) rfl).1, e188, x_up2_off (Or.inr (by decide)), e186, x_up2_off (Or.inr (by decide))]; exact e69d, f5⟩))
                · have r192 : (gi115 70 6).toInt ≤ (gi100 69 59).toInt := Int32.le_iff_toInt_le.mp (t_nlt h180)
                  refine ev_loc f_X12_turnTime (nx := 22) rfl rfl rfl rfl ?_
                  refine ev_getR f_X12_turnTime (nx := 25) rfl (hI.wf.s rfl) rfl rfl (hI.wf.r rfl) rfl rfl ?_
                  refine ev_ic f_X12_turnTime (nx := 26) (v := 5) rfl (by decide) rfl ?_
                  refine ev_ialdv f_X12_turnTime (nx := 27) (w := (gi115 70 5)) rfl (hI.wf.s rfl) (by decide) (rfl : (5 : Int32).toNatClampNeg = 5) (by decide) rfl rfl ?_
                  refine ev_jmp f_X12_turnTime (nx := 31) rfl rfl rfl ?_
                  refine ev_addR f_X12_turnTime (nx := 32) (l := 1) (u := 40) rfl l104 u104 l178 u167 rfl rfl (by decide) (by decide) rfl (fun z194 e194 l194 u194 => ?_)
                  refine ev_retK1 f_X12_turnTime rfl rfl rfl ?_
                  refine ev_addR f_X12_minuteGoes (nx := 143) (l := 1) (u := 341) rfl l101 u101 l194 u194 rfl rfl (by decide) (by decide) rfl (fun z195 e195 l195 u195 => ?_)
                  refine ev_putIT f_X12_minuteGoes (nx := 146) rfl (hI.wf.s rfl) rfl rfl rfl (hI.put0 (hI.wf.s rfl) rfl rfl) (hX.upI rfl) (fun g196 e196 hI hX => ?_)
                  refine ev_loc f_X12_minuteGoes (nx := 147) rfl rfl rfl rfl ?_
                  refine ev_alu f_X12_minuteGoes (nx := 148) rfl rfl rfl rfl ?_
                  refine ev_getI f_X12_minuteGoes (nx := 151) rfl (hI.wf.s rfl) rfl rfl rfl ?_
                  refine ev_ic f_X12_minuteGoes (nx := 152) (v := 1) rfl (by decide) rfl ?_
                  refine ev_anyIE f_X12_minuteGoes (nx := 153) rfl rfl rfl rfl (fun z197 e197 => ?_)
                  refine ev_putIT f_X12_minuteGoes (nx := 156) rfl (hI.wf.s rfl) rfl rfl rfl (hI.put0 (hI.wf.s rfl) rfl rfl) (hX.upI rfl) (fun g198 e198 hI hX => ?_)
                  have hX156_100 := hX
                  refine ev_loc f_X12_minuteGoes (nx := 157) rfl rfl rfl rfl ?_
                  refine ev_qN f_X12_minuteGoes (nx := 160) (r := []) rfl rfl rfl rfl rfl rfl rfl (c_y_strikes hI ) rfl hX rfl (fun gi199 gl199 gr199 hI hX hC199 q199 => ?_)
                  have ff200 : (g198 69 59).toInt = (gi100 69 59).toInt := congrArg Int32.toInt ((by rw [e198]; exact x_up2_off (Or.inr (by decide)) : g198 69 59 = g196 69 59).trans ((by rw [e196]; exact x_up2_off (Or.inr (by decide)) : g196 69 59 = gi115 69 59).trans ((hC115.1 69 59 rfl).1.trans ((hC105.1 69 59 rfl).1.trans rfl))))
                  have q199 : (∀ (P : Nat → Nat → Int) (Z : Nat → Int) (q : Int), s_TP g198 q P → t_IJ (P 0 0).toNat g198 → t_YS (P 0 0).toNat Z g198 → t_MO (g198 69 59).toInt Z g198 → g198 69 67 = Int32.ofInt (Z 6) → t_YS (P 0 0).toNat (s_skz P (g198 69 59).toInt (P 0 0).toNat 0 Z) gi199 ∧ gi199 69 67 = Int32.ofInt ((s_skz P (g198 69 59).toInt (P 0 0).toNat 0 Z) 6) ∧ (gi199 69 64).toInt = ((s_f1 (s_skz P (g198 69 59).toInt (P 0 0).toNat 0 Z) (P 0 0).toNat 0 : Nat) : Int)) := q199
                  obtain ⟨l201, u201⟩ := hI.b (hI.wf.s (k := 69) rfl) (t_bdK rfl : t_bd 11 64 = some (0, 6))
                  refine ev_sub (lo := [(0, .ref 69)]) rfl (t_sc rfl t_sn) ?_
                  exact L48 gi199 gl199 gr199  hI hX  (by have hq := ((funext (fun j => (hC199.1 70 j rfl).1) : gi199 70 = g198 70).trans ((by rw [e198]; exact x_up2_ne (by decide) : g198 70 = g196 70).trans ((by rw [e196]; exact x_up2_ne (by decide) : g196 70 = gi115 70).trans ((funext (fun j => (hC115.1 70 j rfl).1) : gi115 70 = gi105 70).trans ((funext (fun j => (hC105.1 70 j rfl).1) : gi105 70 = gi100 70)))))); rw [hq]; exact j100_0) (fun P Z R hP hJ hS hB hO hPO hPB hQ hcr => (by
                                                            have hm0 : 0 ≤ (gi 69 59).toInt := (hI0.b (hI0.wf.s (k := 69) rfl) (t_bdK rfl : t_bd 11 59 = some (0, 301))).1
                                                            have hm3 : (gi 69 59).toInt ≤ 301 := (hI0.b (hI0.wf.s (k := 69) rfl) (t_bdK rfl : t_bd 11 59 = some (0, 301))).2
                                                            have b44 := hI0.b (hI0.wf.s (k := 69) rfl) (t_bdK rfl : t_bd 11 44 = some (0, 6))
                                                            have b45 := hI0.b (hI0.wf.s (k := 69) rfl) (t_bdK rfl : t_bd 11 45 = some (0, 6))
                                                            have q0 : P 0 0 = ((t_S gi : Nat) : Int) := hP.1.1
                                                            have q1 : P 0 1 = ((t_C gi : Nat) : Int) := hP.1.2
                                                            have u0 : ((t_S gi : Nat) : Int) = (gi 69 44).toInt := by unfold t_S; omega
                                                            have u1 : ((t_C gi : Nat) : Int) = (gi 69 45).toInt := by unfold t_C; omega
                                                            have hO1 : s_okz P (s_en (gi 69 59).toInt Z) := s_en_ok hO hm3
                                                            have fa := t_F_X hX80_100
                                                            have Ta := hP.eq (fa 69 44 (by decide) rfl).1 (fa 69 45 (by decide) rfl).1 (t_F_nc fa rfl (by decide)) (t_F_nc fa rfl (by decide)) (t_F_nc fa rfl (by decide)) (t_F_nc fa rfl (by decide))
                                                            have Ia := hJ.eq (t_F_nc fa rfl (by decide))
                                                            have ma := congrArg Int32.toInt (fa 69 59 (by decide) rfl).1
                                                            have c44a := congrArg Int32.toInt (fa 69 44 (by decide) rfl).1
                                                            have c45a := congrArg Int32.toInt (fa 69 45 (by decide) rfl).1
                                                            obtain ⟨hnd, s1, y1, e69⟩ := j100_1 P Z R hP hJ hS hB hO hPO hPB hQ hcr
                                                            have mo1 := y1.mo hO1.1 hm0
                                                            have hq := q105 P (s_en (gi 69 59).toInt Z) _ Ta Ia s1 (by rw [ma]; exact mo1) y1.2.1.2
                                                            rw [ma] at hq
                                                            obtain ⟨s2, g67, f2⟩ := hq
                                                            have fc := t_F_X hC105
                                                            have y2 : t_MZ (gi 69 59).toInt (s_skz P (gi 69 59).toInt (P 0 0).toNat 0 (s_en (gi 69 59).toInt Z)) gi105 := y1.sk (fun j a b c => by rcases (show j = 60 ∨ j = 61 ∨ j = 62 ∨ j = 63 ∨ j = 65 ∨ j = 66 by omega) with rfl | rfl | rfl | rfl | rfl | rfl <;> exact (fc 69 _ (by decide) rfl).1) g67
                                                            have hO2 : s_okz P (s_skz P (gi 69 59).toInt (P 0 0).toNat 0 (s_en (gi 69 59).toInt Z)) := s_skz_ok hO1
                                                            have mo2 := (y2.mo hO2.1 hm0).2
                                                            have e69c : gi105 69 69 = gi 69 69 := by rw [(fc 69 69 (by decide) rfl).1]; exact e69
                                                            have d44 : (gi105 69 44).toInt = (gi100 69 44).toInt := congrArg Int32.toInt (fc 69 44 (by decide) rfl).1
                                                            have d45 : (gi105 69 45).toInt = (gi100 69 45).toInt := congrArg Int32.toInt (fc 69 45 (by decide) rfl).1
                                                            have d59 : (gi105 69 59).toInt = (gi100 69 59).toInt := congrArg Int32.toInt (fc 69 59 (by decide) rfl).1
                                                            have hz0 : (s_skz P (gi 69 59).toInt (P 0 0).toNat 0 (s_en (gi 69 59).toInt Z)) 1 = 0 := by by_cases hz : (s_skz P (gi 69 59).toInt (P 0 0).toNat 0 (s_en (gi 69 59).toInt Z)) 1 = 0; exact hz; exact absurd (mo2.mpr hz) (by omega)
                                                            have fb := t_F_X hX91_100
                                                            have Tb := hP.eq (fb 69 44 (by decide) rfl).1 (fb 69 45 (by decide) rfl).1 (t_F_nc fb rfl (by decide)) (t_F_nc fb rfl (by decide)) (t_F_nc fb rfl (by decide)) (t_F_nc fb rfl (by decide))
                                                            have Ib := hJ.eq (t_F_nc fb rfl (by decide))
                                                            have mb := congrArg Int32.toInt (fb 69 59 (by decide) rfl).1
                                                            have c44b := congrArg Int32.toInt (fb 69 44 (by decide) rfl).1
                                                            have c45b := congrArg Int32.toInt (fb 69 45 (by decide) rfl).1
                                                            have hMA := t_MA_of Tb s2 (by rw [mb]; exact y2) hO2 (by omega) (by omega)
                                                            rw [mb] at hMA
                                                            have ha : w115.toInt = s_ac (s_FA P (gi 69 59).toInt (s_skz P (gi 69 59).toInt (P 0 0).toNat 0 (s_en (gi 69 59).toInt Z))) R + 15 := q115 _ R hMA (by rw [t_F_nc fb rfl (by decide)]; exact hQ) hcr
                                                            have fd := t_F_X hC115
                                                            have y3 : t_MZ (gi 69 59).toInt (s_skz P (gi 69 59).toInt (P 0 0).toNat 0 (s_en (gi 69 59).toInt Z)) gi115 := y2.fr (fun j a b c => by rcases (show j = 60 ∨ j = 61 ∨ j = 62 ∨ j = 63 ∨ j = 65 ∨ j = 66 ∨ j = 67 by omega) with rfl | rfl | rfl | rfl | rfl | rfl | rfl <;> exact (fd 69 _ (by decide) rfl).1)
                                                            have s3 : t_YS (P 0 0).toNat (s_skz P (gi 69 59).toInt (P 0 0).toNat 0 (s_en (gi 69 59).toInt Z)) gi115 := s2.fr (fd 69 64 (by decide) rfl).1 (t_F_nc fd rfl (by decide)) (t_F_nc fd rfl (by decide))
                                                            have e69d : gi115 69 69 = gi 69 69 := by rw [(fd 69 69 (by decide) rfl).1]; exact e69c
                                                            have o60 := y3.1.1
                                                            have o0 := hO2.1
                                                            have fd2 := t_F_X hX123_100
                                                            have Td2 := hP.eq (fd2 69 44 (by decide) rfl).1 (fd2 69 45 (by decide) rfl).1 (t_F_nc fd2 rfl (by decide)) (t_F_nc fd2 rfl (by decide)) (t_F_nc fd2 rfl (by decide)) (t_F_nc fd2 rfl (by decide))
                                                            have Id2 := hJ.eq (t_F_nc fd2 rfl (by decide))
                                                            have md2 := congrArg Int32.toInt (fd2 69 59 (by decide) rfl).1
                                                            have c44d2 := congrArg Int32.toInt (fd2 69 44 (by decide) rfl).1
                                                            have c45d2 := congrArg Int32.toInt (fd2 69 45 (by decide) rfl).1
                                                            have h8 := Td2.2.2.2 (gi 69 59).toInt.toNat
                                                            have k704 : gi115 70 4 = gi 70 4 := congrFun (t_F_nc fd2 rfl (by decide)) 4
                                                            have z0_ : (0 : Int32).toInt = 0 := rfl
                                                            have k4i := congrArg Int32.toInt k704
                                                            have ka4 : (gi100 70 4).toInt = (gi 70 4).toInt := congrArg Int32.toInt (congrFun (t_F_nc fa rfl (by decide)) 4)
                                                            have htt : z194.toInt = P 8 (gi 69 59).toInt.toNat := by rw [h8]; unfold t_tt; split <;> omega
                                                            have pb8 := hPB.2.2.2 (gi 69 59).toInt.toNat
                                                            have po8 := (hPO.2.2 (gi 69 59).toInt.toNat).1
                                                            have bm := (hI0.b (hI0.wf.s (k := 69) rfl) (t_bdK rfl : t_bd 11 59 = some (0, 301))).2
                                                            have e61v : z195.toInt = (gi 69 59).toInt + P 8 (gi 69 59).toInt.toNat := (by rw [← htt]; omega)
                                                            have y4 : t_MZ (gi 69 59).toInt (s_z (s_z (s_z (s_skz P (gi 69 59).toInt (P 0 0).toNat 0 (s_en (gi 69 59).toInt Z)) 1 3) 2 ((gi 69 59).toInt + P 8 (gi 69 59).toInt.toNat)) 7 ((s_skz P (gi 69 59).toInt (P 0 0).toNat 0 (s_en (gi 69 59).toInt Z)) 7 + 1)) g198 := y3.tn hz0 (by omega) (by rw [e198, x_up2_off (Or.inr (by decide)), e196, x_up2_at]; exact e61v) (fun j a b c d => by rcases (show j = 60 ∨ j = 62 ∨ j = 63 ∨ j = 65 ∨ j = 66 ∨ j = 67 by omega) with rfl | rfl | rfl | rfl | rfl | rfl <;> rw [e198, x_up2_off (Or.inr (by decide)), e196, x_up2_off (Or.inr (by decide))])
                                                            have s4 : t_YS (P 0 0).toNat (s_z (s_z (s_z (s_skz P (gi 69 59).toInt (P 0 0).toNat 0 (s_en (gi 69 59).toInt Z)) 1 3) 2 ((gi 69 59).toInt + P 8 (gi 69 59).toInt.toNat)) 7 ((s_skz P (gi 69 59).toInt (P 0 0).toNat 0 (s_en (gi 69 59).toInt Z)) 7 + 1)) g198 := s3.tn (by rw [e198, x_up2_off (Or.inr (by decide)), e196, x_up2_off (Or.inr (by decide))]) (funext fun j => by rw [e198, x_up2_off (Or.inl (by decide)), e196, x_up2_off (Or.inl (by decide))]) (funext fun j => by rw [e198, x_up2_off (Or.inl (by decide)), e196, x_up2_off (Or.inl (by decide))])
                                                            have fe := t_F_X hX156_100
                                                            have Te := hP.eq (fe 69 44 (by decide) rfl).1 (fe 69 45 (by decide) rfl).1 (t_F_nc fe rfl (by decide)) (t_F_nc fe rfl (by decide)) (t_F_nc fe rfl (by decide)) (t_F_nc fe rfl (by decide))
                                                            have Ie := hJ.eq (t_F_nc fe rfl (by decide))
                                                            have me := congrArg Int32.toInt (fe 69 59 (by decide) rfl).1
                                                            have c44e := congrArg Int32.toInt (fe 69 44 (by decide) rfl).1
                                                            have c45e := congrArg Int32.toInt (fe 69 45 (by decide) rfl).1
                                                            have hO4 : s_okz P (s_z (s_z (s_z (s_skz P (gi 69 59).toInt (P 0 0).toNat 0 (s_en (gi 69 59).toInt Z)) 1 3) 2 ((gi 69 59).toInt + P 8 (gi 69 59).toInt.toNat)) 7 ((s_skz P (gi 69 59).toInt (P 0 0).toNat 0 (s_en (gi 69 59).toInt Z)) 7 + 1)) := s_tn_ok hO2 (by omega)
                                                            have hq4 := q199 P (s_z (s_z (s_z (s_skz P (gi 69 59).toInt (P 0 0).toNat 0 (s_en (gi 69 59).toInt Z)) 1 3) 2 ((gi 69 59).toInt + P 8 (gi 69 59).toInt.toNat)) 7 ((s_skz P (gi 69 59).toInt (P 0 0).toNat 0 (s_en (gi 69 59).toInt Z)) 7 + 1)) _ Te Ie s4 (by rw [me]; exact y4.mo hO4.1 hm0) y4.2.1.2
                                                            rw [me] at hq4
                                                            obtain ⟨s5, g5, f5⟩ := hq4
                                                            have ff := t_F_X hC199
                                                            rw [s_ob_y (A := (fun F => s_ac F R)) (P := P) (m := (gi 69 59).toInt) (Z := (s_skz P (gi 69 59).toInt (P 0 0).toNat 0 (s_en (gi 69 59).toInt Z))) hz0 (by show (_ ∧ s_ac _ R = 1) ∨ (_ ∧ s_ac _ R = 0); omega)]
                                                            exact ⟨hnd, s5, y4.sk (fun j a b c => by rcases (show j = 60 ∨ j = 61 ∨ j = 62 ∨ j = 63 ∨ j = 65 ∨ j = 66 by omega) with rfl | rfl | rfl | rfl | rfl | rfl <;> exact (ff 69 _ (by decide) rfl).1) g5, by rw [(ff 69 69 (by decide) rfl).1, e198, x_up2_off (Or.inr (by decide)), e196, x_up2_off (Or.inr (by decide))]; exact e69d, f5⟩))
            · have r202 : (gi115 69 60).toInt ≠ 1 := fun e => h163 (Int32.toInt_inj.mp (e.trans (by decide : (1:Int) = (1 : Int32).toInt)))
              refine ev_sub (lo := [(0, .ref 69)]) rfl (t_sc rfl t_sn) ?_
              exact L48 gi115 gl115 gr115  hI hX  (by have hq := ((funext (fun j => (hC115.1 70 j rfl).1) : gi115 70 = gi105 70).trans ((funext (fun j => (hC105.1 70 j rfl).1) : gi105 70 = gi100 70))); rw [hq]; exact j100_0) (fun P Z R hP hJ hS hB hO hPO hPB hQ hcr => (by
                                                            have hm0 : 0 ≤ (gi 69 59).toInt := (hI0.b (hI0.wf.s (k := 69) rfl) (t_bdK rfl : t_bd 11 59 = some (0, 301))).1
                                                            have hm3 : (gi 69 59).toInt ≤ 301 := (hI0.b (hI0.wf.s (k := 69) rfl) (t_bdK rfl : t_bd 11 59 = some (0, 301))).2
                                                            have b44 := hI0.b (hI0.wf.s (k := 69) rfl) (t_bdK rfl : t_bd 11 44 = some (0, 6))
                                                            have b45 := hI0.b (hI0.wf.s (k := 69) rfl) (t_bdK rfl : t_bd 11 45 = some (0, 6))
                                                            have q0 : P 0 0 = ((t_S gi : Nat) : Int) := hP.1.1
                                                            have q1 : P 0 1 = ((t_C gi : Nat) : Int) := hP.1.2
                                                            have u0 : ((t_S gi : Nat) : Int) = (gi 69 44).toInt := by unfold t_S; omega
                                                            have u1 : ((t_C gi : Nat) : Int) = (gi 69 45).toInt := by unfold t_C; omega
                                                            have hO1 : s_okz P (s_en (gi 69 59).toInt Z) := s_en_ok hO hm3
                                                            have fa := t_F_X hX80_100
                                                            have Ta := hP.eq (fa 69 44 (by decide) rfl).1 (fa 69 45 (by decide) rfl).1 (t_F_nc fa rfl (by decide)) (t_F_nc fa rfl (by decide)) (t_F_nc fa rfl (by decide)) (t_F_nc fa rfl (by decide))
                                                            have Ia := hJ.eq (t_F_nc fa rfl (by decide))
                                                            have ma := congrArg Int32.toInt (fa 69 59 (by decide) rfl).1
                                                            have c44a := congrArg Int32.toInt (fa 69 44 (by decide) rfl).1
                                                            have c45a := congrArg Int32.toInt (fa 69 45 (by decide) rfl).1
                                                            obtain ⟨hnd, s1, y1, e69⟩ := j100_1 P Z R hP hJ hS hB hO hPO hPB hQ hcr
                                                            have mo1 := y1.mo hO1.1 hm0
                                                            have hq := q105 P (s_en (gi 69 59).toInt Z) _ Ta Ia s1 (by rw [ma]; exact mo1) y1.2.1.2
                                                            rw [ma] at hq
                                                            obtain ⟨s2, g67, f2⟩ := hq
                                                            have fc := t_F_X hC105
                                                            have y2 : t_MZ (gi 69 59).toInt (s_skz P (gi 69 59).toInt (P 0 0).toNat 0 (s_en (gi 69 59).toInt Z)) gi105 := y1.sk (fun j a b c => by rcases (show j = 60 ∨ j = 61 ∨ j = 62 ∨ j = 63 ∨ j = 65 ∨ j = 66 by omega) with rfl | rfl | rfl | rfl | rfl | rfl <;> exact (fc 69 _ (by decide) rfl).1) g67
                                                            have hO2 : s_okz P (s_skz P (gi 69 59).toInt (P 0 0).toNat 0 (s_en (gi 69 59).toInt Z)) := s_skz_ok hO1
                                                            have mo2 := (y2.mo hO2.1 hm0).2
                                                            have e69c : gi105 69 69 = gi 69 69 := by rw [(fc 69 69 (by decide) rfl).1]; exact e69
                                                            have d44 : (gi105 69 44).toInt = (gi100 69 44).toInt := congrArg Int32.toInt (fc 69 44 (by decide) rfl).1
                                                            have d45 : (gi105 69 45).toInt = (gi100 69 45).toInt := congrArg Int32.toInt (fc 69 45 (by decide) rfl).1
                                                            have d59 : (gi105 69 59).toInt = (gi100 69 59).toInt := congrArg Int32.toInt (fc 69 59 (by decide) rfl).1
                                                            have hz0 : (s_skz P (gi 69 59).toInt (P 0 0).toNat 0 (s_en (gi 69 59).toInt Z)) 1 = 0 := by by_cases hz : (s_skz P (gi 69 59).toInt (P 0 0).toNat 0 (s_en (gi 69 59).toInt Z)) 1 = 0; exact hz; exact absurd (mo2.mpr hz) (by omega)
                                                            have fb := t_F_X hX91_100
                                                            have Tb := hP.eq (fb 69 44 (by decide) rfl).1 (fb 69 45 (by decide) rfl).1 (t_F_nc fb rfl (by decide)) (t_F_nc fb rfl (by decide)) (t_F_nc fb rfl (by decide)) (t_F_nc fb rfl (by decide))
                                                            have Ib := hJ.eq (t_F_nc fb rfl (by decide))
                                                            have mb := congrArg Int32.toInt (fb 69 59 (by decide) rfl).1
                                                            have c44b := congrArg Int32.toInt (fb 69 44 (by decide) rfl).1
                                                            have c45b := congrArg Int32.toInt (fb 69 45 (by decide) rfl).1
                                                            have hMA := t_MA_of Tb s2 (by rw [mb]; exact y2) hO2 (by omega) (by omega)
                                                            rw [mb] at hMA
                                                            have ha : w115.toInt = s_ac (s_FA P (gi 69 59).toInt (s_skz P (gi 69 59).toInt (P 0 0).toNat 0 (s_en (gi 69 59).toInt Z))) R + 15 := q115 _ R hMA (by rw [t_F_nc fb rfl (by decide)]; exact hQ) hcr
                                                            have fd := t_F_X hC115
                                                            have y3 : t_MZ (gi 69 59).toInt (s_skz P (gi 69 59).toInt (P 0 0).toNat 0 (s_en (gi 69 59).toInt Z)) gi115 := y2.fr (fun j a b c => by rcases (show j = 60 ∨ j = 61 ∨ j = 62 ∨ j = 63 ∨ j = 65 ∨ j = 66 ∨ j = 67 by omega) with rfl | rfl | rfl | rfl | rfl | rfl | rfl <;> exact (fd 69 _ (by decide) rfl).1)
                                                            have s3 : t_YS (P 0 0).toNat (s_skz P (gi 69 59).toInt (P 0 0).toNat 0 (s_en (gi 69 59).toInt Z)) gi115 := s2.fr (fd 69 64 (by decide) rfl).1 (t_F_nc fd rfl (by decide)) (t_F_nc fd rfl (by decide))
                                                            have e69d : gi115 69 69 = gi 69 69 := by rw [(fd 69 69 (by decide) rfl).1]; exact e69c
                                                            have o60 := y3.1.1
                                                            have o0 := hO2.1
                                                            rw [s_ob_n (A := (fun F => s_ac F R)) (P := P) (m := (gi 69 59).toInt) (Z := (s_skz P (gi 69 59).toInt (P 0 0).toNat 0 (s_en (gi 69 59).toInt Z))) (by show ¬ ((_ ∧ s_ac _ R = 1) ∨ (_ ∧ s_ac _ R = 0)); omega)]
                                                            exact ⟨hnd, s3, y3, e69d, by rw [(fd 69 64 (by decide) rfl).1]; exact f2⟩))
          · have r203 : w115.toInt ≠ 16 := fun e => h160 (Int32.toInt_inj.mp (e.trans (by decide : (16:Int) = (16 : Int32).toInt)))
            refine ev_sub (lo := [(0, .ref 69)]) rfl (t_sc rfl t_sn) ?_
            exact L48 gi115 gl115 gr115  hI hX  (by have hq := ((funext (fun j => (hC115.1 70 j rfl).1) : gi115 70 = gi105 70).trans ((funext (fun j => (hC105.1 70 j rfl).1) : gi105 70 = gi100 70))); rw [hq]; exact j100_0) (fun P Z R hP hJ hS hB hO hPO hPB hQ hcr => (by
                                                            have hm0 : 0 ≤ (gi 69 59).toInt := (hI0.b (hI0.wf.s (k := 69) rfl) (t_bdK rfl : t_bd 11 59 = some (0, 301))).1
                                                            have hm3 : (gi 69 59).toInt ≤ 301 := (hI0.b (hI0.wf.s (k := 69) rfl) (t_bdK rfl : t_bd 11 59 = some (0, 301))).2
                                                            have b44 := hI0.b (hI0.wf.s (k := 69) rfl) (t_bdK rfl : t_bd 11 44 = some (0, 6))
                                                            have b45 := hI0.b (hI0.wf.s (k := 69) rfl) (t_bdK rfl : t_bd 11 45 = some (0, 6))
                                                            have q0 : P 0 0 = ((t_S gi : Nat) : Int) := hP.1.1
                                                            have q1 : P 0 1 = ((t_C gi : Nat) : Int) := hP.1.2
                                                            have u0 : ((t_S gi : Nat) : Int) = (gi 69 44).toInt := by unfold t_S; omega
                                                            have u1 : ((t_C gi : Nat) : Int) = (gi 69 45).toInt := by unfold t_C; omega
                                                            have hO1 : s_okz P (s_en (gi 69 59).toInt Z) := s_en_ok hO hm3
                                                            have fa := t_F_X hX80_100
                                                            have Ta := hP.eq (fa 69 44 (by decide) rfl).1 (fa 69 45 (by decide) rfl).1 (t_F_nc fa rfl (by decide)) (t_F_nc fa rfl (by decide)) (t_F_nc fa rfl (by decide)) (t_F_nc fa rfl (by decide))
                                                            have Ia := hJ.eq (t_F_nc fa rfl (by decide))
                                                            have ma := congrArg Int32.toInt (fa 69 59 (by decide) rfl).1
                                                            have c44a := congrArg Int32.toInt (fa 69 44 (by decide) rfl).1
                                                            have c45a := congrArg Int32.toInt (fa 69 45 (by decide) rfl).1
                                                            obtain ⟨hnd, s1, y1, e69⟩ := j100_1 P Z R hP hJ hS hB hO hPO hPB hQ hcr
                                                            have mo1 := y1.mo hO1.1 hm0
                                                            have hq := q105 P (s_en (gi 69 59).toInt Z) _ Ta Ia s1 (by rw [ma]; exact mo1) y1.2.1.2
                                                            rw [ma] at hq
                                                            obtain ⟨s2, g67, f2⟩ := hq
                                                            have fc := t_F_X hC105
                                                            have y2 : t_MZ (gi 69 59).toInt (s_skz P (gi 69 59).toInt (P 0 0).toNat 0 (s_en (gi 69 59).toInt Z)) gi105 := y1.sk (fun j a b c => by rcases (show j = 60 ∨ j = 61 ∨ j = 62 ∨ j = 63 ∨ j = 65 ∨ j = 66 by omega) with rfl | rfl | rfl | rfl | rfl | rfl <;> exact (fc 69 _ (by decide) rfl).1) g67
                                                            have hO2 : s_okz P (s_skz P (gi 69 59).toInt (P 0 0).toNat 0 (s_en (gi 69 59).toInt Z)) := s_skz_ok hO1
                                                            have mo2 := (y2.mo hO2.1 hm0).2
                                                            have e69c : gi105 69 69 = gi 69 69 := by rw [(fc 69 69 (by decide) rfl).1]; exact e69
                                                            have d44 : (gi105 69 44).toInt = (gi100 69 44).toInt := congrArg Int32.toInt (fc 69 44 (by decide) rfl).1
                                                            have d45 : (gi105 69 45).toInt = (gi100 69 45).toInt := congrArg Int32.toInt (fc 69 45 (by decide) rfl).1
                                                            have d59 : (gi105 69 59).toInt = (gi100 69 59).toInt := congrArg Int32.toInt (fc 69 59 (by decide) rfl).1
                                                            have hz0 : (s_skz P (gi 69 59).toInt (P 0 0).toNat 0 (s_en (gi 69 59).toInt Z)) 1 = 0 := by by_cases hz : (s_skz P (gi 69 59).toInt (P 0 0).toNat 0 (s_en (gi 69 59).toInt Z)) 1 = 0; exact hz; exact absurd (mo2.mpr hz) (by omega)
                                                            have fb := t_F_X hX91_100
                                                            have Tb := hP.eq (fb 69 44 (by decide) rfl).1 (fb 69 45 (by decide) rfl).1 (t_F_nc fb rfl (by decide)) (t_F_nc fb rfl (by decide)) (t_F_nc fb rfl (by decide)) (t_F_nc fb rfl (by decide))
                                                            have Ib := hJ.eq (t_F_nc fb rfl (by decide))
                                                            have mb := congrArg Int32.toInt (fb 69 59 (by decide) rfl).1
                                                            have c44b := congrArg Int32.toInt (fb 69 44 (by decide) rfl).1
                                                            have c45b := congrArg Int32.toInt (fb 69 45 (by decide) rfl).1
                                                            have hMA := t_MA_of Tb s2 (by rw [mb]; exact y2) hO2 (by omega) (by omega)
                                                            rw [mb] at hMA
                                                            have ha : w115.toInt = s_ac (s_FA P (gi 69 59).toInt (s_skz P (gi 69 59).toInt (P 0 0).toNat 0 (s_en (gi 69 59).toInt Z))) R + 15 := q115 _ R hMA (by rw [t_F_nc fb rfl (by decide)]; exact hQ) hcr
                                                            have fd := t_F_X hC115
                                                            have y3 : t_MZ (gi 69 59).toInt (s_skz P (gi 69 59).toInt (P 0 0).toNat 0 (s_en (gi 69 59).toInt Z)) gi115 := y2.fr (fun j a b c => by rcases (show j = 60 ∨ j = 61 ∨ j = 62 ∨ j = 63 ∨ j = 65 ∨ j = 66 ∨ j = 67 by omega) with rfl | rfl | rfl | rfl | rfl | rfl | rfl <;> exact (fd 69 _ (by decide) rfl).1)
                                                            have s3 : t_YS (P 0 0).toNat (s_skz P (gi 69 59).toInt (P 0 0).toNat 0 (s_en (gi 69 59).toInt Z)) gi115 := s2.fr (fd 69 64 (by decide) rfl).1 (t_F_nc fd rfl (by decide)) (t_F_nc fd rfl (by decide))
                                                            have e69d : gi115 69 69 = gi 69 69 := by rw [(fd 69 69 (by decide) rfl).1]; exact e69c
                                                            have o60 := y3.1.1
                                                            have o0 := hO2.1
                                                            rw [s_ob_n (A := (fun F => s_ac F R)) (P := P) (m := (gi 69 59).toInt) (Z := (s_skz P (gi 69 59).toInt (P 0 0).toNat 0 (s_en (gi 69 59).toInt Z))) (by show ¬ ((_ ∧ s_ac _ R = 1) ∨ (_ ∧ s_ac _ R = 0)); omega)]
                                                            exact ⟨hnd, s3, y3, e69d, by rw [(fd 69 64 (by decide) rfl).1]; exact f2⟩))
      · have r204 : (gi100 69 59).toInt < (gi105 69 62).toInt := Int32.lt_iff_toInt_lt.mp (t_nle h112)
        have l205 : 1 ≤ (gi105 69 62).toInt := t_ltl (t_nle h112) l101 rfl
        refine ev_ic f_X12_isBusy (nx := 23) (v := 1) rfl (by decide) rfl ?_
        refine ev_jmp f_X12_isBusy (nx := 27) rfl rfl rfl ?_
        refine ev_retK1 f_X12_isBusy rfl rfl rfl ?_
        refine ev_f f_X12_minuteGoes (t1 := 91) (t2 := 160) rfl rfl rfl (by decide) ?_
        refine ev_sub (lo := [(0, .ref 69)]) rfl (t_sc rfl t_sn) ?_
        exact L48 gi105 gl105 gr105  hI hX  (by have hq := ((funext (fun j => (hC105.1 70 j rfl).1) : gi105 70 = gi100 70)); rw [hq]; exact j100_0) (fun P Z R hP hJ hS hB hO hPO hPB hQ hcr => (by
                                                            have hm0 : 0 ≤ (gi 69 59).toInt := (hI0.b (hI0.wf.s (k := 69) rfl) (t_bdK rfl : t_bd 11 59 = some (0, 301))).1
                                                            have hm3 : (gi 69 59).toInt ≤ 301 := (hI0.b (hI0.wf.s (k := 69) rfl) (t_bdK rfl : t_bd 11 59 = some (0, 301))).2
                                                            have b44 := hI0.b (hI0.wf.s (k := 69) rfl) (t_bdK rfl : t_bd 11 44 = some (0, 6))
                                                            have b45 := hI0.b (hI0.wf.s (k := 69) rfl) (t_bdK rfl : t_bd 11 45 = some (0, 6))
                                                            have q0 : P 0 0 = ((t_S gi : Nat) : Int) := hP.1.1
                                                            have q1 : P 0 1 = ((t_C gi : Nat) : Int) := hP.1.2
                                                            have u0 : ((t_S gi : Nat) : Int) = (gi 69 44).toInt := by unfold t_S; omega
                                                            have u1 : ((t_C gi : Nat) : Int) = (gi 69 45).toInt := by unfold t_C; omega
                                                            have hO1 : s_okz P (s_en (gi 69 59).toInt Z) := s_en_ok hO hm3
                                                            have fa := t_F_X hX80_100
                                                            have Ta := hP.eq (fa 69 44 (by decide) rfl).1 (fa 69 45 (by decide) rfl).1 (t_F_nc fa rfl (by decide)) (t_F_nc fa rfl (by decide)) (t_F_nc fa rfl (by decide)) (t_F_nc fa rfl (by decide))
                                                            have Ia := hJ.eq (t_F_nc fa rfl (by decide))
                                                            have ma := congrArg Int32.toInt (fa 69 59 (by decide) rfl).1
                                                            have c44a := congrArg Int32.toInt (fa 69 44 (by decide) rfl).1
                                                            have c45a := congrArg Int32.toInt (fa 69 45 (by decide) rfl).1
                                                            obtain ⟨hnd, s1, y1, e69⟩ := j100_1 P Z R hP hJ hS hB hO hPO hPB hQ hcr
                                                            have mo1 := y1.mo hO1.1 hm0
                                                            have hq := q105 P (s_en (gi 69 59).toInt Z) _ Ta Ia s1 (by rw [ma]; exact mo1) y1.2.1.2
                                                            rw [ma] at hq
                                                            obtain ⟨s2, g67, f2⟩ := hq
                                                            have fc := t_F_X hC105
                                                            have y2 : t_MZ (gi 69 59).toInt (s_skz P (gi 69 59).toInt (P 0 0).toNat 0 (s_en (gi 69 59).toInt Z)) gi105 := y1.sk (fun j a b c => by rcases (show j = 60 ∨ j = 61 ∨ j = 62 ∨ j = 63 ∨ j = 65 ∨ j = 66 by omega) with rfl | rfl | rfl | rfl | rfl | rfl <;> exact (fc 69 _ (by decide) rfl).1) g67
                                                            have hO2 : s_okz P (s_skz P (gi 69 59).toInt (P 0 0).toNat 0 (s_en (gi 69 59).toInt Z)) := s_skz_ok hO1
                                                            have mo2 := (y2.mo hO2.1 hm0).2
                                                            have e69c : gi105 69 69 = gi 69 69 := by rw [(fc 69 69 (by decide) rfl).1]; exact e69
                                                            have d44 : (gi105 69 44).toInt = (gi100 69 44).toInt := congrArg Int32.toInt (fc 69 44 (by decide) rfl).1
                                                            have d45 : (gi105 69 45).toInt = (gi100 69 45).toInt := congrArg Int32.toInt (fc 69 45 (by decide) rfl).1
                                                            have d59 : (gi105 69 59).toInt = (gi100 69 59).toInt := congrArg Int32.toInt (fc 69 59 (by decide) rfl).1
                                                            have hbz : (s_skz P (gi 69 59).toInt (P 0 0).toNat 0 (s_en (gi 69 59).toInt Z)) 1 ≠ 0 := mo2.mp (by omega)
                                                            rw [show (s_ob P (fun F => s_ac F R) (gi 69 59).toInt (s_skz P (gi 69 59).toInt (P 0 0).toNat 0 (s_en (gi 69 59).toInt Z))) = (s_skz P (gi 69 59).toInt (P 0 0).toNat 0 (s_en (gi 69 59).toInt Z)) from if_neg (fun hh => hbz hh.1)]
                                                            exact ⟨hnd, s2, y2, e69c, f2⟩))
  have L206 : ∀ (gi206 : Nat → Nat → Int32) (gl206 : Nat → Nat → Int64) (gr206 : Nat → Nat → Value), t_I sh gi206 gr206 → t_X wl_y_minuteGoes sh gi gl gr gi206 gl206 gr206 → t_rpn (gi206 70) 0 → (∀ (P : Nat → Nat → Int) (Z : Nat → Int) (R : List (List Int × Int)), s_TP gi (gi 70 4).toInt P → t_IJ (P 0 0).toNat gi → t_YS (P 0 0).toNat Z gi → t_MB (gi 69 59).toInt Z gi → s_okz P Z → s_PO P → s_PB P → t_MQ (gi 70) R → s_crs R → t_YS (P 0 0).toNat (s_en (gi 69 59).toInt Z) gi206 ∧ t_MZ (gi 69 59).toInt (s_en (gi 69 59).toInt Z) gi206 ∧ gi206 69 69 = gi 69 69) → x_Ev X (d + 5) n_X12_minuteGoes 34 [(0, .ref 69)] [] (sh, gi206, gl206, gr206) (t_PN wl_y_minuteGoes sh gi gl gr (Q_y_minuteGoes gi gl gr)) := by
    intro gi206 gl206 gr206 hI hX j206_0 j206_1
    obtain ⟨l207, u207⟩ := hI.b (hI.wf.s (k := 69) rfl) (t_bdK rfl : t_bd 11 59 = some (0, 301))
    obtain ⟨l208, u208⟩ := hI.b (hI.wf.s (k := 69) rfl) (t_bdK rfl : t_bd 11 64 = some (0, 6))
    obtain ⟨l210, u210⟩ := hI.ab (by decide +kernel : t_abr 70 4 4 0 20 = true) (Nat.le_refl _) (Nat.le_refl _)
    have hX34_206 := hX
    refine ev_loc f_X12_minuteGoes (nx := 35) rfl rfl rfl rfl ?_
    refine ev_qN f_X12_minuteGoes (nx := 38) (r := []) rfl rfl rfl rfl rfl rfl rfl (c_y_passesOver hI ) rfl hX rfl (fun gi211 gl211 gr211 hI hX hC211 q211 => ?_)
    have q211 : (∀ (n : Nat) (Z : Nat → Int), n = t_S gi206 → t_YS n Z gi206 → t_YS n Z gi211 ∧ (gi211 69 64).toInt = ((s_f1 Z n 0 : Nat) : Int)) := q211
    obtain ⟨l212, u212⟩ := hI.b (hI.wf.s (k := 69) rfl) (t_bdK rfl : t_bd 11 64 = some (0, 6))
    refine ev_loc f_X12_minuteGoes (nx := 39) rfl rfl rfl rfl ?_
    refine ev_gvI f_X12_minuteGoes (nx := 42) (w := (gi211 69 64)) rfl (hI.wf.s rfl) rfl rfl rfl rfl ?_
    refine ev_loc f_X12_minuteGoes (nx := 43) rfl rfl rfl rfl ?_
    refine ev_getI f_X12_minuteGoes (nx := 46) rfl (hI.wf.s rfl) rfl rfl rfl ?_
    obtain ⟨l213, u213⟩ := hI.b (hI.wf.s (k := 69) rfl) (t_bdK rfl : t_bd 11 44 = some (0, 6))
    refine ev_if f_X12_minuteGoes (t1 := 49) (t2 := 80) rfl rfl rfl (fun h214 => ?_) (fun h214 => ?_)
    · have r215 : (gi211 69 64).toInt = (gi211 69 44).toInt := t_eqi h214
      refine ev_loc f_X12_minuteGoes (nx := 50) rfl rfl rfl rfl ?_
      refine ev_getI f_X12_minuteGoes (nx := 53) rfl (hI.wf.s rfl) rfl rfl rfl ?_
      obtain ⟨l216, u216⟩ := hI.b (hI.wf.s (k := 69) rfl) (t_bdK rfl : t_bd 11 65 = some (0, 6))
      refine ev_loc f_X12_minuteGoes (nx := 54) rfl rfl rfl rfl ?_
      refine ev_getI f_X12_minuteGoes (nx := 57) rfl (hI.wf.s rfl) rfl rfl rfl ?_
      obtain ⟨l217, u217⟩ := hI.b (hI.wf.s (k := 69) rfl) (t_bdK rfl : t_bd 11 45 = some (0, 6))
      refine ev_if f_X12_minuteGoes (t1 := 60) (t2 := 80) rfl rfl rfl (fun h218 => ?_) (fun h218 => ?_)
      · have r219 : (gi211 69 65).toInt = (gi211 69 45).toInt := t_eqi h218
        refine ev_loc f_X12_minuteGoes (nx := 61) rfl rfl rfl rfl ?_
        refine ev_getI f_X12_minuteGoes (nx := 64) rfl (hI.wf.s rfl) rfl rfl rfl ?_
        refine ev_loc f_X12_minuteGoes (nx := 65) rfl rfl rfl rfl ?_
        refine ev_gvI f_X12_minuteGoes (nx := 68) (w := (gi206 69 59)) rfl (hI.wf.s rfl) rfl rfl ((hC211.1 69 59 rfl).1.trans rfl) rfl ?_
        refine ev_if f_X12_minuteGoes (t1 := 80) (t2 := 71) rfl rfl rfl (fun h220 => ?_) (fun h220 => ?_)
        · have r221 : (gi206 69 59).toInt < (gi211 69 62).toInt := Int32.lt_iff_toInt_lt.mp h220
          have l222 : 1 ≤ (gi211 69 62).toInt := t_ltl h220 l207 rfl
          refine ev_sub (lo := [(0, .ref 69)]) rfl (t_sc rfl t_sn) ?_
          exact L100 gi211 gl211 gr211  hI hX  (by have hq := ((funext (fun j => (hC211.1 70 j rfl).1) : gi211 70 = gi206 70)); rw [hq]; exact j206_0) (fun P Z R hP hJ hS hB hO hPO hPB hQ hcr => (by
                                                            have hm0 : 0 ≤ (gi 69 59).toInt := (hI0.b (hI0.wf.s (k := 69) rfl) (t_bdK rfl : t_bd 11 59 = some (0, 301))).1
                                                            have hm3 : (gi 69 59).toInt ≤ 301 := (hI0.b (hI0.wf.s (k := 69) rfl) (t_bdK rfl : t_bd 11 59 = some (0, 301))).2
                                                            have b44 := hI0.b (hI0.wf.s (k := 69) rfl) (t_bdK rfl : t_bd 11 44 = some (0, 6))
                                                            have b45 := hI0.b (hI0.wf.s (k := 69) rfl) (t_bdK rfl : t_bd 11 45 = some (0, 6))
                                                            have q0 : P 0 0 = ((t_S gi : Nat) : Int) := hP.1.1
                                                            have q1 : P 0 1 = ((t_C gi : Nat) : Int) := hP.1.2
                                                            have u0 : ((t_S gi : Nat) : Int) = (gi 69 44).toInt := by unfold t_S; omega
                                                            have u1 : ((t_C gi : Nat) : Int) = (gi 69 45).toInt := by unfold t_C; omega
                                                            have hO1 : s_okz P (s_en (gi 69 59).toInt Z) := s_en_ok hO hm3
                                                            have fa := t_F_X hX34_206
                                                            have Ta := hP.eq (fa 69 44 (by decide) rfl).1 (fa 69 45 (by decide) rfl).1 (t_F_nc fa rfl (by decide)) (t_F_nc fa rfl (by decide)) (t_F_nc fa rfl (by decide)) (t_F_nc fa rfl (by decide))
                                                            have Ia := hJ.eq (t_F_nc fa rfl (by decide))
                                                            have ma := congrArg Int32.toInt (fa 69 59 (by decide) rfl).1
                                                            have c44a := congrArg Int32.toInt (fa 69 44 (by decide) rfl).1
                                                            have c45a := congrArg Int32.toInt (fa 69 45 (by decide) rfl).1
                                                            obtain ⟨s1, y1, e69⟩ := j206_1 P Z R hP hJ hS hB hO hPO hPB hQ hcr
                                                            obtain ⟨s2, f2⟩ := q211 (P 0 0).toNat (s_en (gi 69 59).toInt Z) (by have := Ta.1.1; omega) s1
                                                            have fc := t_F_X hC211
                                                            have y2 : t_MZ (gi 69 59).toInt (s_en (gi 69 59).toInt Z) gi211 := y1.fr (fun j a b c => by rcases (show j = 60 ∨ j = 61 ∨ j = 62 ∨ j = 63 ∨ j = 65 ∨ j = 66 ∨ j = 67 by omega) with rfl | rfl | rfl | rfl | rfl | rfl | rfl <;> exact (fc 69 _ (by decide) rfl).1)
                                                            have hdi := s_done_i (P := P) f2.symm (by omega) y2
                                                            have y65 := y2.1.2.2
                                                            have s64 := s2.1
                                                            have d44 : (gi211 69 44).toInt = (gi206 69 44).toInt := congrArg Int32.toInt (fc 69 44 (by decide) rfl).1
                                                            have d45 : (gi211 69 45).toInt = (gi206 69 45).toInt := congrArg Int32.toInt (fc 69 45 (by decide) rfl).1
                                                            have d59 : (gi211 69 59).toInt = (gi206 69 59).toInt := congrArg Int32.toInt (fc 69 59 (by decide) rfl).1
                                                            have o4 := hO1.2
                                                            exact ⟨fun hd => by have h9 := hdi.mp hd; omega, s2, y2, by rw [(fc 69 69 (by decide) rfl).1]; exact e69⟩))
        · have r223 : (gi211 69 62).toInt ≤ (gi206 69 59).toInt := Int32.le_iff_toInt_le.mp (t_nlt h220)
          have u224 : (gi211 69 62).toInt ≤ 301 := t_leu (t_nlt h220) u207
          refine ev_loc f_X12_minuteGoes (nx := 72) rfl rfl rfl rfl ?_
          refine ev_loc f_X12_minuteGoes (nx := 73) rfl rfl rfl rfl ?_
          refine ev_gvI f_X12_minuteGoes (nx := 76) (w := (gi206 69 59)) rfl (hI.wf.s rfl) rfl rfl ((hC211.1 69 59 rfl).1.trans rfl) rfl ?_
          refine ev_putIT f_X12_minuteGoes (nx := 79) rfl (hI.wf.s rfl) rfl rfl rfl (hI.put0 (hI.wf.s rfl) rfl rfl) (hX.upI rfl) (fun g225 e225 hI hX => ?_)
          exact ev_ret f_X12_minuteGoes rfl rfl rfl ⟨_, _, _, rfl, hI, hX, ⟨rfl, (show (∀ (P : Nat → Nat → Int) (Z : Nat → Int) (R : List (List Int × Int)), s_TP gi (gi 70 4).toInt P → t_IJ (P 0 0).toNat gi → t_YS (P 0 0).toNat Z gi → t_MB (gi 69 59).toInt Z gi → s_okz P Z → s_PO P → s_PB P → t_MQ (gi 70) R → s_crs R → (s_done P (s_en (gi 69 59).toInt Z) → (g225 69 69).toInt = (gi 69 59).toInt ∧ t_YS (P 0 0).toNat (s_en (gi 69 59).toInt Z) g225 ∧ t_MZ (gi 69 59).toInt (s_en (gi 69 59).toInt Z) g225) ∧ (¬ s_done P (s_en (gi 69 59).toInt Z) → g225 69 69 = gi 69 69 ∧ t_YS (P 0 0).toNat (s_mn P (fun F => s_ac F R) (gi 69 59).toInt Z) g225 ∧ t_MB ((gi 69 59).toInt + 1) (s_mn P (fun F => s_ac F R) (gi 69 59).toInt Z) g225)) from (fun P Z R hP hJ hS hB hO hPO hPB hQ hcr => (by
                                                            have hm0 : 0 ≤ (gi 69 59).toInt := (hI0.b (hI0.wf.s (k := 69) rfl) (t_bdK rfl : t_bd 11 59 = some (0, 301))).1
                                                            have hm3 : (gi 69 59).toInt ≤ 301 := (hI0.b (hI0.wf.s (k := 69) rfl) (t_bdK rfl : t_bd 11 59 = some (0, 301))).2
                                                            have b44 := hI0.b (hI0.wf.s (k := 69) rfl) (t_bdK rfl : t_bd 11 44 = some (0, 6))
                                                            have b45 := hI0.b (hI0.wf.s (k := 69) rfl) (t_bdK rfl : t_bd 11 45 = some (0, 6))
                                                            have q0 : P 0 0 = ((t_S gi : Nat) : Int) := hP.1.1
                                                            have q1 : P 0 1 = ((t_C gi : Nat) : Int) := hP.1.2
                                                            have u0 : ((t_S gi : Nat) : Int) = (gi 69 44).toInt := by unfold t_S; omega
                                                            have u1 : ((t_C gi : Nat) : Int) = (gi 69 45).toInt := by unfold t_C; omega
                                                            have hO1 : s_okz P (s_en (gi 69 59).toInt Z) := s_en_ok hO hm3
                                                            have fa := t_F_X hX34_206
                                                            have Ta := hP.eq (fa 69 44 (by decide) rfl).1 (fa 69 45 (by decide) rfl).1 (t_F_nc fa rfl (by decide)) (t_F_nc fa rfl (by decide)) (t_F_nc fa rfl (by decide)) (t_F_nc fa rfl (by decide))
                                                            have Ia := hJ.eq (t_F_nc fa rfl (by decide))
                                                            have ma := congrArg Int32.toInt (fa 69 59 (by decide) rfl).1
                                                            have c44a := congrArg Int32.toInt (fa 69 44 (by decide) rfl).1
                                                            have c45a := congrArg Int32.toInt (fa 69 45 (by decide) rfl).1
                                                            obtain ⟨s1, y1, e69⟩ := j206_1 P Z R hP hJ hS hB hO hPO hPB hQ hcr
                                                            obtain ⟨s2, f2⟩ := q211 (P 0 0).toNat (s_en (gi 69 59).toInt Z) (by have := Ta.1.1; omega) s1
                                                            have fc := t_F_X hC211
                                                            have y2 : t_MZ (gi 69 59).toInt (s_en (gi 69 59).toInt Z) gi211 := y1.fr (fun j a b c => by rcases (show j = 60 ∨ j = 61 ∨ j = 62 ∨ j = 63 ∨ j = 65 ∨ j = 66 ∨ j = 67 by omega) with rfl | rfl | rfl | rfl | rfl | rfl | rfl <;> exact (fc 69 _ (by decide) rfl).1)
                                                            have hdi := s_done_i (P := P) f2.symm (by omega) y2
                                                            have y65 := y2.1.2.2
                                                            have s64 := s2.1
                                                            have d44 : (gi211 69 44).toInt = (gi206 69 44).toInt := congrArg Int32.toInt (fc 69 44 (by decide) rfl).1
                                                            have d45 : (gi211 69 45).toInt = (gi206 69 45).toInt := congrArg Int32.toInt (fc 69 45 (by decide) rfl).1
                                                            have d59 : (gi211 69 59).toInt = (gi206 69 59).toInt := congrArg Int32.toInt (fc 69 59 (by decide) rfl).1
                                                            have o4 := hO1.2
                                                            have hd : s_done P (s_en (gi 69 59).toInt Z) := hdi.mpr ⟨by omega, by omega, by omega⟩
                                                            refine ⟨fun _ => ⟨by rw [e225, x_up2_at]; omega, s2.fr (by rw [e225, x_up2_off (Or.inr (by decide))]) (funext fun j => by rw [e225, x_up2_off (Or.inl (by decide))]) (funext fun j => by rw [e225, x_up2_off (Or.inl (by decide))]), y2.fr (fun j a b c => by rcases (show j = 60 ∨ j = 61 ∨ j = 62 ∨ j = 63 ∨ j = 65 ∨ j = 66 ∨ j = 67 by omega) with rfl | rfl | rfl | rfl | rfl | rfl | rfl <;> rw [e225, x_up2_off (Or.inr (by decide))])⟩, fun hn => absurd hd hn⟩)))⟩⟩
      · have r226 : (gi211 69 65).toInt ≠ (gi211 69 45).toInt := t_nei h218
        refine ev_sub (lo := [(0, .ref 69)]) rfl (t_sc rfl t_sn) ?_
        exact L100 gi211 gl211 gr211  hI hX  (by have hq := ((funext (fun j => (hC211.1 70 j rfl).1) : gi211 70 = gi206 70)); rw [hq]; exact j206_0) (fun P Z R hP hJ hS hB hO hPO hPB hQ hcr => (by
                                                            have hm0 : 0 ≤ (gi 69 59).toInt := (hI0.b (hI0.wf.s (k := 69) rfl) (t_bdK rfl : t_bd 11 59 = some (0, 301))).1
                                                            have hm3 : (gi 69 59).toInt ≤ 301 := (hI0.b (hI0.wf.s (k := 69) rfl) (t_bdK rfl : t_bd 11 59 = some (0, 301))).2
                                                            have b44 := hI0.b (hI0.wf.s (k := 69) rfl) (t_bdK rfl : t_bd 11 44 = some (0, 6))
                                                            have b45 := hI0.b (hI0.wf.s (k := 69) rfl) (t_bdK rfl : t_bd 11 45 = some (0, 6))
                                                            have q0 : P 0 0 = ((t_S gi : Nat) : Int) := hP.1.1
                                                            have q1 : P 0 1 = ((t_C gi : Nat) : Int) := hP.1.2
                                                            have u0 : ((t_S gi : Nat) : Int) = (gi 69 44).toInt := by unfold t_S; omega
                                                            have u1 : ((t_C gi : Nat) : Int) = (gi 69 45).toInt := by unfold t_C; omega
                                                            have hO1 : s_okz P (s_en (gi 69 59).toInt Z) := s_en_ok hO hm3
                                                            have fa := t_F_X hX34_206
                                                            have Ta := hP.eq (fa 69 44 (by decide) rfl).1 (fa 69 45 (by decide) rfl).1 (t_F_nc fa rfl (by decide)) (t_F_nc fa rfl (by decide)) (t_F_nc fa rfl (by decide)) (t_F_nc fa rfl (by decide))
                                                            have Ia := hJ.eq (t_F_nc fa rfl (by decide))
                                                            have ma := congrArg Int32.toInt (fa 69 59 (by decide) rfl).1
                                                            have c44a := congrArg Int32.toInt (fa 69 44 (by decide) rfl).1
                                                            have c45a := congrArg Int32.toInt (fa 69 45 (by decide) rfl).1
                                                            obtain ⟨s1, y1, e69⟩ := j206_1 P Z R hP hJ hS hB hO hPO hPB hQ hcr
                                                            obtain ⟨s2, f2⟩ := q211 (P 0 0).toNat (s_en (gi 69 59).toInt Z) (by have := Ta.1.1; omega) s1
                                                            have fc := t_F_X hC211
                                                            have y2 : t_MZ (gi 69 59).toInt (s_en (gi 69 59).toInt Z) gi211 := y1.fr (fun j a b c => by rcases (show j = 60 ∨ j = 61 ∨ j = 62 ∨ j = 63 ∨ j = 65 ∨ j = 66 ∨ j = 67 by omega) with rfl | rfl | rfl | rfl | rfl | rfl | rfl <;> exact (fc 69 _ (by decide) rfl).1)
                                                            have hdi := s_done_i (P := P) f2.symm (by omega) y2
                                                            have y65 := y2.1.2.2
                                                            have s64 := s2.1
                                                            have d44 : (gi211 69 44).toInt = (gi206 69 44).toInt := congrArg Int32.toInt (fc 69 44 (by decide) rfl).1
                                                            have d45 : (gi211 69 45).toInt = (gi206 69 45).toInt := congrArg Int32.toInt (fc 69 45 (by decide) rfl).1
                                                            have d59 : (gi211 69 59).toInt = (gi206 69 59).toInt := congrArg Int32.toInt (fc 69 59 (by decide) rfl).1
                                                            have o4 := hO1.2
                                                            exact ⟨fun hd => by have h9 := hdi.mp hd; omega, s2, y2, by rw [(fc 69 69 (by decide) rfl).1]; exact e69⟩))
    · have r227 : (gi211 69 64).toInt ≠ (gi211 69 44).toInt := t_nei h214
      refine ev_sub (lo := [(0, .ref 69)]) rfl (t_sc rfl t_sn) ?_
      exact L100 gi211 gl211 gr211  hI hX  (by have hq := ((funext (fun j => (hC211.1 70 j rfl).1) : gi211 70 = gi206 70)); rw [hq]; exact j206_0) (fun P Z R hP hJ hS hB hO hPO hPB hQ hcr => (by
                                                            have hm0 : 0 ≤ (gi 69 59).toInt := (hI0.b (hI0.wf.s (k := 69) rfl) (t_bdK rfl : t_bd 11 59 = some (0, 301))).1
                                                            have hm3 : (gi 69 59).toInt ≤ 301 := (hI0.b (hI0.wf.s (k := 69) rfl) (t_bdK rfl : t_bd 11 59 = some (0, 301))).2
                                                            have b44 := hI0.b (hI0.wf.s (k := 69) rfl) (t_bdK rfl : t_bd 11 44 = some (0, 6))
                                                            have b45 := hI0.b (hI0.wf.s (k := 69) rfl) (t_bdK rfl : t_bd 11 45 = some (0, 6))
                                                            have q0 : P 0 0 = ((t_S gi : Nat) : Int) := hP.1.1
                                                            have q1 : P 0 1 = ((t_C gi : Nat) : Int) := hP.1.2
                                                            have u0 : ((t_S gi : Nat) : Int) = (gi 69 44).toInt := by unfold t_S; omega
                                                            have u1 : ((t_C gi : Nat) : Int) = (gi 69 45).toInt := by unfold t_C; omega
                                                            have hO1 : s_okz P (s_en (gi 69 59).toInt Z) := s_en_ok hO hm3
                                                            have fa := t_F_X hX34_206
                                                            have Ta := hP.eq (fa 69 44 (by decide) rfl).1 (fa 69 45 (by decide) rfl).1 (t_F_nc fa rfl (by decide)) (t_F_nc fa rfl (by decide)) (t_F_nc fa rfl (by decide)) (t_F_nc fa rfl (by decide))
                                                            have Ia := hJ.eq (t_F_nc fa rfl (by decide))
                                                            have ma := congrArg Int32.toInt (fa 69 59 (by decide) rfl).1
                                                            have c44a := congrArg Int32.toInt (fa 69 44 (by decide) rfl).1
                                                            have c45a := congrArg Int32.toInt (fa 69 45 (by decide) rfl).1
                                                            obtain ⟨s1, y1, e69⟩ := j206_1 P Z R hP hJ hS hB hO hPO hPB hQ hcr
                                                            obtain ⟨s2, f2⟩ := q211 (P 0 0).toNat (s_en (gi 69 59).toInt Z) (by have := Ta.1.1; omega) s1
                                                            have fc := t_F_X hC211
                                                            have y2 : t_MZ (gi 69 59).toInt (s_en (gi 69 59).toInt Z) gi211 := y1.fr (fun j a b c => by rcases (show j = 60 ∨ j = 61 ∨ j = 62 ∨ j = 63 ∨ j = 65 ∨ j = 66 ∨ j = 67 by omega) with rfl | rfl | rfl | rfl | rfl | rfl | rfl <;> exact (fc 69 _ (by decide) rfl).1)
                                                            have hdi := s_done_i (P := P) f2.symm (by omega) y2
                                                            have y65 := y2.1.2.2
                                                            have s64 := s2.1
                                                            have d44 : (gi211 69 44).toInt = (gi206 69 44).toInt := congrArg Int32.toInt (fc 69 44 (by decide) rfl).1
                                                            have d45 : (gi211 69 45).toInt = (gi206 69 45).toInt := congrArg Int32.toInt (fc 69 45 (by decide) rfl).1
                                                            have d59 : (gi211 69 59).toInt = (gi206 69 59).toInt := congrArg Int32.toInt (fc 69 59 (by decide) rfl).1
                                                            have o4 := hO1.2
                                                            exact ⟨fun hd => by have h9 := hdi.mp hd; omega, s2, y2, by rw [(fc 69 69 (by decide) rfl).1]; exact e69⟩))
  refine ev_loc f_X12_minuteGoes (nx := 1) rfl rfl rfl rfl ?_
  refine ev_getI f_X12_minuteGoes (nx := 4) rfl (hI.wf.s rfl) rfl rfl rfl ?_
  refine ev_loc f_X12_minuteGoes (nx := 5) rfl rfl rfl rfl ?_
  refine ev_gvI f_X12_minuteGoes (nx := 8) (w := (gi 69 59)) rfl (hI.wf.s rfl) rfl rfl rfl rfl ?_
  refine ev_if f_X12_minuteGoes (t1 := 11) (t2 := 34) rfl rfl rfl (fun h228 => ?_) (fun h228 => ?_)
  · have r229 : (gi 69 61).toInt = (gi 69 59).toInt := t_eqi h228
    have u230 : (gi 69 61).toInt ≤ 301 := t_equ h228 u1
    have l231 : 0 ≤ (gi 69 61).toInt := t_eql h228 l1
    refine ev_loc f_X12_minuteGoes (nx := 12) rfl rfl rfl rfl ?_
    refine ev_ic f_X12_minuteGoes (nx := 13) (v := 1) rfl (by decide) rfl ?_
    refine ev_loc f_X12_minuteGoes (nx := 14) rfl rfl rfl rfl ?_
    refine ev_getI f_X12_minuteGoes (nx := 17) rfl (hI.wf.s rfl) rfl rfl rfl ?_
    refine ev_anyIE f_X12_minuteGoes (nx := 18) rfl rfl rfl rfl (fun z232 e232 => ?_)
    refine ev_putIT f_X12_minuteGoes (nx := 21) rfl (hI.wf.s rfl) rfl rfl rfl (hI.put0 (hI.wf.s rfl) rfl rfl) (hX.upI rfl) (fun g233 e233 hI hX => ?_)
    refine ev_loc f_X12_minuteGoes (nx := 22) rfl rfl rfl rfl ?_
    refine ev_loc f_X12_minuteGoes (nx := 23) rfl rfl rfl rfl ?_
    refine ev_gvI f_X12_minuteGoes (nx := 26) (w := (gi 69 59)) rfl (hI.wf.s rfl) rfl rfl ((by rw [e233]; exact x_up2_off (Or.inr (by decide)) : g233 69 59 = gi 69 59).trans rfl) rfl ?_
    refine ev_putIT f_X12_minuteGoes (nx := 29) rfl (hI.wf.s rfl) rfl rfl rfl (hI.put0 (hI.wf.s rfl) rfl rfl) (hX.upI rfl) (fun g234 e234 hI hX => ?_)
    refine ev_loc f_X12_minuteGoes (nx := 30) rfl rfl rfl rfl ?_
    refine ev_ic f_X12_minuteGoes (nx := 31) (v := -1) rfl (by decide) rfl ?_
    refine ev_putIT f_X12_minuteGoes (nx := 34) rfl (hI.wf.s rfl) rfl rfl rfl (hI.put0 (hI.wf.s rfl) rfl rfl) (hX.upI rfl) (fun g235 e235 hI hX => ?_)
    refine ev_sub (lo := [(0, .ref 69)]) rfl (t_sc rfl t_sn) ?_
    exact L206 g235 gl gr  hI hX  (by have hq := ((by rw [e235]; exact x_up2_ne (by decide) : g235 70 = g234 70).trans ((by rw [e234]; exact x_up2_ne (by decide) : g234 70 = g233 70).trans ((by rw [e233]; exact x_up2_ne (by decide) : g233 70 = gi 70)))); rw [hq]; exact e_p0) (fun P Z R hP hJ hS hB hO hPO hPB hQ hcr => (by
                                                            have hm0 : 0 ≤ (gi 69 59).toInt := (hI0.b (hI0.wf.s (k := 69) rfl) (t_bdK rfl : t_bd 11 59 = some (0, 301))).1
                                                            have hm3 : (gi 69 59).toInt ≤ 301 := (hI0.b (hI0.wf.s (k := 69) rfl) (t_bdK rfl : t_bd 11 59 = some (0, 301))).2
                                                            have b44 := hI0.b (hI0.wf.s (k := 69) rfl) (t_bdK rfl : t_bd 11 44 = some (0, 6))
                                                            have b45 := hI0.b (hI0.wf.s (k := 69) rfl) (t_bdK rfl : t_bd 11 45 = some (0, 6))
                                                            have q0 : P 0 0 = ((t_S gi : Nat) : Int) := hP.1.1
                                                            have q1 : P 0 1 = ((t_C gi : Nat) : Int) := hP.1.2
                                                            have u0 : ((t_S gi : Nat) : Int) = (gi 69 44).toInt := by unfold t_S; omega
                                                            have u1 : ((t_C gi : Nat) : Int) = (gi 69 45).toInt := by unfold t_C; omega
                                                            have hO1 : s_okz P (s_en (gi 69 59).toInt Z) := s_en_ok hO hm3
                                                            have a0 := hB.1.1
                                                            have o0 := hO.1
                                                            have e60v := s_sub e232 (show (1 : Int32).toInt = 1 from rfl) a0 (by omega)
                                                            have k1 : (-1 : Int32).toInt = -1 := rfl
                                                            refine ⟨(hS.fr (by rw [e235, x_up2_off (Or.inr (by decide)), e234, x_up2_off (Or.inr (by decide)), e233, x_up2_off (Or.inr (by decide))]) (funext fun j => by rw [e235, x_up2_off (Or.inl (by decide)), e234, x_up2_off (Or.inl (by decide)), e233, x_up2_off (Or.inl (by decide))]) (funext fun j => by rw [e235, x_up2_off (Or.inl (by decide)), e234, x_up2_off (Or.inl (by decide)), e233, x_up2_off (Or.inl (by decide))])).en, hB.en3 hm0 (by omega) (by rw [e235, x_up2_off (Or.inr (by decide)), e234, x_up2_off (Or.inr (by decide)), e233, x_up2_at]; exact e60v) (by rw [e235, x_up2_at]; exact k1) (by rw [e235, x_up2_off (Or.inr (by decide)), e234, x_up2_at]) (by rw [e235, x_up2_off (Or.inr (by decide)), e234, x_up2_off (Or.inr (by decide)), e233, x_up2_off (Or.inr (by decide))]) (by rw [e235, x_up2_off (Or.inr (by decide)), e234, x_up2_off (Or.inr (by decide)), e233, x_up2_off (Or.inr (by decide))]) (by rw [e235, x_up2_off (Or.inr (by decide)), e234, x_up2_off (Or.inr (by decide)), e233, x_up2_off (Or.inr (by decide))]) (by rw [e235, x_up2_off (Or.inr (by decide)), e234, x_up2_off (Or.inr (by decide)), e233, x_up2_off (Or.inr (by decide))]), by rw [e235, x_up2_off (Or.inr (by decide)), e234, x_up2_off (Or.inr (by decide)), e233, x_up2_off (Or.inr (by decide))]⟩))
  · have r236 : (gi 69 61).toInt ≠ (gi 69 59).toInt := t_nei h228
    refine ev_sub (lo := [(0, .ref 69)]) rfl (t_sc rfl t_sn) ?_
    exact L206 gi gl gr  hI hX  e_p0 (fun P Z R hP hJ hS hB hO hPO hPB hQ hcr => (by
                                                            have hm0 : 0 ≤ (gi 69 59).toInt := (hI0.b (hI0.wf.s (k := 69) rfl) (t_bdK rfl : t_bd 11 59 = some (0, 301))).1
                                                            have hm3 : (gi 69 59).toInt ≤ 301 := (hI0.b (hI0.wf.s (k := 69) rfl) (t_bdK rfl : t_bd 11 59 = some (0, 301))).2
                                                            have b44 := hI0.b (hI0.wf.s (k := 69) rfl) (t_bdK rfl : t_bd 11 44 = some (0, 6))
                                                            have b45 := hI0.b (hI0.wf.s (k := 69) rfl) (t_bdK rfl : t_bd 11 45 = some (0, 6))
                                                            have q0 : P 0 0 = ((t_S gi : Nat) : Int) := hP.1.1
                                                            have q1 : P 0 1 = ((t_C gi : Nat) : Int) := hP.1.2
                                                            have u0 : ((t_S gi : Nat) : Int) = (gi 69 44).toInt := by unfold t_S; omega
                                                            have u1 : ((t_C gi : Nat) : Int) = (gi 69 45).toInt := by unfold t_C; omega
                                                            have hO1 : s_okz P (s_en (gi 69 59).toInt Z) := s_en_ok hO hm3
                                                            exact ⟨hS.en, hB.en1 hm0 (by omega) (fun j _ _ _ => rfl), rfl⟩))
