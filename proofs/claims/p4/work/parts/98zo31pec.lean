/-! ===== printed by riv.py: what RULES come to, on the other side ===== -/
noncomputable def wl_e_holds : List (Nat × Nat) := [(100, 9999)]
noncomputable def Q_e_holds (gi : Nat → Nat → Int32) (gl : Nat → Nat → Int64) (gr : Nat → Nat → Value) (ar1 : Int32) : Int32 → (Nat → Nat → Int32) → (Nat → Nat → Int64) → (Nat → Nat → Value) → Prop := fun (v : Int32) (gi2 : Nat → Nat → Int32) (gl2 : Nat → Nat → Int64) (gr2 : Nat → Nat → Value) => (∀ (F : Nat → Int) (R : List (List Int × Int)), t_MA F gi → t_MQ (gi 70) R → s_crs R → ar1.toInt.toNat < R.length → (v.toInt = 1 ↔ s_tpx (s_ex F (R.getD ar1.toInt.toNat ([], 0)).1 []) = 1))
theorem c_e_holds {X : x_Ext} {d : Nat} {sh : List (Nat ⊕ (Nat × Nat))} {gi : Nat → Nat → Int32} {gl : Nat → Nat → Int64} {gr : Nat → Nat → Value} (hI : t_I sh gi gr) (ar1 : Int32) (l_a1 : 0 ≤ ar1.toInt) (u_a1 : ar1.toInt ≤ 11) (e_p0 : t_good (gi 70) 0 ar1.toInt.toNat) : x_Me X (d + 3) n_X12_holds [.ref 69, .int ar1] (sh, gi, gl, gr) (t_PI wl_e_holds sh gi gl gr 0 1 (Q_e_holds gi gl gr ar1)) := by
  have hX : t_X wl_e_holds sh gi gl gr gi gl gr := t_X.rf
  refine me_i f_X12_holds (hI.wf.s rfl) rfl rfl rfl ?_
  refine ev_ic f_X12_holds (nx := 1) (v := 0) rfl (by decide) rfl ?_
  refine ev_loc f_X12_holds (nx := 2) (lo' := [(2, .int 0), (0, .ref 69), (1, .int ar1)]) rfl rfl rfl rfl ?_
  refine ev_loc f_X12_holds (nx := 3) rfl rfl rfl rfl ?_
  refine ev_getR f_X12_holds (nx := 6) rfl (hI.wf.s rfl) rfl rfl (hI.wf.r rfl) rfl rfl ?_
  refine ev_bp f_X12_holds (nx := 8) (v := 100) rfl (by decide) rfl ?_
  refine ev_ic f_X12_holds (nx := 9) (v := 3) rfl (by decide) rfl ?_
  refine ev_loc f_X12_holds (nx := 10) rfl rfl rfl rfl ?_
  refine ev_mulL f_X12_holds (nx := 11) (c := 3) (l := 0) (u := 33) rfl (by decide) (by decide) l_a1 u_a1 rfl rfl (by decide) (by decide) rfl (fun z1 e1 l1 u1 => ?_)
  refine ev_addK f_X12_holds (nx := 12) (c := 100) (l := 100) (u := 133) rfl (by decide) l1 u1 rfl rfl (by decide) (by decide) rfl (fun z2 e2 l2 u2 => ?_)
  refine ev_ialdT f_X12_holds (nx := 13) rfl (hI.wf.s rfl) l2 (by decide) u2 (by decide) rfl (fun w3 e3 => ?_)
  obtain ⟨l3, u3⟩ := hI.abA (x := ar1) e3 (by decide +kernel : t_aba 70 100 3 0 11 0 210 = true) (by omega) (by omega) (by omega)
  refine ev_loc f_X12_holds (nx := 14) (lo' := [(3, .int w3), (2, .int 0), (0, .ref 69), (1, .int ar1)]) rfl rfl rfl rfl ?_
  have L4 : ∀ (m4 : Nat) (gi4 : Nat → Nat → Int32) (gl4 : Nat → Nat → Int64) (gr4 : Nat → Nat → Value) (y4_3 : Int32) (y4_2 : Int32), t_I sh gi4 gr4 → t_X wl_e_holds sh gi gl gr gi4 gl4 gr4 → 0 ≤ y4_3.toInt → y4_3.toInt ≤ 210 → 0 ≤ y4_2.toInt → y4_2.toInt ≤ 30 → gi4 70 z2.toNatClampNeg = w3 → t_ok (gi 70) 0 ar1.toInt.toNat y4_3.toInt.toNat y4_2.toInt.toNat → (∀ j, gi4 70 j = gi 70 j) → (∀ (F : Nat → Int) (R : List (List Int × Int)), t_MA F gi → t_MQ (gi 70) R → s_crs R → ar1.toInt.toNat < R.length → s_HI F (R.getD ar1.toInt.toNat ([], 0)).1 (y4_3.toInt.toNat - s_re R ar1.toInt.toNat) (s_sl (gi4 100) y4_2.toInt.toNat) ∧ ((s_re R ar1.toInt.toNat : Nat) : Int) ≤ y4_3.toInt ∧ y4_3.toInt ≤ ((s_re R (ar1.toInt.toNat + 1) : Nat) : Int)) → (210 - y4_3.toInt).toNat = m4 → x_Ev X (d + 3) n_X12_holds 14 [(3, .int y4_3), (2, .int y4_2), (0, .ref 69), (1, .int ar1)] [] (sh, gi4, gl4, gr4) (t_PI wl_e_holds sh gi gl gr 0 1 (Q_e_holds gi gl gr ar1)) := by
    intro m4
    induction m4 using Nat.strongRecOn with
    | _ m4 ih4 =>
    intro gi4 gl4 gr4 y4_3 y4_2 hI hX l4_3 u4_3 l4_2 u4_2 c4_0 j4_0 j4_1 j4_2 hm4
    refine ev_loc f_X12_holds (nx := 15) rfl rfl rfl rfl ?_
    refine ev_loc f_X12_holds (nx := 16) rfl rfl rfl rfl ?_
    refine ev_getR f_X12_holds (nx := 19) rfl (hI.wf.s rfl) rfl rfl (hI.wf.r rfl) rfl rfl ?_
    refine ev_bp f_X12_holds (nx := 21) (v := 100) rfl (by decide) rfl ?_
    refine ev_ic f_X12_holds (nx := 22) (v := 3) rfl (by decide) rfl ?_
    refine ev_loc f_X12_holds (nx := 23) rfl rfl rfl rfl ?_
    refine ev_mulL f_X12_holds (nx := 24) (c := 3) (l := 0) (u := 33) rfl (by decide) (by decide) l_a1 u_a1 rfl rfl (by decide) (by decide) rfl (fun z5 e5 l5 u5 => ?_)
    refine ev_addK f_X12_holds (nx := 25) (c := 100) (l := 100) (u := 133) rfl (by decide) l5 u5 rfl rfl (by decide) (by decide) rfl (fun z6 e6 l6 u6 => ?_)
    refine ev_ic f_X12_holds (nx := 26) (v := 1) rfl (by decide) rfl ?_
    refine ev_addC f_X12_holds (nx := 27) (c := 1) (l := 101) (u := 134) rfl (by decide) l6 u6 rfl rfl (by decide) (by decide) rfl (fun z7 e7 l7 u7 => ?_)
    refine ev_ialdT f_X12_holds (nx := 28) rfl (hI.wf.s rfl) l7 (by decide) u7 (by decide) rfl (fun w8 e8 => ?_)
    obtain ⟨l8, u8⟩ := hI.abA (x := ar1) e8 (by decide +kernel : t_aba 70 101 3 0 11 0 210 = true) (by omega) (by omega) (by omega)
    refine ev_if f_X12_holds (t1 := 186) (t2 := 31) rfl rfl rfl (fun h9 => ?_) (fun h9 => ?_)
    · have r10 : w8.toInt ≤ y4_3.toInt := Int32.le_iff_toInt_le.mp h9
      refine ev_loc f_X12_holds (nx := 187) rfl rfl rfl rfl ?_
      refine ev_getR f_X12_holds (nx := 190) rfl (hI.wf.s rfl) rfl rfl (hI.wf.r rfl) rfl rfl ?_
      refine ev_ic f_X12_holds (nx := 191) (v := 0) rfl (by decide) rfl ?_
      refine ev_baldT f_X12_holds (nx := 192) rfl (hI.wf.s rfl) rfl (by decide : (0:Int) ≤ (0:Int32).toInt) (by decide) (by decide : (0:Int32).toInt ≤ (0:Int)) (by decide) rfl (fun w11 e11 => ?_)
      obtain ⟨l11, u11⟩ := hI.abi e11 (by decide +kernel : t_abr 100 0 0 0 1 = true) (by decide : (0:Int) ≤ (0:Int32).toInt) (by decide) (by decide : (0:Int32).toInt ≤ (0:Int)) (by decide)
      exact ev_retZ f_X12_holds rfl l11 u11 ⟨_, _, _, rfl, hI, hX, ⟨_, rfl, l11, u11, (show (∀ (F : Nat → Int) (R : List (List Int × Int)), t_MA F gi → t_MQ (gi 70) R → s_crs R → ar1.toInt.toNat < R.length → (w11.toInt = 1 ↔ s_tpx (s_ex F (R.getD ar1.toInt.toNat ([], 0)).1 []) = 1)) from (fun F R hM hQ hcr hr => (by
                                                            obtain ⟨H, hlo, hhi⟩ := j4_2 F R hM hQ hcr hr
                                                            have hs := s_re_s R _ hr
                                                            have ka := (hQ.2.2.1 _ hr).2.1
                                                            have kA := congrArg Int32.toInt (t_ldeq (g0 := gi) (p := 350 * 0 + 101 + 3 * ar1.toInt.toNat) e8 j4_1 (by omega) (by omega))
                                                            rw [show 350 * 0 + 101 + 3 * ar1.toInt.toNat = 101 + 3 * ar1.toInt.toNat by omega, ka] at kA
                                                            have hj : y4_3.toInt.toNat - s_re R ar1.toInt.toNat = (R.getD ar1.toInt.toNat ([], 0)).1.length := by omega
                                                            rw [hj] at H
                                                            obtain ⟨w, eS, hw, ht⟩ := s_HI_e H
                                                            obtain ⟨k, hk, e1, e2⟩ := s_sl_1 eS
                                                            have hk0 : k = 0 := by cases k with | zero => rfl | succ q => cases e2
                                                            subst hk0
                                                            have ev : w11.toInt = w := by rw [← e1, e11]; rfl
                                                            rw [ht, ev])))⟩⟩
    · have r12 : y4_3.toInt < w8.toInt := Int32.lt_iff_toInt_lt.mp (t_nle h9)
      have u13 : y4_3.toInt ≤ 209 := t_ltu (t_nle h9) u8 rfl
      have l14 : 1 ≤ w8.toInt := t_ltl (t_nle h9) l4_3 rfl
      refine ev_loc f_X12_holds (nx := 32) rfl rfl rfl rfl ?_
      refine ev_getR f_X12_holds (nx := 35) rfl (hI.wf.s rfl) rfl rfl (hI.wf.r rfl) rfl rfl ?_
      refine ev_sp f_X12_holds (nx := 38) (v := 140) rfl (by decide) rfl ?_
      refine ev_loc f_X12_holds (nx := 39) rfl rfl rfl rfl ?_
      refine ev_addK f_X12_holds (nx := 40) (c := 140) (l := 140) (u := 349) rfl (by decide) l4_3 u13 rfl rfl (by decide) (by decide) rfl (fun z15 e15 l15 u15 => ?_)
      refine ev_ialdT f_X12_holds (nx := 41) rfl (hI.wf.s rfl) l15 (by decide) u15 (by decide) rfl (fun w16 e16 => ?_)
      refine ev_loc f_X12_holds (nx := 43) (lo' := [(4, .int w16), (3, .int y4_3), (2, .int y4_2), (0, .ref 69), (1, .int ar1)]) rfl rfl rfl rfl ?_
      have ha17 := t_ldeq (g0 := gi) (p := 350 * 0 + 101 + 3 * ar1.toInt.toNat) e8 j4_1 (by omega) (by omega)
      have hb17 := t_ldeq (g0 := gi) (p := 350 * 0 + 140 + y4_3.toInt.toNat) e16 j4_1 (by omega) (by omega)
      have hk17 : ((y4_3.toInt.toNat : Nat) : Int) < w8.toInt := by omega
      have hs17 := t_okA j4_0 ha17 hk17 hb17
      have hXh := hX
      refine ev_loc f_X12_holds (nx := 45) rfl rfl rfl rfl ?_
      refine ev_bp f_X12_holds (nx := 47) (v := 20) rfl (by decide) rfl ?_
      refine ev_if f_X12_holds (t1 := 50) (t2 := 77) rfl rfl rfl (fun h18 => ?_) (fun h18 => ?_)
      · have u19 : w16.toInt ≤ 20 := t_equ h18 (by decide : (20:Int32).toInt ≤ (20:Int))
        have l20 : 20 ≤ w16.toInt := t_eql h18 (by decide : (20:Int) ≤ (20:Int32).toInt)
        refine ev_loc f_X12_holds (nx := 51) rfl rfl rfl rfl ?_
        refine ev_getR f_X12_holds (nx := 54) rfl (hI.wf.s rfl) rfl rfl (hI.wf.r rfl) rfl rfl ?_
        refine ev_loc f_X12_holds (nx := 55) rfl rfl rfl rfl ?_
        refine ev_ic f_X12_holds (nx := 56) (v := 1) rfl (by decide) rfl ?_
        refine ev_subC f_X12_holds (nx := 57) (c := 1) (l := (-1)) (u := 29) rfl (by decide) l4_2 u4_2 rfl rfl (by decide) (by decide) rfl (fun z21 e21 l21 u21 => ?_)
        refine ev_loc f_X12_holds (nx := 58) rfl rfl rfl rfl ?_
        refine ev_getR f_X12_holds (nx := 61) rfl (hI.wf.s rfl) rfl rfl (hI.wf.r rfl) rfl rfl ?_
        refine ev_loc f_X12_holds (nx := 62) rfl rfl rfl rfl ?_
        refine ev_ic f_X12_holds (nx := 63) (v := 1) rfl (by decide) rfl ?_
        refine ev_subC f_X12_holds (nx := 64) (c := 1) (l := (-1)) (u := 29) rfl (by decide) l4_2 u4_2 rfl rfl (by decide) (by decide) rfl (fun z22 e22 l22 u22 => ?_)
        have l24 : (0:Int) ≤ z22.toInt := (by have hs := hs17; omega)
        refine ev_baldT f_X12_holds (nx := 65) rfl (hI.wf.s rfl) rfl l24 (by decide) u22 (by decide) rfl (fun w23 e23 => ?_)
        obtain ⟨l23, u23⟩ := hI.abi e23 (by decide +kernel : t_abr 100 0 29 0 1 = true) l24 (by decide) u22 (by decide)
        refine ev_if f_X12_holds (t1 := 68) (t2 := 72) rfl rfl rfl (fun h25 => ?_) (fun h25 => ?_)
        · have u26 : w23.toInt ≤ 0 := t_equ h25 (by decide : (0:Int32).toInt ≤ (0:Int))
          refine ev_ic f_X12_holds (nx := 69) (v := 1) rfl (by decide) rfl ?_
          refine ev_jmp f_X12_holds (nx := 73) rfl rfl rfl ?_
          have l28 : (0:Int) ≤ z21.toInt := (by have hs := hs17; omega)
          refine ev_zastE f_X12_holds (nx := 74) rfl (hI.wf.s rfl) l28 (by decide) u21 (by decide) rfl (fun x l u => hI.astL (hI.wf.s rfl) (by decide +kernel : t_abw 100 0 29 0 1 = true) (t_cl1 l28 (by decide)) (t_cl2 l28 u21 (by decide) (by decide)) l u rfl) (fun x => hX.upI (t_inA_ok rfl)) (fun g27 x27 e27 ex27 hI hX => ?_)
          refine ev_jmp f_X12_holds (nx := 180) rfl rfl rfl ?_
          refine ev_incR f_X12_holds (nx := 183) (c := 1) (l := 1) (u := 210) rfl rfl (by decide) (by decide) l4_3 u13 rfl rfl (by decide) (by decide) rfl (fun z29 e29 l29 u29 => ?_)
          refine ev_jmp f_X12_holds (nx := 14) rfl rfl rfl ?_
          refine ev_sub (lo := [(3, .int z29), (2, .int y4_2), (0, .ref 69), (1, .int ar1)]) rfl (t_sc rfl (t_sc rfl (t_sc rfl (t_sc rfl t_sn)))) ?_
          exact ih4 _ (by omega) g27 gl4 gr4 (z29) (y4_2) hI hX  (Int.le_trans (by decide : (0:Int) ≤ 1) l29) u29 l4_2 u4_2 ((by rw [e27]; exact x_up2_off (Or.inl (by decide)) : g27 70 z2.toNatClampNeg = gi4 70 z2.toNatClampNeg).trans c4_0) (by have hz : z29.toInt.toNat = y4_3.toInt.toNat + 1 := (by omega); rw [hz]; exact t_okN j4_0 ha17 hk17 hb17 (by omega)) (fun j => (congrFun ((by rw [e27]; exact x_up2_ne (by decide) : g27 70 = gi4 70)) j).trans (j4_1 j)) (fun F R hM hQ hcr hr => (by
                                                            obtain ⟨H, hlo, hhi⟩ := j4_2 F R hM hQ hcr hr
                                                            have hs := s_re_s R _ hr
                                                            have ka := (hQ.2.2.1 _ hr).2.1
                                                            have kA := congrArg Int32.toInt ha17
                                                            rw [show 350 * 0 + 101 + 3 * ar1.toInt.toNat = 101 + 3 * ar1.toInt.toNat by omega, ka] at kA
                                                            have hj : y4_3.toInt.toNat - s_re R ar1.toInt.toNat < (R.getD ar1.toInt.toNat ([], 0)).1.length := by omega
                                                            have hat := s_fl_at R _ _ hr hj
                                                            rw [show s_re R ar1.toInt.toNat + (y4_3.toInt.toNat - s_re R ar1.toInt.toNat) = y4_3.toInt.toNat by omega] at hat
                                                            have kb := hQ.2.1 _ hat.2
                                                            have kB := congrArg Int32.toInt hb17
                                                            rw [show 350 * 0 + 140 + y4_3.toInt.toNat = 140 + y4_3.toInt.toNat by omega, kb, hat.1] at kB
                                                            have hj1 : z29.toInt.toNat - s_re R ar1.toInt.toNat = y4_3.toInt.toNat - s_re R ar1.toInt.toNat + 1 := by omega
                                                            obtain ⟨a, u, eS, ha1, H2⟩ := s_HI_n H hj (by omega)
                                                            obtain ⟨k, hk, e1, e2⟩ := s_sl_1 eS
                                                            have c_z21 := t_clamp (i := z21) (by omega)
                                                            have h1 : g27 100 z21.toNatClampNeg = x27 := by rw [e27]; exact x_up2_at _ _ _ _
                                                            have h2 : ∀ j, j ≠ z21.toNatClampNeg → g27 100 j = gi4 100 j := fun j hj => by rw [e27]; exact x_up2_off (Or.inr hj)
                                                            have hw : w23.toInt = a := by rw [← e1, e23]; congr 2; have c_z22 := t_clamp (i := z22) (by omega); omega
                                                            have hv : x27.toInt = 1 - a := by rw [ex27, show ((1 : Int32) &&& 1).toInt = 1 from rfl]; omega
                                                            rw [hj1, show y4_2.toInt.toNat = k + 1 by omega, s_sl_u (v := x27) (by rw [← h1]; congr 1 <;> omega) (fun j hj => h2 j (by omega)), hv, s_sl_eq k (fun j hj => rfl), e2]
                                                            exact ⟨H2, by omega, by omega⟩)) rfl
        · have r30 : w23.toInt ≠ 0 := fun e => h25 (Int32.toInt_inj.mp (e.trans (by decide : (0:Int) = (0 : Int32).toInt)))
          have l31 : 1 ≤ w23.toInt := t_nel h25 l23 rfl rfl
          refine ev_ic f_X12_holds (nx := 73) (v := 0) rfl (by decide) rfl ?_
          have l33 : (0:Int) ≤ z21.toInt := (by have hs := hs17; omega)
          refine ev_zastE f_X12_holds (nx := 74) rfl (hI.wf.s rfl) l33 (by decide) u21 (by decide) rfl (fun x l u => hI.astL (hI.wf.s rfl) (by decide +kernel : t_abw 100 0 29 0 1 = true) (t_cl1 l33 (by decide)) (t_cl2 l33 u21 (by decide) (by decide)) l u rfl) (fun x => hX.upI (t_inA_ok rfl)) (fun g32 x32 e32 ex32 hI hX => ?_)
          refine ev_jmp f_X12_holds (nx := 180) rfl rfl rfl ?_
          refine ev_incR f_X12_holds (nx := 183) (c := 1) (l := 1) (u := 210) rfl rfl (by decide) (by decide) l4_3 u13 rfl rfl (by decide) (by decide) rfl (fun z34 e34 l34 u34 => ?_)
          refine ev_jmp f_X12_holds (nx := 14) rfl rfl rfl ?_
          refine ev_sub (lo := [(3, .int z34), (2, .int y4_2), (0, .ref 69), (1, .int ar1)]) rfl (t_sc rfl (t_sc rfl (t_sc rfl (t_sc rfl t_sn)))) ?_
          exact ih4 _ (by omega) g32 gl4 gr4 (z34) (y4_2) hI hX  (Int.le_trans (by decide : (0:Int) ≤ 1) l34) u34 l4_2 u4_2 ((by rw [e32]; exact x_up2_off (Or.inl (by decide)) : g32 70 z2.toNatClampNeg = gi4 70 z2.toNatClampNeg).trans c4_0) (by have hz : z34.toInt.toNat = y4_3.toInt.toNat + 1 := (by omega); rw [hz]; exact t_okN j4_0 ha17 hk17 hb17 (by omega)) (fun j => (congrFun ((by rw [e32]; exact x_up2_ne (by decide) : g32 70 = gi4 70)) j).trans (j4_1 j)) (fun F R hM hQ hcr hr => (by
                                                            obtain ⟨H, hlo, hhi⟩ := j4_2 F R hM hQ hcr hr
                                                            have hs := s_re_s R _ hr
                                                            have ka := (hQ.2.2.1 _ hr).2.1
                                                            have kA := congrArg Int32.toInt ha17
                                                            rw [show 350 * 0 + 101 + 3 * ar1.toInt.toNat = 101 + 3 * ar1.toInt.toNat by omega, ka] at kA
                                                            have hj : y4_3.toInt.toNat - s_re R ar1.toInt.toNat < (R.getD ar1.toInt.toNat ([], 0)).1.length := by omega
                                                            have hat := s_fl_at R _ _ hr hj
                                                            rw [show s_re R ar1.toInt.toNat + (y4_3.toInt.toNat - s_re R ar1.toInt.toNat) = y4_3.toInt.toNat by omega] at hat
                                                            have kb := hQ.2.1 _ hat.2
                                                            have kB := congrArg Int32.toInt hb17
                                                            rw [show 350 * 0 + 140 + y4_3.toInt.toNat = 140 + y4_3.toInt.toNat by omega, kb, hat.1] at kB
                                                            have hj1 : z34.toInt.toNat - s_re R ar1.toInt.toNat = y4_3.toInt.toNat - s_re R ar1.toInt.toNat + 1 := by omega
                                                            obtain ⟨a, u, eS, ha1, H2⟩ := s_HI_n H hj (by omega)
                                                            obtain ⟨k, hk, e1, e2⟩ := s_sl_1 eS
                                                            have c_z21 := t_clamp (i := z21) (by omega)
                                                            have h1 : g32 100 z21.toNatClampNeg = x32 := by rw [e32]; exact x_up2_at _ _ _ _
                                                            have h2 : ∀ j, j ≠ z21.toNatClampNeg → g32 100 j = gi4 100 j := fun j hj => by rw [e32]; exact x_up2_off (Or.inr hj)
                                                            have hw : w23.toInt = a := by rw [← e1, e23]; congr 2; have c_z22 := t_clamp (i := z22) (by omega); omega
                                                            have hv : x32.toInt = 1 - a := by rw [ex32, show ((0 : Int32) &&& 1).toInt = 0 from rfl]; omega
                                                            rw [hj1, show y4_2.toInt.toNat = k + 1 by omega, s_sl_u (v := x32) (by rw [← h1]; congr 1 <;> omega) (fun j hj => h2 j (by omega)), hv, s_sl_eq k (fun j hj => rfl), e2]
                                                            exact ⟨H2, by omega, by omega⟩)) rfl
      · have r35 : w16.toInt ≠ 20 := fun e => h18 (Int32.toInt_inj.mp (e.trans (by decide : (20:Int) = (20 : Int32).toInt)))
        refine ev_loc f_X12_holds (nx := 79) rfl rfl rfl rfl ?_
        refine ev_bp f_X12_holds (nx := 81) (v := 19) rfl (by decide) rfl ?_
        refine ev_if f_X12_holds (t1 := 91) (t2 := 84) rfl rfl rfl (fun h36 => ?_) (fun h36 => ?_)
        · have u37 : w16.toInt ≤ 19 := t_equ h36 (by decide : (19:Int32).toInt ≤ (19:Int))
          have l38 : 19 ≤ w16.toInt := t_eql h36 (by decide : (19:Int) ≤ (19:Int32).toInt)
          refine ev_incR f_X12_holds (nx := 94) (c := (-1)) (l := (-1)) (u := 29) rfl rfl (by decide) (by decide) l4_2 u4_2 rfl rfl (by decide) (by decide) rfl (fun z39 e39 l39 u39 => ?_)
          refine ev_loc f_X12_holds (nx := 95) rfl rfl rfl rfl ?_
          refine ev_getR f_X12_holds (nx := 98) rfl (hI.wf.s rfl) rfl rfl (hI.wf.r rfl) rfl rfl ?_
          refine ev_loc f_X12_holds (nx := 99) rfl rfl rfl rfl ?_
          refine ev_ic f_X12_holds (nx := 100) (v := 1) rfl (by decide) rfl ?_
          refine ev_subC f_X12_holds (nx := 101) (c := 1) (l := (-2)) (u := 28) rfl (by decide) l39 u39 rfl rfl (by decide) (by decide) rfl (fun z40 e40 l40 u40 => ?_)
          refine ev_loc f_X12_holds (nx := 103) rfl rfl rfl rfl ?_
          refine ev_bp f_X12_holds (nx := 105) (v := 19) rfl (by decide) rfl ?_
          refine ev_t f_X12_holds (t1 := 108) (t2 := 136) rfl rfl rfl (t_eqT u37 l38 (by decide : (19:Int32).toInt ≤ (19:Int)) (by decide : (19:Int) ≤ (19:Int32).toInt)) ?_
          refine ev_loc f_X12_holds (nx := 109) rfl rfl rfl rfl ?_
          refine ev_getR f_X12_holds (nx := 112) rfl (hI.wf.s rfl) rfl rfl (hI.wf.r rfl) rfl rfl ?_
          refine ev_loc f_X12_holds (nx := 113) rfl rfl rfl rfl ?_
          refine ev_ic f_X12_holds (nx := 114) (v := 1) rfl (by decide) rfl ?_
          refine ev_subC f_X12_holds (nx := 115) (c := 1) (l := (-2)) (u := 28) rfl (by decide) l39 u39 rfl rfl (by decide) (by decide) rfl (fun z41 e41 l41 u41 => ?_)
          have l43 : (0:Int) ≤ z41.toInt := (by have hs := hs17; omega)
          refine ev_baldT f_X12_holds (nx := 116) rfl (hI.wf.s rfl) rfl l43 (by decide) u41 (by decide) rfl (fun w42 e42 => ?_)
          obtain ⟨l42, u42⟩ := hI.abi e42 (by decide +kernel : t_abr 100 0 28 0 1 = true) l43 (by decide) u41 (by decide)
          refine ev_if f_X12_holds (t1 := 132) (t2 := 119) rfl rfl rfl (fun h44 => ?_) (fun h44 => ?_)
          · have u45 : w42.toInt ≤ 0 := t_equ h44 (by decide : (0:Int32).toInt ≤ (0:Int))
            refine ev_ic f_X12_holds (nx := 133) (v := 0) rfl (by decide) rfl ?_
            refine ev_jmp f_X12_holds (nx := 161) rfl rfl rfl ?_
            have l47 : (0:Int) ≤ z40.toInt := (by have hs := hs17; omega)
            refine ev_zastE f_X12_holds (nx := 162) rfl (hI.wf.s rfl) l47 (by decide) u40 (by decide) rfl (fun x l u => hI.astL (hI.wf.s rfl) (by decide +kernel : t_abw 100 0 28 0 1 = true) (t_cl1 l47 (by decide)) (t_cl2 l47 u40 (by decide) (by decide)) l u rfl) (fun x => hX.upI (t_inA_ok rfl)) (fun g46 x46 e46 ex46 hI hX => ?_)
            refine ev_jmp f_X12_holds (nx := 180) rfl rfl rfl ?_
            refine ev_incR f_X12_holds (nx := 183) (c := 1) (l := 1) (u := 210) rfl rfl (by decide) (by decide) l4_3 u13 rfl rfl (by decide) (by decide) rfl (fun z48 e48 l48 u48 => ?_)
            refine ev_jmp f_X12_holds (nx := 14) rfl rfl rfl ?_
            refine ev_sub (lo := [(3, .int z48), (2, .int z39), (0, .ref 69), (1, .int ar1)]) rfl (t_sc rfl (t_sc rfl (t_sc rfl (t_sc rfl t_sn)))) ?_
            exact ih4 _ (by omega) g46 gl4 gr4 (z48) (z39) hI hX  (Int.le_trans (by decide : (0:Int) ≤ 1) l48) u48 (by omega : (0:Int) ≤ z39.toInt) (Int.le_trans u39 (by decide : (29:Int) ≤ 30)) ((by rw [e46]; exact x_up2_off (Or.inl (by decide)) : g46 70 z2.toNatClampNeg = gi4 70 z2.toNatClampNeg).trans c4_0) (by have hz : z48.toInt.toNat = y4_3.toInt.toNat + 1 := (by omega); have hn : z39.toInt.toNat = y4_2.toInt.toNat - 1 := (by omega); rw [hz, hn]; exact t_okB j4_0 ha17 hk17 hb17 (by omega)) (fun j => (congrFun ((by rw [e46]; exact x_up2_ne (by decide) : g46 70 = gi4 70)) j).trans (j4_1 j)) (fun F R hM hQ hcr hr => (by
                                                            obtain ⟨H, hlo, hhi⟩ := j4_2 F R hM hQ hcr hr
                                                            have hs := s_re_s R _ hr
                                                            have ka := (hQ.2.2.1 _ hr).2.1
                                                            have kA := congrArg Int32.toInt ha17
                                                            rw [show 350 * 0 + 101 + 3 * ar1.toInt.toNat = 101 + 3 * ar1.toInt.toNat by omega, ka] at kA
                                                            have hj : y4_3.toInt.toNat - s_re R ar1.toInt.toNat < (R.getD ar1.toInt.toNat ([], 0)).1.length := by omega
                                                            have hat := s_fl_at R _ _ hr hj
                                                            rw [show s_re R ar1.toInt.toNat + (y4_3.toInt.toNat - s_re R ar1.toInt.toNat) = y4_3.toInt.toNat by omega] at hat
                                                            have kb := hQ.2.1 _ hat.2
                                                            have kB := congrArg Int32.toInt hb17
                                                            rw [show 350 * 0 + 140 + y4_3.toInt.toNat = 140 + y4_3.toInt.toNat by omega, kb, hat.1] at kB
                                                            have hj1 : z48.toInt.toNat - s_re R ar1.toInt.toNat = y4_3.toInt.toNat - s_re R ar1.toInt.toNat + 1 := by omega
                                                            obtain ⟨a, b, u, eS, ha1, hb1, H2⟩ := s_HI_a H hj (by omega)
                                                            obtain ⟨k, hk, e1, e0, e2⟩ := s_sl_2 eS
                                                            have c_z40 := t_clamp (i := z40) (by omega)
                                                            have h1 : g46 100 z40.toNatClampNeg = x46 := by rw [e46]; exact x_up2_at _ _ _ _
                                                            have h2 : ∀ j, j ≠ z40.toNatClampNeg → g46 100 j = gi4 100 j := fun j hj => by rw [e46]; exact x_up2_off (Or.inr hj)
                                                            have hw0 : w42.toInt = b := by rw [← e0, e42]; congr 2; have c_z41 := t_clamp (i := z41) (by omega); omega
                                                            have hv : x46.toInt = (if a = 1 ∧ b = 1 then 1 else 0) := by rw [ex46, show ((0 : Int32) &&& 1).toInt = 0 from rfl]; split <;> omega
                                                            rw [hj1, show z39.toInt.toNat = k + 1 by omega, s_sl_u (v := x46) (by rw [← h1]; congr 1 <;> omega) (fun j hj => h2 j (by omega)), hv, e2]
                                                            exact ⟨H2, by omega, by omega⟩)) rfl
          · have r49 : w42.toInt ≠ 0 := fun e => h44 (Int32.toInt_inj.mp (e.trans (by decide : (0:Int) = (0 : Int32).toInt)))
            have l50 : 1 ≤ w42.toInt := t_nel h44 l42 rfl rfl
            refine ev_loc f_X12_holds (nx := 120) rfl rfl rfl rfl ?_
            refine ev_getR f_X12_holds (nx := 123) rfl (hI.wf.s rfl) rfl rfl (hI.wf.r rfl) rfl rfl ?_
            refine ev_loc f_X12_holds (nx := 124) rfl rfl rfl rfl ?_
            have l52 : (0:Int) ≤ z39.toInt := (by have hs := hs17; omega)
            refine ev_baldT f_X12_holds (nx := 125) rfl (hI.wf.s rfl) rfl l52 (by decide) u39 (by decide) rfl (fun w51 e51 => ?_)
            obtain ⟨l51, u51⟩ := hI.abi e51 (by decide +kernel : t_abr 100 0 29 0 1 = true) l52 (by decide) u39 (by decide)
            refine ev_if f_X12_holds (t1 := 132) (t2 := 128) rfl rfl rfl (fun h53 => ?_) (fun h53 => ?_)
            · have u54 : w51.toInt ≤ 0 := t_equ h53 (by decide : (0:Int32).toInt ≤ (0:Int))
              refine ev_ic f_X12_holds (nx := 133) (v := 0) rfl (by decide) rfl ?_
              refine ev_jmp f_X12_holds (nx := 161) rfl rfl rfl ?_
              have l56 : (0:Int) ≤ z40.toInt := (by have hs := hs17; omega)
              refine ev_zastE f_X12_holds (nx := 162) rfl (hI.wf.s rfl) l56 (by decide) u40 (by decide) rfl (fun x l u => hI.astL (hI.wf.s rfl) (by decide +kernel : t_abw 100 0 28 0 1 = true) (t_cl1 l56 (by decide)) (t_cl2 l56 u40 (by decide) (by decide)) l u rfl) (fun x => hX.upI (t_inA_ok rfl)) (fun g55 x55 e55 ex55 hI hX => ?_)
              refine ev_jmp f_X12_holds (nx := 180) rfl rfl rfl ?_
              refine ev_incR f_X12_holds (nx := 183) (c := 1) (l := 1) (u := 210) rfl rfl (by decide) (by decide) l4_3 u13 rfl rfl (by decide) (by decide) rfl (fun z57 e57 l57 u57 => ?_)
              refine ev_jmp f_X12_holds (nx := 14) rfl rfl rfl ?_
              refine ev_sub (lo := [(3, .int z57), (2, .int z39), (0, .ref 69), (1, .int ar1)]) rfl (t_sc rfl (t_sc rfl (t_sc rfl (t_sc rfl t_sn)))) ?_
              exact ih4 _ (by omega) g55 gl4 gr4 (z57) (z39) hI hX  (Int.le_trans (by decide : (0:Int) ≤ 1) l57) u57 l52 (Int.le_trans u39 (by decide : (29:Int) ≤ 30)) ((by rw [e55]; exact x_up2_off (Or.inl (by decide)) : g55 70 z2.toNatClampNeg = gi4 70 z2.toNatClampNeg).trans c4_0) (by have hz : z57.toInt.toNat = y4_3.toInt.toNat + 1 := (by omega); have hn : z39.toInt.toNat = y4_2.toInt.toNat - 1 := (by omega); rw [hz, hn]; exact t_okB j4_0 ha17 hk17 hb17 (by omega)) (fun j => (congrFun ((by rw [e55]; exact x_up2_ne (by decide) : g55 70 = gi4 70)) j).trans (j4_1 j)) (fun F R hM hQ hcr hr => (by
                                                            obtain ⟨H, hlo, hhi⟩ := j4_2 F R hM hQ hcr hr
                                                            have hs := s_re_s R _ hr
                                                            have ka := (hQ.2.2.1 _ hr).2.1
                                                            have kA := congrArg Int32.toInt ha17
                                                            rw [show 350 * 0 + 101 + 3 * ar1.toInt.toNat = 101 + 3 * ar1.toInt.toNat by omega, ka] at kA
                                                            have hj : y4_3.toInt.toNat - s_re R ar1.toInt.toNat < (R.getD ar1.toInt.toNat ([], 0)).1.length := by omega
                                                            have hat := s_fl_at R _ _ hr hj
                                                            rw [show s_re R ar1.toInt.toNat + (y4_3.toInt.toNat - s_re R ar1.toInt.toNat) = y4_3.toInt.toNat by omega] at hat
                                                            have kb := hQ.2.1 _ hat.2
                                                            have kB := congrArg Int32.toInt hb17
                                                            rw [show 350 * 0 + 140 + y4_3.toInt.toNat = 140 + y4_3.toInt.toNat by omega, kb, hat.1] at kB
                                                            have hj1 : z57.toInt.toNat - s_re R ar1.toInt.toNat = y4_3.toInt.toNat - s_re R ar1.toInt.toNat + 1 := by omega
                                                            obtain ⟨a, b, u, eS, ha1, hb1, H2⟩ := s_HI_a H hj (by omega)
                                                            obtain ⟨k, hk, e1, e0, e2⟩ := s_sl_2 eS
                                                            have c_z40 := t_clamp (i := z40) (by omega)
                                                            have h1 : g55 100 z40.toNatClampNeg = x55 := by rw [e55]; exact x_up2_at _ _ _ _
                                                            have h2 : ∀ j, j ≠ z40.toNatClampNeg → g55 100 j = gi4 100 j := fun j hj => by rw [e55]; exact x_up2_off (Or.inr hj)
                                                            have hw0 : w42.toInt = b := by rw [← e0, e42]; congr 2; have c_z41 := t_clamp (i := z41) (by omega); omega
                                                            have hw1 : w51.toInt = a := by rw [← e1, e51]; congr 2; have c_z39 := t_clamp (i := z39) (by omega); omega
                                                            have hv : x55.toInt = (if a = 1 ∧ b = 1 then 1 else 0) := by rw [ex55, show ((0 : Int32) &&& 1).toInt = 0 from rfl]; split <;> omega
                                                            rw [hj1, show z39.toInt.toNat = k + 1 by omega, s_sl_u (v := x55) (by rw [← h1]; congr 1 <;> omega) (fun j hj => h2 j (by omega)), hv, e2]
                                                            exact ⟨H2, by omega, by omega⟩)) rfl
            · have r58 : w51.toInt ≠ 0 := fun e => h53 (Int32.toInt_inj.mp (e.trans (by decide : (0:Int) = (0 : Int32).toInt)))
              have l59 : 1 ≤ w51.toInt := t_nel h53 l51 rfl rfl
              refine ev_ic f_X12_holds (nx := 129) (v := 1) rfl (by decide) rfl ?_
              refine ev_jmp f_X12_holds (nx := 161) rfl rfl rfl ?_
              have l61 : (0:Int) ≤ z40.toInt := (by have hs := hs17; omega)
              refine ev_zastE f_X12_holds (nx := 162) rfl (hI.wf.s rfl) l61 (by decide) u40 (by decide) rfl (fun x l u => hI.astL (hI.wf.s rfl) (by decide +kernel : t_abw 100 0 28 0 1 = true) (t_cl1 l61 (by decide)) (t_cl2 l61 u40 (by decide) (by decide)) l u rfl) (fun x => hX.upI (t_inA_ok rfl)) (fun g60 x60 e60 ex60 hI hX => ?_)
              refine ev_jmp f_X12_holds (nx := 180) rfl rfl rfl ?_
              refine ev_incR f_X12_holds (nx := 183) (c := 1) (l := 1) (u := 210) rfl rfl (by decide) (by decide) l4_3 u13 rfl rfl (by decide) (by decide) rfl (fun z62 e62 l62 u62 => ?_)
              refine ev_jmp f_X12_holds (nx := 14) rfl rfl rfl ?_
              refine ev_sub (lo := [(3, .int z62), (2, .int z39), (0, .ref 69), (1, .int ar1)]) rfl (t_sc rfl (t_sc rfl (t_sc rfl (t_sc rfl t_sn)))) ?_
              exact ih4 _ (by omega) g60 gl4 gr4 (z62) (z39) hI hX  (Int.le_trans (by decide : (0:Int) ≤ 1) l62) u62 l52 (Int.le_trans u39 (by decide : (29:Int) ≤ 30)) ((by rw [e60]; exact x_up2_off (Or.inl (by decide)) : g60 70 z2.toNatClampNeg = gi4 70 z2.toNatClampNeg).trans c4_0) (by have hz : z62.toInt.toNat = y4_3.toInt.toNat + 1 := (by omega); have hn : z39.toInt.toNat = y4_2.toInt.toNat - 1 := (by omega); rw [hz, hn]; exact t_okB j4_0 ha17 hk17 hb17 (by omega)) (fun j => (congrFun ((by rw [e60]; exact x_up2_ne (by decide) : g60 70 = gi4 70)) j).trans (j4_1 j)) (fun F R hM hQ hcr hr => (by
                                                            obtain ⟨H, hlo, hhi⟩ := j4_2 F R hM hQ hcr hr
                                                            have hs := s_re_s R _ hr
                                                            have ka := (hQ.2.2.1 _ hr).2.1
                                                            have kA := congrArg Int32.toInt ha17
                                                            rw [show 350 * 0 + 101 + 3 * ar1.toInt.toNat = 101 + 3 * ar1.toInt.toNat by omega, ka] at kA
                                                            have hj : y4_3.toInt.toNat - s_re R ar1.toInt.toNat < (R.getD ar1.toInt.toNat ([], 0)).1.length := by omega
                                                            have hat := s_fl_at R _ _ hr hj
                                                            rw [show s_re R ar1.toInt.toNat + (y4_3.toInt.toNat - s_re R ar1.toInt.toNat) = y4_3.toInt.toNat by omega] at hat
                                                            have kb := hQ.2.1 _ hat.2
                                                            have kB := congrArg Int32.toInt hb17
                                                            rw [show 350 * 0 + 140 + y4_3.toInt.toNat = 140 + y4_3.toInt.toNat by omega, kb, hat.1] at kB
                                                            have hj1 : z62.toInt.toNat - s_re R ar1.toInt.toNat = y4_3.toInt.toNat - s_re R ar1.toInt.toNat + 1 := by omega
                                                            obtain ⟨a, b, u, eS, ha1, hb1, H2⟩ := s_HI_a H hj (by omega)
                                                            obtain ⟨k, hk, e1, e0, e2⟩ := s_sl_2 eS
                                                            have c_z40 := t_clamp (i := z40) (by omega)
                                                            have h1 : g60 100 z40.toNatClampNeg = x60 := by rw [e60]; exact x_up2_at _ _ _ _
                                                            have h2 : ∀ j, j ≠ z40.toNatClampNeg → g60 100 j = gi4 100 j := fun j hj => by rw [e60]; exact x_up2_off (Or.inr hj)
                                                            have hw0 : w42.toInt = b := by rw [← e0, e42]; congr 2; have c_z41 := t_clamp (i := z41) (by omega); omega
                                                            have hw1 : w51.toInt = a := by rw [← e1, e51]; congr 2; have c_z39 := t_clamp (i := z39) (by omega); omega
                                                            have hv : x60.toInt = (if a = 1 ∧ b = 1 then 1 else 0) := by rw [ex60, show ((1 : Int32) &&& 1).toInt = 1 from rfl]; split <;> omega
                                                            rw [hj1, show z39.toInt.toNat = k + 1 by omega, s_sl_u (v := x60) (by rw [← h1]; congr 1 <;> omega) (fun j hj => h2 j (by omega)), hv, e2]
                                                            exact ⟨H2, by omega, by omega⟩)) rfl
        · have r63 : w16.toInt ≠ 19 := fun e => h36 (Int32.toInt_inj.mp (e.trans (by decide : (19:Int) = (19 : Int32).toInt)))
          refine ev_loc f_X12_holds (nx := 86) rfl rfl rfl rfl ?_
          refine ev_bp f_X12_holds (nx := 88) (v := 18) rfl (by decide) rfl ?_
          refine ev_if f_X12_holds (t1 := 91) (t2 := 165) rfl rfl rfl (fun h64 => ?_) (fun h64 => ?_)
          · have u65 : w16.toInt ≤ 18 := t_equ h64 (by decide : (18:Int32).toInt ≤ (18:Int))
            have l66 : 18 ≤ w16.toInt := t_eql h64 (by decide : (18:Int) ≤ (18:Int32).toInt)
            refine ev_incR f_X12_holds (nx := 94) (c := (-1)) (l := (-1)) (u := 29) rfl rfl (by decide) (by decide) l4_2 u4_2 rfl rfl (by decide) (by decide) rfl (fun z67 e67 l67 u67 => ?_)
            refine ev_loc f_X12_holds (nx := 95) rfl rfl rfl rfl ?_
            refine ev_getR f_X12_holds (nx := 98) rfl (hI.wf.s rfl) rfl rfl (hI.wf.r rfl) rfl rfl ?_
            refine ev_loc f_X12_holds (nx := 99) rfl rfl rfl rfl ?_
            refine ev_ic f_X12_holds (nx := 100) (v := 1) rfl (by decide) rfl ?_
            refine ev_subC f_X12_holds (nx := 101) (c := 1) (l := (-2)) (u := 28) rfl (by decide) l67 u67 rfl rfl (by decide) (by decide) rfl (fun z68 e68 l68 u68 => ?_)
            refine ev_loc f_X12_holds (nx := 103) rfl rfl rfl rfl ?_
            refine ev_bp f_X12_holds (nx := 105) (v := 19) rfl (by decide) rfl ?_
            refine ev_f f_X12_holds (t1 := 108) (t2 := 136) rfl rfl rfl (t_neT u65 (by decide : (19:Int) ≤ (19:Int32).toInt) (by decide)) ?_
            refine ev_loc f_X12_holds (nx := 137) rfl rfl rfl rfl ?_
            refine ev_getR f_X12_holds (nx := 140) rfl (hI.wf.s rfl) rfl rfl (hI.wf.r rfl) rfl rfl ?_
            refine ev_loc f_X12_holds (nx := 141) rfl rfl rfl rfl ?_
            refine ev_ic f_X12_holds (nx := 142) (v := 1) rfl (by decide) rfl ?_
            refine ev_subC f_X12_holds (nx := 143) (c := 1) (l := (-2)) (u := 28) rfl (by decide) l67 u67 rfl rfl (by decide) (by decide) rfl (fun z69 e69 l69 u69 => ?_)
            have l71 : (0:Int) ≤ z69.toInt := (by have hs := hs17; omega)
            refine ev_baldT f_X12_holds (nx := 144) rfl (hI.wf.s rfl) rfl l71 (by decide) u69 (by decide) rfl (fun w70 e70 => ?_)
            obtain ⟨l70, u70⟩ := hI.abi e70 (by decide +kernel : t_abr 100 0 28 0 1 = true) l71 (by decide) u69 (by decide)
            refine ev_if f_X12_holds (t1 := 147) (t2 := 156) rfl rfl rfl (fun h72 => ?_) (fun h72 => ?_)
            · have u73 : w70.toInt ≤ 0 := t_equ h72 (by decide : (0:Int32).toInt ≤ (0:Int))
              refine ev_loc f_X12_holds (nx := 148) rfl rfl rfl rfl ?_
              refine ev_getR f_X12_holds (nx := 151) rfl (hI.wf.s rfl) rfl rfl (hI.wf.r rfl) rfl rfl ?_
              refine ev_loc f_X12_holds (nx := 152) rfl rfl rfl rfl ?_
              have l75 : (0:Int) ≤ z67.toInt := (by have hs := hs17; omega)
              refine ev_baldT f_X12_holds (nx := 153) rfl (hI.wf.s rfl) rfl l75 (by decide) u67 (by decide) rfl (fun w74 e74 => ?_)
              obtain ⟨l74, u74⟩ := hI.abi e74 (by decide +kernel : t_abr 100 0 29 0 1 = true) l75 (by decide) u67 (by decide)
              refine ev_if f_X12_holds (t1 := 160) (t2 := 156) rfl rfl rfl (fun h76 => ?_) (fun h76 => ?_)
              · have u77 : w74.toInt ≤ 0 := t_equ h76 (by decide : (0:Int32).toInt ≤ (0:Int))
                refine ev_ic f_X12_holds (nx := 161) (v := 0) rfl (by decide) rfl ?_
                have l79 : (0:Int) ≤ z68.toInt := (by have hs := hs17; omega)
                refine ev_zastE f_X12_holds (nx := 162) rfl (hI.wf.s rfl) l79 (by decide) u68 (by decide) rfl (fun x l u => hI.astL (hI.wf.s rfl) (by decide +kernel : t_abw 100 0 28 0 1 = true) (t_cl1 l79 (by decide)) (t_cl2 l79 u68 (by decide) (by decide)) l u rfl) (fun x => hX.upI (t_inA_ok rfl)) (fun g78 x78 e78 ex78 hI hX => ?_)
                refine ev_jmp f_X12_holds (nx := 180) rfl rfl rfl ?_
                refine ev_incR f_X12_holds (nx := 183) (c := 1) (l := 1) (u := 210) rfl rfl (by decide) (by decide) l4_3 u13 rfl rfl (by decide) (by decide) rfl (fun z80 e80 l80 u80 => ?_)
                refine ev_jmp f_X12_holds (nx := 14) rfl rfl rfl ?_
                refine ev_sub (lo := [(3, .int z80), (2, .int z67), (0, .ref 69), (1, .int ar1)]) rfl (t_sc rfl (t_sc rfl (t_sc rfl (t_sc rfl t_sn)))) ?_
                exact ih4 _ (by omega) g78 gl4 gr4 (z80) (z67) hI hX  (Int.le_trans (by decide : (0:Int) ≤ 1) l80) u80 l75 (Int.le_trans u67 (by decide : (29:Int) ≤ 30)) ((by rw [e78]; exact x_up2_off (Or.inl (by decide)) : g78 70 z2.toNatClampNeg = gi4 70 z2.toNatClampNeg).trans c4_0) (by have hz : z80.toInt.toNat = y4_3.toInt.toNat + 1 := (by omega); have hn : z67.toInt.toNat = y4_2.toInt.toNat - 1 := (by omega); rw [hz, hn]; exact t_okB j4_0 ha17 hk17 hb17 (by omega)) (fun j => (congrFun ((by rw [e78]; exact x_up2_ne (by decide) : g78 70 = gi4 70)) j).trans (j4_1 j)) (fun F R hM hQ hcr hr => (by
                                                            obtain ⟨H, hlo, hhi⟩ := j4_2 F R hM hQ hcr hr
                                                            have hs := s_re_s R _ hr
                                                            have ka := (hQ.2.2.1 _ hr).2.1
                                                            have kA := congrArg Int32.toInt ha17
                                                            rw [show 350 * 0 + 101 + 3 * ar1.toInt.toNat = 101 + 3 * ar1.toInt.toNat by omega, ka] at kA
                                                            have hj : y4_3.toInt.toNat - s_re R ar1.toInt.toNat < (R.getD ar1.toInt.toNat ([], 0)).1.length := by omega
                                                            have hat := s_fl_at R _ _ hr hj
                                                            rw [show s_re R ar1.toInt.toNat + (y4_3.toInt.toNat - s_re R ar1.toInt.toNat) = y4_3.toInt.toNat by omega] at hat
                                                            have kb := hQ.2.1 _ hat.2
                                                            have kB := congrArg Int32.toInt hb17
                                                            rw [show 350 * 0 + 140 + y4_3.toInt.toNat = 140 + y4_3.toInt.toNat by omega, kb, hat.1] at kB
                                                            have hj1 : z80.toInt.toNat - s_re R ar1.toInt.toNat = y4_3.toInt.toNat - s_re R ar1.toInt.toNat + 1 := by omega
                                                            obtain ⟨a, b, u, eS, ha1, hb1, H2⟩ := s_HI_o H hj (by omega)
                                                            obtain ⟨k, hk, e1, e0, e2⟩ := s_sl_2 eS
                                                            have c_z68 := t_clamp (i := z68) (by omega)
                                                            have h1 : g78 100 z68.toNatClampNeg = x78 := by rw [e78]; exact x_up2_at _ _ _ _
                                                            have h2 : ∀ j, j ≠ z68.toNatClampNeg → g78 100 j = gi4 100 j := fun j hj => by rw [e78]; exact x_up2_off (Or.inr hj)
                                                            have hw0 : w70.toInt = b := by rw [← e0, e70]; congr 2; have c_z69 := t_clamp (i := z69) (by omega); omega
                                                            have hw1 : w74.toInt = a := by rw [← e1, e74]; congr 2; have c_z67 := t_clamp (i := z67) (by omega); omega
                                                            have hv : x78.toInt = (if a = 1 ∨ b = 1 then 1 else 0) := by rw [ex78, show ((0 : Int32) &&& 1).toInt = 0 from rfl]; split <;> omega
                                                            rw [hj1, show z67.toInt.toNat = k + 1 by omega, s_sl_u (v := x78) (by rw [← h1]; congr 1 <;> omega) (fun j hj => h2 j (by omega)), hv, e2]
                                                            exact ⟨H2, by omega, by omega⟩)) rfl
              · have r81 : w74.toInt ≠ 0 := fun e => h76 (Int32.toInt_inj.mp (e.trans (by decide : (0:Int) = (0 : Int32).toInt)))
                have l82 : 1 ≤ w74.toInt := t_nel h76 l74 rfl rfl
                refine ev_ic f_X12_holds (nx := 157) (v := 1) rfl (by decide) rfl ?_
                refine ev_jmp f_X12_holds (nx := 161) rfl rfl rfl ?_
                have l84 : (0:Int) ≤ z68.toInt := (by have hs := hs17; omega)
                refine ev_zastE f_X12_holds (nx := 162) rfl (hI.wf.s rfl) l84 (by decide) u68 (by decide) rfl (fun x l u => hI.astL (hI.wf.s rfl) (by decide +kernel : t_abw 100 0 28 0 1 = true) (t_cl1 l84 (by decide)) (t_cl2 l84 u68 (by decide) (by decide)) l u rfl) (fun x => hX.upI (t_inA_ok rfl)) (fun g83 x83 e83 ex83 hI hX => ?_)
                refine ev_jmp f_X12_holds (nx := 180) rfl rfl rfl ?_
                refine ev_incR f_X12_holds (nx := 183) (c := 1) (l := 1) (u := 210) rfl rfl (by decide) (by decide) l4_3 u13 rfl rfl (by decide) (by decide) rfl (fun z85 e85 l85 u85 => ?_)
                refine ev_jmp f_X12_holds (nx := 14) rfl rfl rfl ?_
                refine ev_sub (lo := [(3, .int z85), (2, .int z67), (0, .ref 69), (1, .int ar1)]) rfl (t_sc rfl (t_sc rfl (t_sc rfl (t_sc rfl t_sn)))) ?_
                exact ih4 _ (by omega) g83 gl4 gr4 (z85) (z67) hI hX  (Int.le_trans (by decide : (0:Int) ≤ 1) l85) u85 l75 (Int.le_trans u67 (by decide : (29:Int) ≤ 30)) ((by rw [e83]; exact x_up2_off (Or.inl (by decide)) : g83 70 z2.toNatClampNeg = gi4 70 z2.toNatClampNeg).trans c4_0) (by have hz : z85.toInt.toNat = y4_3.toInt.toNat + 1 := (by omega); have hn : z67.toInt.toNat = y4_2.toInt.toNat - 1 := (by omega); rw [hz, hn]; exact t_okB j4_0 ha17 hk17 hb17 (by omega)) (fun j => (congrFun ((by rw [e83]; exact x_up2_ne (by decide) : g83 70 = gi4 70)) j).trans (j4_1 j)) (fun F R hM hQ hcr hr => (by
                                                            obtain ⟨H, hlo, hhi⟩ := j4_2 F R hM hQ hcr hr
                                                            have hs := s_re_s R _ hr
                                                            have ka := (hQ.2.2.1 _ hr).2.1
                                                            have kA := congrArg Int32.toInt ha17
                                                            rw [show 350 * 0 + 101 + 3 * ar1.toInt.toNat = 101 + 3 * ar1.toInt.toNat by omega, ka] at kA
                                                            have hj : y4_3.toInt.toNat - s_re R ar1.toInt.toNat < (R.getD ar1.toInt.toNat ([], 0)).1.length := by omega
                                                            have hat := s_fl_at R _ _ hr hj
                                                            rw [show s_re R ar1.toInt.toNat + (y4_3.toInt.toNat - s_re R ar1.toInt.toNat) = y4_3.toInt.toNat by omega] at hat
                                                            have kb := hQ.2.1 _ hat.2
                                                            have kB := congrArg Int32.toInt hb17
                                                            rw [show 350 * 0 + 140 + y4_3.toInt.toNat = 140 + y4_3.toInt.toNat by omega, kb, hat.1] at kB
                                                            have hj1 : z85.toInt.toNat - s_re R ar1.toInt.toNat = y4_3.toInt.toNat - s_re R ar1.toInt.toNat + 1 := by omega
                                                            obtain ⟨a, b, u, eS, ha1, hb1, H2⟩ := s_HI_o H hj (by omega)
                                                            obtain ⟨k, hk, e1, e0, e2⟩ := s_sl_2 eS
                                                            have c_z68 := t_clamp (i := z68) (by omega)
                                                            have h1 : g83 100 z68.toNatClampNeg = x83 := by rw [e83]; exact x_up2_at _ _ _ _
                                                            have h2 : ∀ j, j ≠ z68.toNatClampNeg → g83 100 j = gi4 100 j := fun j hj => by rw [e83]; exact x_up2_off (Or.inr hj)
                                                            have hw0 : w70.toInt = b := by rw [← e0, e70]; congr 2; have c_z69 := t_clamp (i := z69) (by omega); omega
                                                            have hw1 : w74.toInt = a := by rw [← e1, e74]; congr 2; have c_z67 := t_clamp (i := z67) (by omega); omega
                                                            have hv : x83.toInt = (if a = 1 ∨ b = 1 then 1 else 0) := by rw [ex83, show ((1 : Int32) &&& 1).toInt = 1 from rfl]; split <;> omega
                                                            rw [hj1, show z67.toInt.toNat = k + 1 by omega, s_sl_u (v := x83) (by rw [← h1]; congr 1 <;> omega) (fun j hj => h2 j (by omega)), hv, e2]
                                                            exact ⟨H2, by omega, by omega⟩)) rfl
            · have r86 : w70.toInt ≠ 0 := fun e => h72 (Int32.toInt_inj.mp (e.trans (by decide : (0:Int) = (0 : Int32).toInt)))
              have l87 : 1 ≤ w70.toInt := t_nel h72 l70 rfl rfl
              refine ev_ic f_X12_holds (nx := 157) (v := 1) rfl (by decide) rfl ?_
              refine ev_jmp f_X12_holds (nx := 161) rfl rfl rfl ?_
              have l89 : (0:Int) ≤ z68.toInt := (by have hs := hs17; omega)
              refine ev_zastE f_X12_holds (nx := 162) rfl (hI.wf.s rfl) l89 (by decide) u68 (by decide) rfl (fun x l u => hI.astL (hI.wf.s rfl) (by decide +kernel : t_abw 100 0 28 0 1 = true) (t_cl1 l89 (by decide)) (t_cl2 l89 u68 (by decide) (by decide)) l u rfl) (fun x => hX.upI (t_inA_ok rfl)) (fun g88 x88 e88 ex88 hI hX => ?_)
              refine ev_jmp f_X12_holds (nx := 180) rfl rfl rfl ?_
              refine ev_incR f_X12_holds (nx := 183) (c := 1) (l := 1) (u := 210) rfl rfl (by decide) (by decide) l4_3 u13 rfl rfl (by decide) (by decide) rfl (fun z90 e90 l90 u90 => ?_)
              refine ev_jmp f_X12_holds (nx := 14) rfl rfl rfl ?_
              refine ev_sub (lo := [(3, .int z90), (2, .int z67), (0, .ref 69), (1, .int ar1)]) rfl (t_sc rfl (t_sc rfl (t_sc rfl (t_sc rfl t_sn)))) ?_
              exact ih4 _ (by omega) g88 gl4 gr4 (z90) (z67) hI hX  (Int.le_trans (by decide : (0:Int) ≤ 1) l90) u90 (by omega : (0:Int) ≤ z67.toInt) (Int.le_trans u67 (by decide : (29:Int) ≤ 30)) ((by rw [e88]; exact x_up2_off (Or.inl (by decide)) : g88 70 z2.toNatClampNeg = gi4 70 z2.toNatClampNeg).trans c4_0) (by have hz : z90.toInt.toNat = y4_3.toInt.toNat + 1 := (by omega); have hn : z67.toInt.toNat = y4_2.toInt.toNat - 1 := (by omega); rw [hz, hn]; exact t_okB j4_0 ha17 hk17 hb17 (by omega)) (fun j => (congrFun ((by rw [e88]; exact x_up2_ne (by decide) : g88 70 = gi4 70)) j).trans (j4_1 j)) (fun F R hM hQ hcr hr => (by
                                                            obtain ⟨H, hlo, hhi⟩ := j4_2 F R hM hQ hcr hr
                                                            have hs := s_re_s R _ hr
                                                            have ka := (hQ.2.2.1 _ hr).2.1
                                                            have kA := congrArg Int32.toInt ha17
                                                            rw [show 350 * 0 + 101 + 3 * ar1.toInt.toNat = 101 + 3 * ar1.toInt.toNat by omega, ka] at kA
                                                            have hj : y4_3.toInt.toNat - s_re R ar1.toInt.toNat < (R.getD ar1.toInt.toNat ([], 0)).1.length := by omega
                                                            have hat := s_fl_at R _ _ hr hj
                                                            rw [show s_re R ar1.toInt.toNat + (y4_3.toInt.toNat - s_re R ar1.toInt.toNat) = y4_3.toInt.toNat by omega] at hat
                                                            have kb := hQ.2.1 _ hat.2
                                                            have kB := congrArg Int32.toInt hb17
                                                            rw [show 350 * 0 + 140 + y4_3.toInt.toNat = 140 + y4_3.toInt.toNat by omega, kb, hat.1] at kB
                                                            have hj1 : z90.toInt.toNat - s_re R ar1.toInt.toNat = y4_3.toInt.toNat - s_re R ar1.toInt.toNat + 1 := by omega
                                                            obtain ⟨a, b, u, eS, ha1, hb1, H2⟩ := s_HI_o H hj (by omega)
                                                            obtain ⟨k, hk, e1, e0, e2⟩ := s_sl_2 eS
                                                            have c_z68 := t_clamp (i := z68) (by omega)
                                                            have h1 : g88 100 z68.toNatClampNeg = x88 := by rw [e88]; exact x_up2_at _ _ _ _
                                                            have h2 : ∀ j, j ≠ z68.toNatClampNeg → g88 100 j = gi4 100 j := fun j hj => by rw [e88]; exact x_up2_off (Or.inr hj)
                                                            have hw0 : w70.toInt = b := by rw [← e0, e70]; congr 2; have c_z69 := t_clamp (i := z69) (by omega); omega
                                                            have hv : x88.toInt = (if a = 1 ∨ b = 1 then 1 else 0) := by rw [ex88, show ((1 : Int32) &&& 1).toInt = 1 from rfl]; split <;> omega
                                                            rw [hj1, show z67.toInt.toNat = k + 1 by omega, s_sl_u (v := x88) (by rw [← h1]; congr 1 <;> omega) (fun j hj => h2 j (by omega)), hv, e2]
                                                            exact ⟨H2, by omega, by omega⟩)) rfl
          · have r91 : w16.toInt ≠ 18 := fun e => h64 (Int32.toInt_inj.mp (e.trans (by decide : (18:Int) = (18 : Int32).toInt)))
            refine ev_loc f_X12_holds (nx := 166) rfl rfl rfl rfl ?_
            refine ev_getR f_X12_holds (nx := 169) rfl (hI.wf.s rfl) rfl rfl (hI.wf.r rfl) rfl rfl ?_
            refine ev_loc f_X12_holds (nx := 170) rfl rfl rfl rfl ?_
            refine ev_loc f_X12_holds (nx := 171) rfl rfl rfl rfl ?_
            refine ev_loc f_X12_holds (nx := 173) rfl rfl rfl rfl ?_
            refine ev_qI0 f_X12_holds (nx := 176) (r := [.int y4_2, .ref 100]) rfl rfl rfl rfl rfl rfl rfl (c_e_asked hI (w16)) rfl (fun w92 l92 u92 q92 => ?_)
            have q92 : (∀ F : Nat → Int, t_MA F gi4 → (w16.toInt = 15 ∨ w16.toInt = 16 ∨ (2200000 ≤ w16.toInt ∧ w16.toInt < 2700000)) → w92.toInt = s_cs F w16.toInt) := q92
            refine ev_zastE f_X12_holds (nx := 177) rfl (hI.wf.s rfl) l4_2 (by decide) u4_2 (by decide) rfl (fun x l u => hI.astL (hI.wf.s rfl) (by decide +kernel : t_abw 100 0 30 0 1 = true) (t_cl1 l4_2 (by decide)) (t_cl2 l4_2 u4_2 (by decide) (by decide)) l u rfl) (fun x => hX.upI (t_inA_ok rfl)) (fun g93 x93 e93 ex93 hI hX => ?_)
            refine ev_incR f_X12_holds (nx := 180) (c := 1) (l := 1) (u := 31) rfl rfl (by decide) (by decide) l4_2 u4_2 rfl rfl (by decide) (by decide) rfl (fun z94 e94 l94 u94 => ?_)
            refine ev_incR f_X12_holds (nx := 183) (c := 1) (l := 1) (u := 210) rfl rfl (by decide) (by decide) l4_3 u13 rfl rfl (by decide) (by decide) rfl (fun z95 e95 l95 u95 => ?_)
            refine ev_jmp f_X12_holds (nx := 14) rfl rfl rfl ?_
            refine ev_sub (lo := [(3, .int z95), (2, .int z94), (0, .ref 69), (1, .int ar1)]) rfl (t_sc rfl (t_sc rfl (t_sc rfl (t_sc rfl t_sn)))) ?_
            exact ih4 _ (by omega) g93 gl4 gr4 (z95) (z94) hI hX  (Int.le_trans (by decide : (0:Int) ≤ 1) l95) u95 (Int.le_trans (by decide : (0:Int) ≤ 1) l94) (by omega : z94.toInt ≤ (30:Int)) ((by rw [e93]; exact x_up2_off (Or.inl (by decide)) : g93 70 z2.toNatClampNeg = gi4 70 z2.toNatClampNeg).trans c4_0) (by have hz : z95.toInt.toNat = y4_3.toInt.toNat + 1 := (by omega); have hn : z94.toInt.toNat = y4_2.toInt.toNat + 1 := (by omega); rw [hz, hn]; exact t_okP j4_0 ha17 hk17 hb17 (by omega) (by omega) (by omega)) (fun j => (congrFun ((by rw [e93]; exact x_up2_ne (by decide) : g93 70 = gi4 70)) j).trans (j4_1 j)) (fun F R hM hQ hcr hr => (by
                                                            obtain ⟨H, hlo, hhi⟩ := j4_2 F R hM hQ hcr hr
                                                            have hs := s_re_s R _ hr
                                                            have ka := (hQ.2.2.1 _ hr).2.1
                                                            have kA := congrArg Int32.toInt ha17
                                                            rw [show 350 * 0 + 101 + 3 * ar1.toInt.toNat = 101 + 3 * ar1.toInt.toNat by omega, ka] at kA
                                                            have hj : y4_3.toInt.toNat - s_re R ar1.toInt.toNat < (R.getD ar1.toInt.toNat ([], 0)).1.length := by omega
                                                            have hat := s_fl_at R _ _ hr hj
                                                            rw [show s_re R ar1.toInt.toNat + (y4_3.toInt.toNat - s_re R ar1.toInt.toNat) = y4_3.toInt.toNat by omega] at hat
                                                            have kb := hQ.2.1 _ hat.2
                                                            have kB := congrArg Int32.toInt hb17
                                                            rw [show 350 * 0 + 140 + y4_3.toInt.toNat = 140 + y4_3.toInt.toNat by omega, kb, hat.1] at kB
                                                            have hj1 : z95.toInt.toNat - s_re R ar1.toInt.toNat = y4_3.toInt.toNat - s_re R ar1.toInt.toNat + 1 := by omega
                                                            have hv0 := q92 F (hM.fr (t_F_nc (t_F_X hXh) rfl (by decide)) (t_F_nc (t_F_X hXh) rfl (by decide)) (t_F_nc (t_F_X hXh) rfl (by decide)) (t_F_nc (t_F_X hXh) rfl (by decide)) (t_F_nc (t_F_X hXh) rfl (by decide))) (by have := hcr _ hat.2; rw [hat.1] at this; omega)
                                                            obtain ⟨hl, H2⟩ := s_HI_c H hj (by omega) (by omega) (by omega)
                                                            have c_y4_2 := t_clamp (i := y4_2) (by omega)
                                                            have h1 : g93 100 y4_2.toNatClampNeg = x93 := by rw [e93]; exact x_up2_at _ _ _ _
                                                            have h2 : ∀ j, j ≠ y4_2.toNatClampNeg → g93 100 j = gi4 100 j := fun j hj => by rw [e93]; exact x_up2_off (Or.inr hj)
                                                            have hv : x93.toInt = s_cs F ((R.getD ar1.toInt.toNat ([], 0)).1.getD (y4_3.toInt.toNat - s_re R ar1.toInt.toNat) 0) := by rw [ex93, t_cb1 (by omega), hv0, kB]
                                                            rw [hj1, show z94.toInt.toNat = y4_2.toInt.toNat + 1 by omega, s_sl_u (v := x93) (by rw [← h1]; congr 1 <;> omega) (fun j hj => h2 j (by omega)), hv]
                                                            exact ⟨H2, by omega, by omega⟩)) rfl
  refine ev_sub (lo := [(3, .int w3), (2, .int 0), (0, .ref 69), (1, .int ar1)]) rfl (t_sc rfl (t_sc rfl (t_sc rfl (t_sc rfl t_sn)))) ?_
  exact L4 _ gi gl gr (w3) (0) hI hX  l3 u3 (by decide : (0:Int) ≤ (0:Int32).toInt) (Int.le_trans (by decide : (0:Int32).toInt ≤ (0:Int)) (by decide : (0:Int) ≤ 30)) e3.symm (by have hl := t_ldeq (g0 := gi) (p := 350 * 0 + 100 + 3 * ar1.toInt.toNat) e3 (fun _ => rfl) (by omega) (by omega); have hz : w3.toInt.toNat = t_lw (gi 70) 0 ar1.toInt.toNat := (by unfold t_lw; rw [← hl]); rw [hz]; exact e_p0) (fun _ => rfl) (fun F R hM hQ hcr hr => (by
                                                            have hb := (hQ.2.2.1 _ hr).1
                                                            have hs := s_re_s R _ hr
                                                            have hc := t_clamp (i := z2) (by omega)
                                                            have e3 : w3.toInt = ((s_re R ar1.toInt.toNat : Nat) : Int) := by rw [e3, show z2.toNatClampNeg = 100 + 3 * ar1.toInt.toNat by omega]; exact hb
                                                            exact ⟨by rw [show w3.toInt.toNat - s_re R ar1.toInt.toNat = 0 by omega]; exact s_HI_0 (hQ.2.2.2 _ hr), by omega, by omega⟩)) rfl
noncomputable def wl_e_actNow : List (Nat × Nat) := [(100, 9999)]
noncomputable def Q_e_actNow (gi : Nat → Nat → Int32) (gl : Nat → Nat → Int64) (gr : Nat → Nat → Value) : Int32 → (Nat → Nat → Int32) → (Nat → Nat → Int64) → (Nat → Nat → Value) → Prop := fun (v : Int32) (gi2 : Nat → Nat → Int32) (gl2 : Nat → Nat → Int64) (gr2 : Nat → Nat → Value) => (∀ (F : Nat → Int) (R : List (List Int × Int)), t_MA F gi → t_MQ (gi 70) R → s_crs R → v.toInt = s_ac F R + 15)
theorem c_e_actNow {X : x_Ext} {d : Nat} {sh : List (Nat ⊕ (Nat × Nat))} {gi : Nat → Nat → Int32} {gl : Nat → Nat → Int64} {gr : Nat → Nat → Value} (hI : t_I sh gi gr) (e_p0 : t_rpn (gi 70) 0) : x_Me X (d + 4) n_X12_actNow [.ref 69] (sh, gi, gl, gr) (t_PI wl_e_actNow sh gi gl gr 0 17 (Q_e_actNow gi gl gr)) := by
  have hX : t_X wl_e_actNow sh gi gl gr gi gl gr := t_X.rf
  refine me_i f_X12_actNow (hI.wf.s rfl) rfl rfl rfl ?_
  refine ev_ic f_X12_actNow (nx := 1) (v := 0) rfl (by decide) rfl ?_
  refine ev_loc f_X12_actNow (nx := 2) (lo' := [(1, .int 0), (0, .ref 69)]) rfl rfl rfl rfl ?_
  have L1 : ∀ (m1 : Nat) (gi1 : Nat → Nat → Int32) (gl1 : Nat → Nat → Int64) (gr1 : Nat → Nat → Value) (y1_1 : Int32), t_I sh gi1 gr1 → t_X wl_e_actNow sh gi gl gr gi1 gl1 gr1 → 0 ≤ y1_1.toInt → y1_1.toInt ≤ 12 → (∀ j, gi1 70 j = gi 70 j) → (∀ (F : Nat → Int) (R : List (List Int × Int)), t_MA F gi → t_MQ (gi 70) R → s_crs R → s_ac F R = s_ac F (R.drop y1_1.toInt.toNat) ∧ y1_1.toInt ≤ (R.length : Int)) → (12 - y1_1.toInt).toNat = m1 → x_Ev X (d + 4) n_X12_actNow 2 [(1, .int y1_1), (0, .ref 69)] [] (sh, gi1, gl1, gr1) (t_PI wl_e_actNow sh gi gl gr 0 17 (Q_e_actNow gi gl gr)) := by
    intro m1
    induction m1 using Nat.strongRecOn with
    | _ m1 ih1 =>
    intro gi1 gl1 gr1 y1_1 hI hX l1_1 u1_1 j1_0 j1_1 hm1
    refine ev_loc f_X12_actNow (nx := 3) rfl rfl rfl rfl ?_
    refine ev_loc f_X12_actNow (nx := 4) rfl rfl rfl rfl ?_
    refine ev_getR f_X12_actNow (nx := 7) rfl (hI.wf.s rfl) rfl rfl (hI.wf.r rfl) rfl rfl ?_
    refine ev_ic f_X12_actNow (nx := 8) (v := 3) rfl (by decide) rfl ?_
    obtain ⟨l2, u2⟩ := hI.ab (by decide +kernel : t_abr 70 3 3 0 12 = true) (Nat.le_refl _) (Nat.le_refl _)
    refine ev_ialdv f_X12_actNow (nx := 9) (w := (gi1 70 3)) rfl (hI.wf.s rfl) (by decide) (rfl : (3 : Int32).toNatClampNeg = 3) (by decide) rfl rfl ?_
    refine ev_if f_X12_actNow (t1 := 40) (t2 := 12) rfl rfl rfl (fun h3 => ?_) (fun h3 => ?_)
    · have r4 : (gi1 70 3).toInt ≤ y1_1.toInt := Int32.le_iff_toInt_le.mp h3
      refine ev_bp f_X12_actNow (nx := 42) (v := 17) rfl (by decide) rfl ?_
      exact ev_ret f_X12_actNow rfl rfl rfl ⟨_, _, _, rfl, hI, hX, ⟨_, rfl, (Int.le_trans (by decide : (0:Int) ≤ 17) (by decide : (17:Int) ≤ (17:Int32).toInt)), (by decide : (17:Int32).toInt ≤ (17:Int)), (show (∀ (F : Nat → Int) (R : List (List Int × Int)), t_MA F gi → t_MQ (gi 70) R → s_crs R → (17 : Int) = s_ac F R + 15) from (fun F R hM hQ hcr => (by
                                                            obtain ⟨h1, h2⟩ := j1_1 F R hM hQ hcr
                                                            have e70 : gi1 70 = gi 70 := funext j1_0
                                                            have k3 := congrArg Int32.toInt (congrFun e70 3)
                                                            have hm := hQ.1.1
                                                            rw [h1, s_ac_e (by omega)]; rfl)))⟩⟩
    · have r5 : y1_1.toInt < (gi1 70 3).toInt := Int32.lt_iff_toInt_lt.mp (t_nle h3)
      have u6 : y1_1.toInt ≤ 11 := t_ltu (t_nle h3) u2 rfl
      have l7 : 1 ≤ (gi1 70 3).toInt := t_ltl (t_nle h3) l1_1 rfl
      have hX1 := hX
      refine ev_loc f_X12_actNow (nx := 13) rfl rfl rfl rfl ?_
      refine ev_loc f_X12_actNow (nx := 14) rfl rfl rfl rfl ?_
      refine ev_qI f_X12_actNow (nx := 17) (r := []) rfl rfl rfl rfl rfl rfl rfl (c_e_holds hI (y1_1) l1_1 u6 (by have hf : gi1 70 = gi 70 := funext j1_0; rw [hf]; refine e_p0 _ ?_; have h3 := j1_0 3; show _ < (gi 70 3).toInt; rw [← h3]; omega)) rfl hX rfl (fun w8 gi8 gl8 gr8 l8 u8 hI hX hC8 q8 => ?_)
      have q8 : (∀ (F : Nat → Int) (R : List (List Int × Int)), t_MA F gi1 → t_MQ (gi1 70) R → s_crs R → y1_1.toInt.toNat < R.length → (w8.toInt = 1 ↔ s_tpx (s_ex F (R.getD y1_1.toInt.toNat ([], 0)).1 []) = 1)) := q8
      refine ev_if f_X12_actNow (t1 := 34) (t2 := 20) rfl rfl rfl (fun h9 => ?_) (fun h9 => ?_)
      · have u10 : w8.toInt ≤ 0 := t_equ h9 (by decide : (0:Int32).toInt ≤ (0:Int))
        refine ev_incR f_X12_actNow (nx := 37) (c := 1) (l := 1) (u := 12) rfl rfl (by decide) (by decide) l1_1 u6 rfl rfl (by decide) (by decide) rfl (fun z11 e11 l11 u11 => ?_)
        refine ev_jmp f_X12_actNow (nx := 2) rfl rfl rfl ?_
        refine ev_sub (lo := [(1, .int z11), (0, .ref 69)]) rfl (t_sc rfl (t_sc rfl t_sn)) ?_
        exact ih1 _ (by omega) gi8 gl8 gr8 (z11) hI hX  (Int.le_trans (by decide : (0:Int) ≤ 1) l11) u11 (fun j => (congrFun ((funext (fun j => (hC8.1 70 j rfl).1) : gi8 70 = gi1 70)) j).trans (j1_0 j)) (fun F R hM hQ hcr => (by
                                                            obtain ⟨h1, h2⟩ := j1_1 F R hM hQ hcr
                                                            have e70 : gi1 70 = gi 70 := funext j1_0
                                                            have hm := hQ.1.1
                                                            have hM2 := hM.fr (t_F_nc (t_F_X hX1) rfl (by decide)) (t_F_nc (t_F_X hX1) rfl (by decide)) (t_F_nc (t_F_X hX1) rfl (by decide)) (t_F_nc (t_F_X hX1) rfl (by decide)) (t_F_nc (t_F_X hX1) rfl (by decide))
                                                            have hr : y1_1.toInt.toNat < R.length := by have k3 := congrArg Int32.toInt (congrFun e70 3); omega
                                                            have hq := q8 F R hM2 (by rw [e70]; exact hQ) hcr hr
                                                            have hx : z11.toInt.toNat = y1_1.toInt.toNat + 1 := by omega
                                                            exact ⟨by rw [h1, hx]; exact s_ac_n hr (fun hh => by have := hq.mpr hh; omega), by omega⟩)) rfl
      · have r12 : w8.toInt ≠ 0 := fun e => h9 (Int32.toInt_inj.mp (e.trans (by decide : (0:Int) = (0 : Int32).toInt)))
        have l13 : 1 ≤ w8.toInt := t_nel h9 l8 rfl rfl
        refine ev_loc f_X12_actNow (nx := 21) rfl rfl rfl rfl ?_
        refine ev_getR f_X12_actNow (nx := 24) rfl (hI.wf.s rfl) rfl rfl (hI.wf.r rfl) rfl rfl ?_
        refine ev_bp f_X12_actNow (nx := 26) (v := 100) rfl (by decide) rfl ?_
        refine ev_ic f_X12_actNow (nx := 27) (v := 3) rfl (by decide) rfl ?_
        refine ev_loc f_X12_actNow (nx := 28) rfl rfl rfl rfl ?_
        refine ev_mulL f_X12_actNow (nx := 29) (c := 3) (l := 0) (u := 33) rfl (by decide) (by decide) l1_1 u6 rfl rfl (by decide) (by decide) rfl (fun z14 e14 l14 u14 => ?_)
        refine ev_addK f_X12_actNow (nx := 30) (c := 100) (l := 100) (u := 133) rfl (by decide) l14 u14 rfl rfl (by decide) (by decide) rfl (fun z15 e15 l15 u15 => ?_)
        refine ev_ic f_X12_actNow (nx := 31) (v := 2) rfl (by decide) rfl ?_
        refine ev_addC f_X12_actNow (nx := 32) (c := 2) (l := 102) (u := 135) rfl (by decide) l15 u15 rfl rfl (by decide) (by decide) rfl (fun z16 e16 l16 u16 => ?_)
        refine ev_ialdT f_X12_actNow (nx := 33) rfl (hI.wf.s rfl) l16 (by decide) u16 (by decide) rfl (fun w17 e17 => ?_)
        obtain ⟨l17, u17⟩ := hI.abA (x := y1_1) e17 (by decide +kernel : t_aba 70 102 3 0 11 0 17 = true) (by omega) (by omega) (by omega)
        exact ev_ret f_X12_actNow rfl rfl rfl ⟨_, _, _, rfl, hI, hX, ⟨_, rfl, l17, u17, (show (∀ (F : Nat → Int) (R : List (List Int × Int)), t_MA F gi → t_MQ (gi 70) R → s_crs R → w17.toInt = s_ac F R + 15) from (fun F R hM hQ hcr => (by
                                                            obtain ⟨h1, h2⟩ := j1_1 F R hM hQ hcr
                                                            have e70 : gi1 70 = gi 70 := funext j1_0
                                                            have hm := hQ.1.1
                                                            have hM2 := hM.fr (t_F_nc (t_F_X hX1) rfl (by decide)) (t_F_nc (t_F_X hX1) rfl (by decide)) (t_F_nc (t_F_X hX1) rfl (by decide)) (t_F_nc (t_F_X hX1) rfl (by decide)) (t_F_nc (t_F_X hX1) rfl (by decide))
                                                            have hr : y1_1.toInt.toNat < R.length := by have k3 := congrArg Int32.toInt (congrFun e70 3); omega
                                                            have hq := q8 F R hM2 (by rw [e70]; exact hQ) hcr hr
                                                            have hE := (hQ.2.2.1 _ hr).2.2
                                                            have hc := t_clamp (i := z16) (by omega)
                                                            have e70b : gi8 70 = gi 70 := (t_F_nc (t_F_X hX) rfl (by decide))
                                                            rw [h1, s_ac_y hr (hq.mp (by omega))]
                                                            have ke : w17.toInt = (gi 70 (102 + 3 * y1_1.toInt.toNat)).toInt := by rw [e17, e70b, show z16.toNatClampNeg = 102 + 3 * y1_1.toInt.toNat by omega]
                                                            rw [ke, hE])))⟩⟩
  refine ev_sub (lo := [(1, .int 0), (0, .ref 69)]) rfl (t_sc rfl (t_sc rfl t_sn)) ?_
  exact L1 _ gi gl gr (0) hI hX  (by decide : (0:Int) ≤ (0:Int32).toInt) (Int.le_trans (by decide : (0:Int32).toInt ≤ (0:Int)) (by decide : (0:Int) ≤ 12)) (fun _ => rfl) (fun F R hM hQ hcr => ⟨by rfl, by have z0 : (0 : Int32).toInt = 0 := rfl; have := hQ.1.1; omega⟩) rfl
