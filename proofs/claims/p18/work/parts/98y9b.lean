/-! ===== printed by riv.py: the RIVER of the other side ===== -/
noncomputable def wl_n_inWords : List (Nat × Nat) := []
noncomputable def Q_n_inWords (gi : Nat → Nat → Int32) (gl : Nat → Nat → Int64) (gr : Nat → Nat → Value) : Int32 → (Nat → Nat → Int32) → (Nat → Nat → Int64) → (Nat → Nat → Value) → Prop := fun (v : Int32) (gi2 : Nat → Nat → Int32) (gl2 : Nat → Nat → Int64) (gr2 : Nat → Nat → Value) => (∀ (b : Nat → Int32) (n q : Nat), t_TM b n q gi → v.toInt = s_mi (s_W b n q)) ∧ (0 ≤ v.toInt → (gi 69 12).toInt = 2)
theorem c_n_inWords {X : x_Ext} {d : Nat} {sh : List (Nat ⊕ (Nat × Nat))} {gi : Nat → Nat → Int32} {gl : Nat → Nat → Int64} {gr : Nat → Nat → Value} (hI : t_I sh gi gr) : x_Me X (d + 5) n_X12_inWords [.ref 69, .retAddr 28] (sh, gi, gl, gr) (t_PI wl_n_inWords sh gi gl gr (-1) 137 (Q_n_inWords gi gl gr)) := by
  have hX : t_X wl_n_inWords sh gi gl gr gi gl gr := t_X.rf
  refine me_i f_X12_inWords (hI.wf.s rfl) rfl rfl rfl ?_
  obtain ⟨l1, u1⟩ := hI.b (hI.wf.s (k := 69) rfl) (t_bdK rfl : t_bd 11 12 = some (0, 4))
  refine ev_loc f_X12_inWords (nx := 1) rfl rfl rfl rfl ?_
  refine ev_gvI f_X12_inWords (nx := 4) (w := (gi 69 12)) rfl (hI.wf.s rfl) rfl rfl rfl rfl ?_
  refine ev_ic f_X12_inWords (nx := 5) (v := 2) rfl (by decide) rfl ?_
  refine ev_if f_X12_inWords (t1 := 10) (t2 := 8) rfl rfl rfl (fun h2 => ?_) (fun h2 => ?_)
  · have u3 : (gi 69 12).toInt ≤ 2 := t_equ h2 (by decide : (2:Int32).toInt ≤ (2:Int))
    have l4 : 2 ≤ (gi 69 12).toInt := t_eql h2 (by decide : (2:Int) ≤ (2:Int32).toInt)
    refine ev_ic f_X12_inWords (nx := 11) (v := 0) rfl (by decide) rfl ?_
    refine ev_loc f_X12_inWords (nx := 12) (lo' := [(2, .int 0), (0, .ref 69), (1, .retAddr 28)]) rfl rfl rfl rfl ?_
    refine ev_ic f_X12_inWords (nx := 13) (v := 1) rfl (by decide) rfl ?_
    refine ev_loc f_X12_inWords (nx := 14) (lo' := [(3, .int 1), (2, .int 0), (0, .ref 69), (1, .retAddr 28)]) rfl rfl rfl rfl ?_
    have L5 : ∀ (m5 : Nat) (y5_3 : Int32) (y5_2 : Int32), 1 ≤ y5_3.toInt → y5_3.toInt ≤ 138 → 0 ≤ y5_2.toInt → y5_2.toInt ≤ 137 → (∀ (b : Nat → Int32) (n q : Nat), t_TM b n q gi → t_I14 b n q y5_2 y5_3) → y5_2.toInt + 1 ≤ y5_3.toInt → (138 - y5_3.toInt).toNat = m5 → x_Ev X (d + 5) n_X12_inWords 14 [(3, .int y5_3), (2, .int y5_2), (0, .ref 69), (1, .retAddr 28)] [] (sh, gi, gl, gr) (t_PI wl_n_inWords sh gi gl gr (-1) 137 (Q_n_inWords gi gl gr)) := by
      intro m5
      induction m5 using Nat.strongRecOn with
      | _ m5 ih5 =>
      intro y5_3 y5_2 l5_3 u5_3 l5_2 u5_2 j5_0 j5_1 hm5
      refine ev_loc f_X12_inWords (nx := 15) rfl rfl rfl rfl ?_
      refine ev_loc f_X12_inWords (nx := 16) rfl rfl rfl rfl ?_
      refine ev_qI0 f_X12_inWords (nx := 19) (r := [.int y5_3]) rfl rfl rfl rfl rfl rfl rfl (t_P_PI (c_m_length hI )) rfl (fun w6 l6 u6 q6 => ?_)
      refine ev_if f_X12_inWords (t1 := 133) (t2 := 22) rfl rfl rfl (fun h7 => ?_) (fun h7 => ?_)
      · have r8 : w6.toInt ≤ y5_3.toInt := Int32.le_iff_toInt_le.mp h7
        have l9 : 138 ≤ y5_3.toInt := t_lel h7 l6
        refine ev_ic f_X12_inWords (nx := 134) (v := -1) rfl (by decide) rfl ?_
        exact ev_ret f_X12_inWords rfl rfl rfl ⟨_, _, _, rfl, hI, hX, ⟨_, rfl, (by decide : ((-1):Int) ≤ ((-1):Int32).toInt), (Int.le_trans (by decide : ((-1):Int32).toInt ≤ ((-1):Int)) (by decide : ((-1):Int) ≤ 137)), (show (∀ (b : Nat → Int32) (n q : Nat), t_TM b n q gi → ((-1) : Int) = s_mi (s_W b n q)) ∧ (0 ≤ ((-1) : Int) → (gi 69 12).toInt = 2) from ⟨fun b n q h => t_I14_e (j5_0 b n q h) (by omega), fun hh => absurd hh (by decide)⟩)⟩⟩
      · have r10 : y5_3.toInt < w6.toInt := Int32.lt_iff_toInt_lt.mp (t_nle h7)
        have u11 : y5_3.toInt ≤ 137 := t_ltu (t_nle h7) u6 rfl
        refine ev_loc f_X12_inWords (nx := 23) rfl rfl rfl rfl ?_
        refine ev_loc f_X12_inWords (nx := 25) (lo' := [(4, .int y5_3), (3, .int y5_3), (2, .int y5_2), (0, .ref 69), (1, .retAddr 28)]) rfl rfl rfl rfl ?_
        have L12 : ∀ (m12 : Nat) (y12_4 : Int32), 1 ≤ y12_4.toInt → y12_4.toInt ≤ 137 → (∀ (b : Nat → Int32) (n q : Nat), t_TM b n q gi → t_I25 b n q y5_2 y5_3 y12_4) → y5_3.toInt ≤ y12_4.toInt → y5_2.toInt + 1 ≤ y5_3.toInt → (138 - y12_4.toInt).toNat = m12 → x_Ev X (d + 5) n_X12_inWords 25 [(4, .int y12_4), (3, .int y5_3), (2, .int y5_2), (0, .ref 69), (1, .retAddr 28)] [] (sh, gi, gl, gr) (t_PI wl_n_inWords sh gi gl gr (-1) 137 (Q_n_inWords gi gl gr)) := by
          intro m12
          induction m12 using Nat.strongRecOn with
          | _ m12 ih12 =>
          intro y12_4 l12_4 u12_4 j12_0 j12_1 j12_2 hm12
          refine ev_loc f_X12_inWords (nx := 26) rfl rfl rfl rfl ?_
          refine ev_loc f_X12_inWords (nx := 28) rfl rfl rfl rfl ?_
          refine ev_qI0 f_X12_inWords (nx := 31) (r := []) rfl rfl rfl rfl rfl rfl rfl (c_m_charAt hI (y12_4) (Int.le_trans (by decide : (0:Int) ≤ 1) l12_4) u12_4) rfl (fun w13 l13 u13 q13 => ?_)
          have q13 : (w13 = x_kc y12_4.toNatClampNeg) ∧ (w13.toInt ≠ 32 → y12_4.toInt + 1 ≤ 137) ∧ 0 ≤ w13.toInt ∧ w13.toInt ≤ 127 := q13
          refine ev_bp f_X12_inWords (nx := 33) (v := 32) rfl (by decide) rfl ?_
          refine ev_if f_X12_inWords (t1 := 42) (t2 := 36) rfl rfl rfl (fun h14 => ?_) (fun h14 => ?_)
          · have u15 : w13.toInt ≤ 32 := t_equ h14 (by decide : (32:Int32).toInt ≤ (32:Int))
            have l16 : 32 ≤ w13.toInt := t_eql h14 (by decide : (32:Int) ≤ (32:Int32).toInt)
            refine ev_loc f_X12_inWords (nx := 44) rfl rfl rfl rfl ?_
            refine ev_loc f_X12_inWords (nx := 45) rfl rfl rfl rfl ?_
            refine ev_subR f_X12_inWords (nx := 46) (l := (-136)) (u := 136) rfl l12_4 u12_4 l5_3 u11 rfl rfl (by decide) (by decide) rfl (fun z17 e17 l17 u17 => ?_)
            refine ev_loc f_X12_inWords (nx := 47) rfl rfl rfl rfl ?_
            refine ev_getI f_X12_inWords (nx := 50) rfl (hI.wf.s rfl) rfl rfl rfl ?_
            obtain ⟨l18, u18⟩ := hI.b (hI.wf.s (k := 69) rfl) (t_bdK rfl : t_bd 11 14 = some (0, 900))
            refine ev_loc f_X12_inWords (nx := 51) rfl rfl rfl rfl ?_
            refine ev_getI f_X12_inWords (nx := 54) rfl (hI.wf.s rfl) rfl rfl rfl ?_
            obtain ⟨l19, u19⟩ := hI.b (hI.wf.s (k := 69) rfl) (t_bdK rfl : t_bd 11 13 = some (0, 900))
            refine ev_subR f_X12_inWords (nx := 55) (l := (-900)) (u := 900) rfl l18 u18 l19 u19 rfl rfl (by decide) (by decide) rfl (fun z20 e20 l20 u20 => ?_)
            refine ev_if f_X12_inWords (t1 := 58) (t2 := 62) rfl rfl rfl (fun h21 => ?_) (fun h21 => ?_)
            · have r22 : z17.toInt = z20.toInt := t_eqi h21
              have u23 : z20.toInt ≤ 136 := t_equ (Eq.symm h21) u17
              have l24 : (-136) ≤ z20.toInt := t_eql (Eq.symm h21) l17
              refine ev_ic f_X12_inWords (nx := 59) (v := 1) rfl (by decide) rfl ?_
              refine ev_jmp f_X12_inWords (nx := 63) rfl rfl rfl ?_
              refine ev_loc f_X12_inWords (nx := 65) (lo' := [(5, .int 1), (4, .int y12_4), (3, .int y5_3), (2, .int y5_2), (0, .ref 69), (1, .retAddr 28)]) rfl rfl rfl rfl ?_
              refine ev_loc f_X12_inWords (nx := 66) rfl rfl rfl rfl ?_
              refine ev_loc f_X12_inWords (nx := 68) (lo' := [(6, .int y5_3), (5, .int 1), (4, .int y12_4), (3, .int y5_3), (2, .int y5_2), (0, .ref 69), (1, .retAddr 28)]) rfl rfl rfl rfl ?_
              have L25 : ∀ (m25 : Nat) (y25_6 : Int32) (y25_5 : Int32), 1 ≤ y25_6.toInt → y25_6.toInt ≤ 137 → 0 ≤ y25_5.toInt → y25_5.toInt ≤ 1 → (∀ (b : Nat → Int32) (n q : Nat), t_TM b n q gi → t_I68 b n q y5_2 y5_3 y12_4 y25_5 y25_6) → y5_3.toInt ≤ y12_4.toInt → y5_3.toInt ≤ y25_6.toInt → y5_2.toInt + 1 ≤ y5_3.toInt → (138 - y25_6.toInt).toNat = m25 → x_Ev X (d + 5) n_X12_inWords 68 [(6, .int y25_6), (5, .int y25_5), (4, .int y12_4), (3, .int y5_3), (2, .int y5_2), (0, .ref 69), (1, .retAddr 28)] [] (sh, gi, gl, gr) (t_PI wl_n_inWords sh gi gl gr (-1) 137 (Q_n_inWords gi gl gr)) := by
                intro m25
                induction m25 using Nat.strongRecOn with
                | _ m25 ih25 =>
                intro y25_6 y25_5 l25_6 u25_6 l25_5 u25_5 j25_0 j25_1 j25_2 j25_3 hm25
                refine ev_loc f_X12_inWords (nx := 70) rfl rfl rfl rfl ?_
                refine ev_loc f_X12_inWords (nx := 72) rfl rfl rfl rfl ?_
                refine ev_if f_X12_inWords (t1 := 115) (t2 := 75) rfl rfl rfl (fun h26 => ?_) (fun h26 => ?_)
                · have r27 : y12_4.toInt ≤ y25_6.toInt := Int32.le_iff_toInt_le.mp h26
                  refine ev_loc f_X12_inWords (nx := 117) rfl rfl rfl rfl ?_
                  refine ev_if f_X12_inWords (t1 := 122) (t2 := 120) rfl rfl rfl (fun h28 => ?_) (fun h28 => ?_)
                  · have u29 : y25_5.toInt ≤ 0 := t_equ h28 (by decide : (0:Int32).toInt ≤ (0:Int))
                    refine ev_incR f_X12_inWords (nx := 125) (c := 1) (l := 1) (u := 138) rfl rfl (by decide) (by decide) l5_2 u5_2 rfl rfl (by decide) (by decide) rfl (fun z30 e30 l30 u30 => ?_)
                    refine ev_loc f_X12_inWords (nx := 127) rfl rfl rfl rfl ?_
                    refine ev_ic f_X12_inWords (nx := 128) (v := 1) rfl (by decide) rfl ?_
                    refine ev_addC f_X12_inWords (nx := 129) (c := 1) (l := 2) (u := 138) rfl (by decide) l12_4 u12_4 rfl rfl (by decide) (by decide) rfl (fun z31 e31 l31 u31 => ?_)
                    refine ev_loc f_X12_inWords (nx := 130) (lo' := [(3, .int z31), (2, .int z30), (6, .int y25_6), (5, .int y25_5), (4, .int y12_4), (0, .ref 69), (1, .retAddr 28)]) rfl rfl rfl rfl ?_
                    refine ev_jmp f_X12_inWords (nx := 14) rfl rfl rfl ?_
                    refine ev_sub (lo := [(3, .int z31), (2, .int z30), (0, .ref 69), (1, .retAddr 28)]) rfl (t_sc rfl (t_sc rfl (t_sc rfl (t_sc rfl t_sn)))) ?_
                    exact ih5 _ (by omega) (z31) (z30) (Int.le_trans (by decide : (1:Int) ≤ 2) l31) u31 (Int.le_trans (by decide : (0:Int) ≤ 1) l30) (by omega : z30.toInt ≤ (137:Int)) (fun b n q h => t_I14_s (j25_0 b n q h) (by omega) (by omega) (by omega)) (by omega) rfl
                  · have r32 : y25_5.toInt ≠ 0 := fun e => h28 (Int32.toInt_inj.mp (e.trans (by decide : (0:Int) = (0 : Int32).toInt)))
                    have l33 : 1 ≤ y25_5.toInt := t_nel h28 l25_5 rfl rfl
                    refine ev_loc f_X12_inWords (nx := 121) rfl rfl rfl rfl ?_
                    exact ev_ret f_X12_inWords rfl rfl rfl ⟨_, _, _, rfl, hI, hX, ⟨_, rfl, (Int.le_trans (by decide : ((-1):Int) ≤ 0) l5_2), u5_2, (show (∀ (b : Nat → Int32) (n q : Nat), t_TM b n q gi → y5_2.toInt = s_mi (s_W b n q)) ∧ (0 ≤ y5_2.toInt → (gi 69 12).toInt = 2) from ⟨fun b n q h => t_I68_r (j25_0 b n q h) (by omega) (by omega) (by have h3 := h.2.2.2.1; omega), fun _ => by omega⟩)⟩⟩
                · have r34 : y25_6.toInt < y12_4.toInt := Int32.lt_iff_toInt_lt.mp (t_nle h26)
                  have u35 : y25_6.toInt ≤ 136 := t_ltu (t_nle h26) u12_4 rfl
                  have l36 : 2 ≤ y12_4.toInt := t_ltl (t_nle h26) l25_6 rfl
                  refine ev_loc f_X12_inWords (nx := 77) rfl rfl rfl rfl ?_
                  refine ev_if f_X12_inWords (t1 := 115) (t2 := 80) rfl rfl rfl (fun h37 => ?_) (fun h37 => ?_)
                  · have u38 : y25_5.toInt ≤ 0 := t_equ h37 (by decide : (0:Int32).toInt ≤ (0:Int))
                    refine ev_loc f_X12_inWords (nx := 117) rfl rfl rfl rfl ?_
                    refine ev_t f_X12_inWords (t1 := 122) (t2 := 120) rfl rfl rfl (t_eqT u38 l25_5 (by decide : (0:Int32).toInt ≤ (0:Int)) (by decide : (0:Int) ≤ (0:Int32).toInt)) ?_
                    refine ev_incR f_X12_inWords (nx := 125) (c := 1) (l := 1) (u := 138) rfl rfl (by decide) (by decide) l5_2 u5_2 rfl rfl (by decide) (by decide) rfl (fun z39 e39 l39 u39 => ?_)
                    refine ev_loc f_X12_inWords (nx := 127) rfl rfl rfl rfl ?_
                    refine ev_ic f_X12_inWords (nx := 128) (v := 1) rfl (by decide) rfl ?_
                    refine ev_addC f_X12_inWords (nx := 129) (c := 1) (l := 3) (u := 138) rfl (by decide) l36 u12_4 rfl rfl (by decide) (by decide) rfl (fun z40 e40 l40 u40 => ?_)
                    refine ev_loc f_X12_inWords (nx := 130) (lo' := [(3, .int z40), (2, .int z39), (6, .int y25_6), (5, .int y25_5), (4, .int y12_4), (0, .ref 69), (1, .retAddr 28)]) rfl rfl rfl rfl ?_
                    refine ev_jmp f_X12_inWords (nx := 14) rfl rfl rfl ?_
                    refine ev_sub (lo := [(3, .int z40), (2, .int z39), (0, .ref 69), (1, .retAddr 28)]) rfl (t_sc rfl (t_sc rfl (t_sc rfl (t_sc rfl t_sn)))) ?_
                    exact ih5 _ (by omega) (z40) (z39) (Int.le_trans (by decide : (1:Int) ≤ 3) l40) u40 (Int.le_trans (by decide : (0:Int) ≤ 1) l39) (by omega : z39.toInt ≤ (137:Int)) (fun b n q h => t_I14_s (j25_0 b n q h) (by omega) (by omega) (by omega)) (by omega) rfl
                  · have r41 : y25_5.toInt ≠ 0 := fun e => h37 (Int32.toInt_inj.mp (e.trans (by decide : (0:Int) = (0 : Int32).toInt)))
                    have l42 : 1 ≤ y25_5.toInt := t_nel h37 l25_5 rfl rfl
                    refine ev_loc f_X12_inWords (nx := 81) rfl rfl rfl rfl ?_
                    refine ev_loc f_X12_inWords (nx := 83) rfl rfl rfl rfl ?_
                    refine ev_qI0 f_X12_inWords (nx := 86) (r := []) rfl rfl rfl rfl rfl rfl rfl (c_m_charAt hI (y25_6) (Int.le_trans (by decide : (0:Int) ≤ 1) l25_6) (Int.le_trans u35 (by decide : (136:Int) ≤ 137))) rfl (fun w43 l43 u43 q43 => ?_)
                    have q43 : (w43 = x_kc y25_6.toNatClampNeg) ∧ (w43.toInt ≠ 32 → y25_6.toInt + 1 ≤ 137) ∧ 0 ≤ w43.toInt ∧ w43.toInt ≤ 127 := q43
                    refine ev_loc f_X12_inWords (nx := 87) rfl rfl rfl rfl ?_
                    refine ev_loc f_X12_inWords (nx := 88) rfl rfl rfl rfl ?_
                    refine ev_gvI f_X12_inWords (nx := 91) (w := (gi 69 13)) rfl (hI.wf.s rfl) rfl rfl rfl rfl ?_
                    refine ev_loc f_X12_inWords (nx := 93) rfl rfl rfl rfl ?_
                    refine ev_addR f_X12_inWords (nx := 94) (l := 1) (u := 1036) rfl l19 u19 l25_6 u35 rfl rfl (by decide) (by decide) rfl (fun z44 e44 l44 u44 => ?_)
                    refine ev_loc f_X12_inWords (nx := 95) rfl rfl rfl rfl ?_
                    refine ev_subR f_X12_inWords (nx := 96) (l := (-136)) (u := 1035) rfl l44 u44 l5_3 u11 rfl rfl (by decide) (by decide) rfl (fun z45 e45 l45 u45 => ?_)
                    refine ev_inV2 f_X12_inWords (nx := 99) (lo2 := [(0, .ref 69), (1, .int z45)]) rfl rfl rfl rfl f_X12_byteAt (hI.wf.s rfl) rfl rfl rfl rfl rfl ?_
                    refine ev_loc f_X12_byteAt (nx := 1) rfl rfl rfl rfl ?_
                    refine ev_loc f_X12_byteAt (nx := 2) rfl rfl rfl rfl ?_
                    refine ev_getI f_X12_byteAt (nx := 5) rfl (hI.wf.s rfl) rfl rfl rfl ?_
                    obtain ⟨l46, u46⟩ := hI.b (hI.wf.s (k := 69) rfl) (t_bdK rfl : t_bd 11 11 = some (0, 900))
                    refine ev_if f_X12_byteAt (t1 := 21) (t2 := 8) rfl rfl rfl (fun h47 => ?_) (fun h47 => ?_)
                    · have r48 : (gi 69 11).toInt ≤ z45.toInt := Int32.le_iff_toInt_le.mp h47
                      have l49 : 0 ≤ z45.toInt := t_lel h47 l46
                      refine ev_ic f_X12_byteAt (nx := 22) (v := -1) rfl (by decide) rfl ?_
                      refine ev_retK1 f_X12_byteAt rfl rfl rfl ?_
                      refine ev_if f_X12_inWords (t1 := 102) (t2 := 106) rfl rfl rfl (fun h50 => ?_) (fun h50 => ?_)
                      · have u51 : w43.toInt ≤ (-1) := t_equ h50 (by decide : ((-1):Int32).toInt ≤ ((-1):Int))
                        have l52 : (-1) ≤ w43.toInt := t_eql h50 (by decide : ((-1):Int) ≤ ((-1):Int32).toInt)
                        refine ev_ic f_X12_inWords (nx := 103) (v := 1) rfl (by decide) rfl ?_
                        refine ev_jmp f_X12_inWords (nx := 107) rfl rfl rfl ?_
                        refine ev_loc f_X12_inWords (nx := 109) (lo' := [(5, .int 1), (6, .int y25_6), (4, .int y12_4), (3, .int y5_3), (2, .int y5_2), (0, .ref 69), (1, .retAddr 28)]) rfl rfl rfl rfl ?_
                        refine ev_incR f_X12_inWords (nx := 112) (c := 1) (l := 2) (u := 137) rfl rfl (by decide) (by decide) l25_6 u35 rfl rfl (by decide) (by decide) rfl (fun z53 e53 l53 u53 => ?_)
                        refine ev_jmp f_X12_inWords (nx := 68) rfl rfl rfl ?_
                        refine ev_sub (lo := [(6, .int z53), (5, .int 1), (4, .int y12_4), (3, .int y5_3), (2, .int y5_2), (0, .ref 69), (1, .retAddr 28)]) rfl (t_sc rfl (t_sc rfl (t_sc rfl (t_sc rfl (t_sc rfl (t_sc rfl (t_sc rfl t_sn))))))) ?_
                        exact ih25 _ (by omega) (z53) (1) (Int.le_trans (by decide : (1:Int) ≤ 2) l53) u53 (Int.le_trans (by decide : (0:Int) ≤ 1) (by decide : (1:Int) ≤ (1:Int32).toInt)) (by decide : (1:Int32).toInt ≤ (1:Int)) (fun b n q h => t_I68_y (idx := z45) (w := ((-1) : Int32)) (j25_0 b n q h) h.1.1.1.2 (by omega) (by omega) (by have h2 := h.2.2.1; omega) (s_E_b h.1.2).2 q43.1 (h.1.1.no (x := z45) (by have h2 := h.2.2.1; omega) (by omega)) h50 (by decide) (by omega)) (by omega) (by omega) (by omega) rfl
                      · have r54 : w43.toInt ≠ (-1) := fun e => h50 (Int32.toInt_inj.mp (e.trans (by decide : ((-1):Int) = ((-1) : Int32).toInt)))
                        refine ev_ic f_X12_inWords (nx := 107) (v := 0) rfl (by decide) rfl ?_
                        refine ev_loc f_X12_inWords (nx := 109) (lo' := [(5, .int 0), (6, .int y25_6), (4, .int y12_4), (3, .int y5_3), (2, .int y5_2), (0, .ref 69), (1, .retAddr 28)]) rfl rfl rfl rfl ?_
                        refine ev_incR f_X12_inWords (nx := 112) (c := 1) (l := 2) (u := 137) rfl rfl (by decide) (by decide) l25_6 u35 rfl rfl (by decide) (by decide) rfl (fun z55 e55 l55 u55 => ?_)
                        refine ev_jmp f_X12_inWords (nx := 68) rfl rfl rfl ?_
                        refine ev_sub (lo := [(6, .int z55), (5, .int 0), (4, .int y12_4), (3, .int y5_3), (2, .int y5_2), (0, .ref 69), (1, .retAddr 28)]) rfl (t_sc rfl (t_sc rfl (t_sc rfl (t_sc rfl (t_sc rfl (t_sc rfl (t_sc rfl t_sn))))))) ?_
                        exact ih25 _ (by omega) (z55) (0) (Int.le_trans (by decide : (1:Int) ≤ 2) l55) u55 (by decide : (0:Int) ≤ (0:Int32).toInt) (Int.le_trans (by decide : (0:Int32).toInt ≤ (0:Int)) (by decide : (0:Int) ≤ 1)) (fun b n q h => t_I68_n (idx := z45) (w := ((-1) : Int32)) (j25_0 b n q h) h.1.1.1.2 (by omega) (by omega) (by have h2 := h.2.2.1; omega) (s_E_b h.1.2).2 q43.1 (h.1.1.no (x := z45) (by have h2 := h.2.2.1; omega) (by omega)) (by have kk : (-1 : Int32).toInt = -1 := rfl; omega) (by decide) (by omega)) (by omega) (by omega) (by omega) rfl
                    · have r56 : z45.toInt < (gi 69 11).toInt := Int32.lt_iff_toInt_lt.mp (t_nle h47)
                      have u57 : z45.toInt ≤ 899 := t_ltu (t_nle h47) u46 rfl
                      refine ev_loc f_X12_byteAt (nx := 9) rfl rfl rfl rfl ?_
                      refine ev_getR f_X12_byteAt (nx := 12) rfl (hI.wf.s rfl) rfl rfl (hI.wf.r rfl) rfl rfl ?_
                      refine ev_loc f_X12_byteAt (nx := 13) rfl rfl rfl rfl ?_
                      have l59 : (0:Int) ≤ z45.toInt := (by omega)
                      refine ev_baldT f_X12_byteAt (nx := 14) rfl (hI.wf.s rfl) rfl l59 (by decide) u57 (by decide) rfl (fun w58 e58 => ?_)
                      refine ev_sp f_X12_byteAt (nx := 17) (v := 255) rfl (by decide) rfl ?_
                      refine ev_andE f_X12_byteAt (nx := 18) (c := 255) rfl (by decide) (by decide) rfl (fun z60 e60 l60 u60 => ?_)
                      refine ev_jmp f_X12_byteAt (nx := 22) rfl rfl rfl ?_
                      refine ev_retK1 f_X12_byteAt rfl rfl rfl ?_
                      refine ev_if f_X12_inWords (t1 := 102) (t2 := 106) rfl rfl rfl (fun h61 => ?_) (fun h61 => ?_)
                      · have r62 : w43.toInt = z60.toInt := t_eqi h61
                        have u63 : w43.toInt ≤ 255 := t_equ h61 u60
                        have l64 : 0 ≤ w43.toInt := t_eql h61 l60
                        refine ev_ic f_X12_inWords (nx := 103) (v := 1) rfl (by decide) rfl ?_
                        refine ev_jmp f_X12_inWords (nx := 107) rfl rfl rfl ?_
                        refine ev_loc f_X12_inWords (nx := 109) (lo' := [(5, .int 1), (6, .int y25_6), (4, .int y12_4), (3, .int y5_3), (2, .int y5_2), (0, .ref 69), (1, .retAddr 28)]) rfl rfl rfl rfl ?_
                        refine ev_incR f_X12_inWords (nx := 112) (c := 1) (l := 2) (u := 137) rfl rfl (by decide) (by decide) l25_6 u35 rfl rfl (by decide) (by decide) rfl (fun z65 e65 l65 u65 => ?_)
                        refine ev_jmp f_X12_inWords (nx := 68) rfl rfl rfl ?_
                        refine ev_sub (lo := [(6, .int z65), (5, .int 1), (4, .int y12_4), (3, .int y5_3), (2, .int y5_2), (0, .ref 69), (1, .retAddr 28)]) rfl (t_sc rfl (t_sc rfl (t_sc rfl (t_sc rfl (t_sc rfl (t_sc rfl (t_sc rfl t_sn))))))) ?_
                        exact ih25 _ (by omega) (z65) (1) (Int.le_trans (by decide : (1:Int) ≤ 2) l65) u65 (Int.le_trans (by decide : (0:Int) ≤ 1) (by decide : (1:Int) ≤ (1:Int32).toInt)) (by decide : (1:Int32).toInt ≤ (1:Int)) (fun b n q h => t_I68_y (idx := z45) (w := z60) (j25_0 b n q h) h.1.1.1.2 (by omega) (by omega) (by have h2 := h.2.2.1; omega) (s_E_b h.1.2).2 q43.1 (h.1.1.at (x := z45) (by omega) (by omega) e58 e60) h61 (by decide) (by omega)) (by omega) (by omega) (by omega) rfl
                      · have r66 : w43.toInt ≠ z60.toInt := t_nei h61
                        refine ev_ic f_X12_inWords (nx := 107) (v := 0) rfl (by decide) rfl ?_
                        refine ev_loc f_X12_inWords (nx := 109) (lo' := [(5, .int 0), (6, .int y25_6), (4, .int y12_4), (3, .int y5_3), (2, .int y5_2), (0, .ref 69), (1, .retAddr 28)]) rfl rfl rfl rfl ?_
                        refine ev_incR f_X12_inWords (nx := 112) (c := 1) (l := 2) (u := 137) rfl rfl (by decide) (by decide) l25_6 u35 rfl rfl (by decide) (by decide) rfl (fun z67 e67 l67 u67 => ?_)
                        refine ev_jmp f_X12_inWords (nx := 68) rfl rfl rfl ?_
                        refine ev_sub (lo := [(6, .int z67), (5, .int 0), (4, .int y12_4), (3, .int y5_3), (2, .int y5_2), (0, .ref 69), (1, .retAddr 28)]) rfl (t_sc rfl (t_sc rfl (t_sc rfl (t_sc rfl (t_sc rfl (t_sc rfl (t_sc rfl t_sn))))))) ?_
                        exact ih25 _ (by omega) (z67) (0) (Int.le_trans (by decide : (1:Int) ≤ 2) l67) u67 (by decide : (0:Int) ≤ (0:Int32).toInt) (Int.le_trans (by decide : (0:Int32).toInt ≤ (0:Int)) (by decide : (0:Int) ≤ 1)) (fun b n q h => t_I68_n (idx := z45) (w := z60) (j25_0 b n q h) h.1.1.1.2 (by omega) (by omega) (by have h2 := h.2.2.1; omega) (s_E_b h.1.2).2 q43.1 (h.1.1.at (x := z45) (by omega) (by omega) e58 e60) (by omega) (by decide) (by omega)) (by omega) (by omega) (by omega) rfl
              refine ev_sub (lo := [(6, .int y5_3), (5, .int 1), (4, .int y12_4), (3, .int y5_3), (2, .int y5_2), (0, .ref 69), (1, .retAddr 28)]) rfl (t_sc rfl (t_sc rfl (t_sc rfl (t_sc rfl (t_sc rfl (t_sc rfl (t_sc rfl t_sn))))))) ?_
              exact L25 _ (y5_3) (1) l5_3 u11 (Int.le_trans (by decide : (0:Int) ≤ 1) (by decide : (1:Int) ≤ (1:Int32).toInt)) (by decide : (1:Int32).toInt ≤ (1:Int)) (fun b n q h => t_I68_0 (j12_0 b n q h) q13.1 (by omega) (Or.inl ⟨by decide, by have h1 := h.2.1; have h2 := h.2.2.1; omega⟩) (s_E_b h.1.2).1) (by omega) (by omega) (by omega) rfl
            · have r68 : z17.toInt ≠ z20.toInt := t_nei h21
              refine ev_ic f_X12_inWords (nx := 63) (v := 0) rfl (by decide) rfl ?_
              refine ev_loc f_X12_inWords (nx := 65) (lo' := [(5, .int 0), (4, .int y12_4), (3, .int y5_3), (2, .int y5_2), (0, .ref 69), (1, .retAddr 28)]) rfl rfl rfl rfl ?_
              refine ev_loc f_X12_inWords (nx := 66) rfl rfl rfl rfl ?_
              refine ev_loc f_X12_inWords (nx := 68) (lo' := [(6, .int y5_3), (5, .int 0), (4, .int y12_4), (3, .int y5_3), (2, .int y5_2), (0, .ref 69), (1, .retAddr 28)]) rfl rfl rfl rfl ?_
              have L69 : ∀ (m69 : Nat) (y69_6 : Int32) (y69_5 : Int32), 1 ≤ y69_6.toInt → y69_6.toInt ≤ 137 → 0 ≤ y69_5.toInt → y69_5.toInt ≤ 1 → (∀ (b : Nat → Int32) (n q : Nat), t_TM b n q gi → t_I68 b n q y5_2 y5_3 y12_4 y69_5 y69_6) → y5_3.toInt ≤ y12_4.toInt → y5_3.toInt ≤ y69_6.toInt → y5_2.toInt + 1 ≤ y5_3.toInt → (138 - y69_6.toInt).toNat = m69 → x_Ev X (d + 5) n_X12_inWords 68 [(6, .int y69_6), (5, .int y69_5), (4, .int y12_4), (3, .int y5_3), (2, .int y5_2), (0, .ref 69), (1, .retAddr 28)] [] (sh, gi, gl, gr) (t_PI wl_n_inWords sh gi gl gr (-1) 137 (Q_n_inWords gi gl gr)) := by
                intro m69
                induction m69 using Nat.strongRecOn with
                | _ m69 ih69 =>
                intro y69_6 y69_5 l69_6 u69_6 l69_5 u69_5 j69_0 j69_1 j69_2 j69_3 hm69
                refine ev_loc f_X12_inWords (nx := 70) rfl rfl rfl rfl ?_
                refine ev_loc f_X12_inWords (nx := 72) rfl rfl rfl rfl ?_
                refine ev_if f_X12_inWords (t1 := 115) (t2 := 75) rfl rfl rfl (fun h70 => ?_) (fun h70 => ?_)
                · have r71 : y12_4.toInt ≤ y69_6.toInt := Int32.le_iff_toInt_le.mp h70
                  refine ev_loc f_X12_inWords (nx := 117) rfl rfl rfl rfl ?_
                  refine ev_if f_X12_inWords (t1 := 122) (t2 := 120) rfl rfl rfl (fun h72 => ?_) (fun h72 => ?_)
                  · have u73 : y69_5.toInt ≤ 0 := t_equ h72 (by decide : (0:Int32).toInt ≤ (0:Int))
                    refine ev_incR f_X12_inWords (nx := 125) (c := 1) (l := 1) (u := 138) rfl rfl (by decide) (by decide) l5_2 u5_2 rfl rfl (by decide) (by decide) rfl (fun z74 e74 l74 u74 => ?_)
                    refine ev_loc f_X12_inWords (nx := 127) rfl rfl rfl rfl ?_
                    refine ev_ic f_X12_inWords (nx := 128) (v := 1) rfl (by decide) rfl ?_
                    refine ev_addC f_X12_inWords (nx := 129) (c := 1) (l := 2) (u := 138) rfl (by decide) l12_4 u12_4 rfl rfl (by decide) (by decide) rfl (fun z75 e75 l75 u75 => ?_)
                    refine ev_loc f_X12_inWords (nx := 130) (lo' := [(3, .int z75), (2, .int z74), (6, .int y69_6), (5, .int y69_5), (4, .int y12_4), (0, .ref 69), (1, .retAddr 28)]) rfl rfl rfl rfl ?_
                    refine ev_jmp f_X12_inWords (nx := 14) rfl rfl rfl ?_
                    refine ev_sub (lo := [(3, .int z75), (2, .int z74), (0, .ref 69), (1, .retAddr 28)]) rfl (t_sc rfl (t_sc rfl (t_sc rfl (t_sc rfl t_sn)))) ?_
                    exact ih5 _ (by omega) (z75) (z74) (Int.le_trans (by decide : (1:Int) ≤ 2) l75) u75 (Int.le_trans (by decide : (0:Int) ≤ 1) l74) (by omega : z74.toInt ≤ (137:Int)) (fun b n q h => t_I14_s (j69_0 b n q h) (by omega) (by omega) (by omega)) (by omega) rfl
                  · have r76 : y69_5.toInt ≠ 0 := fun e => h72 (Int32.toInt_inj.mp (e.trans (by decide : (0:Int) = (0 : Int32).toInt)))
                    have l77 : 1 ≤ y69_5.toInt := t_nel h72 l69_5 rfl rfl
                    refine ev_loc f_X12_inWords (nx := 121) rfl rfl rfl rfl ?_
                    exact ev_ret f_X12_inWords rfl rfl rfl ⟨_, _, _, rfl, hI, hX, ⟨_, rfl, (Int.le_trans (by decide : ((-1):Int) ≤ 0) l5_2), u5_2, (show (∀ (b : Nat → Int32) (n q : Nat), t_TM b n q gi → y5_2.toInt = s_mi (s_W b n q)) ∧ (0 ≤ y5_2.toInt → (gi 69 12).toInt = 2) from ⟨fun b n q h => t_I68_r (j69_0 b n q h) (by omega) (by omega) (by have h3 := h.2.2.2.1; omega), fun _ => by omega⟩)⟩⟩
                · have r78 : y69_6.toInt < y12_4.toInt := Int32.lt_iff_toInt_lt.mp (t_nle h70)
                  have u79 : y69_6.toInt ≤ 136 := t_ltu (t_nle h70) u12_4 rfl
                  have l80 : 2 ≤ y12_4.toInt := t_ltl (t_nle h70) l69_6 rfl
                  refine ev_loc f_X12_inWords (nx := 77) rfl rfl rfl rfl ?_
                  refine ev_if f_X12_inWords (t1 := 115) (t2 := 80) rfl rfl rfl (fun h81 => ?_) (fun h81 => ?_)
                  · have u82 : y69_5.toInt ≤ 0 := t_equ h81 (by decide : (0:Int32).toInt ≤ (0:Int))
                    refine ev_loc f_X12_inWords (nx := 117) rfl rfl rfl rfl ?_
                    refine ev_t f_X12_inWords (t1 := 122) (t2 := 120) rfl rfl rfl (t_eqT u82 l69_5 (by decide : (0:Int32).toInt ≤ (0:Int)) (by decide : (0:Int) ≤ (0:Int32).toInt)) ?_
                    refine ev_incR f_X12_inWords (nx := 125) (c := 1) (l := 1) (u := 138) rfl rfl (by decide) (by decide) l5_2 u5_2 rfl rfl (by decide) (by decide) rfl (fun z83 e83 l83 u83 => ?_)
                    refine ev_loc f_X12_inWords (nx := 127) rfl rfl rfl rfl ?_
                    refine ev_ic f_X12_inWords (nx := 128) (v := 1) rfl (by decide) rfl ?_
                    refine ev_addC f_X12_inWords (nx := 129) (c := 1) (l := 3) (u := 138) rfl (by decide) l80 u12_4 rfl rfl (by decide) (by decide) rfl (fun z84 e84 l84 u84 => ?_)
                    refine ev_loc f_X12_inWords (nx := 130) (lo' := [(3, .int z84), (2, .int z83), (6, .int y69_6), (5, .int y69_5), (4, .int y12_4), (0, .ref 69), (1, .retAddr 28)]) rfl rfl rfl rfl ?_
                    refine ev_jmp f_X12_inWords (nx := 14) rfl rfl rfl ?_
                    refine ev_sub (lo := [(3, .int z84), (2, .int z83), (0, .ref 69), (1, .retAddr 28)]) rfl (t_sc rfl (t_sc rfl (t_sc rfl (t_sc rfl t_sn)))) ?_
                    exact ih5 _ (by omega) (z84) (z83) (Int.le_trans (by decide : (1:Int) ≤ 3) l84) u84 (Int.le_trans (by decide : (0:Int) ≤ 1) l83) (by omega : z83.toInt ≤ (137:Int)) (fun b n q h => t_I14_s (j69_0 b n q h) (by omega) (by omega) (by omega)) (by omega) rfl
                  · have r85 : y69_5.toInt ≠ 0 := fun e => h81 (Int32.toInt_inj.mp (e.trans (by decide : (0:Int) = (0 : Int32).toInt)))
                    have l86 : 1 ≤ y69_5.toInt := t_nel h81 l69_5 rfl rfl
                    refine ev_loc f_X12_inWords (nx := 81) rfl rfl rfl rfl ?_
                    refine ev_loc f_X12_inWords (nx := 83) rfl rfl rfl rfl ?_
                    refine ev_qI0 f_X12_inWords (nx := 86) (r := []) rfl rfl rfl rfl rfl rfl rfl (c_m_charAt hI (y69_6) (Int.le_trans (by decide : (0:Int) ≤ 1) l69_6) (Int.le_trans u79 (by decide : (136:Int) ≤ 137))) rfl (fun w87 l87 u87 q87 => ?_)
                    have q87 : (w87 = x_kc y69_6.toNatClampNeg) ∧ (w87.toInt ≠ 32 → y69_6.toInt + 1 ≤ 137) ∧ 0 ≤ w87.toInt ∧ w87.toInt ≤ 127 := q87
                    refine ev_loc f_X12_inWords (nx := 87) rfl rfl rfl rfl ?_
                    refine ev_loc f_X12_inWords (nx := 88) rfl rfl rfl rfl ?_
                    refine ev_gvI f_X12_inWords (nx := 91) (w := (gi 69 13)) rfl (hI.wf.s rfl) rfl rfl rfl rfl ?_
                    refine ev_loc f_X12_inWords (nx := 93) rfl rfl rfl rfl ?_
                    refine ev_addR f_X12_inWords (nx := 94) (l := 1) (u := 1036) rfl l19 u19 l69_6 u79 rfl rfl (by decide) (by decide) rfl (fun z88 e88 l88 u88 => ?_)
                    refine ev_loc f_X12_inWords (nx := 95) rfl rfl rfl rfl ?_
                    refine ev_subR f_X12_inWords (nx := 96) (l := (-136)) (u := 1035) rfl l88 u88 l5_3 u11 rfl rfl (by decide) (by decide) rfl (fun z89 e89 l89 u89 => ?_)
                    refine ev_inV2 f_X12_inWords (nx := 99) (lo2 := [(0, .ref 69), (1, .int z89)]) rfl rfl rfl rfl f_X12_byteAt (hI.wf.s rfl) rfl rfl rfl rfl rfl ?_
                    refine ev_loc f_X12_byteAt (nx := 1) rfl rfl rfl rfl ?_
                    refine ev_loc f_X12_byteAt (nx := 2) rfl rfl rfl rfl ?_
                    refine ev_getI f_X12_byteAt (nx := 5) rfl (hI.wf.s rfl) rfl rfl rfl ?_
                    obtain ⟨l90, u90⟩ := hI.b (hI.wf.s (k := 69) rfl) (t_bdK rfl : t_bd 11 11 = some (0, 900))
                    refine ev_if f_X12_byteAt (t1 := 21) (t2 := 8) rfl rfl rfl (fun h91 => ?_) (fun h91 => ?_)
                    · have r92 : (gi 69 11).toInt ≤ z89.toInt := Int32.le_iff_toInt_le.mp h91
                      have l93 : 0 ≤ z89.toInt := t_lel h91 l90
                      refine ev_ic f_X12_byteAt (nx := 22) (v := -1) rfl (by decide) rfl ?_
                      refine ev_retK1 f_X12_byteAt rfl rfl rfl ?_
                      refine ev_if f_X12_inWords (t1 := 102) (t2 := 106) rfl rfl rfl (fun h94 => ?_) (fun h94 => ?_)
                      · have u95 : w87.toInt ≤ (-1) := t_equ h94 (by decide : ((-1):Int32).toInt ≤ ((-1):Int))
                        have l96 : (-1) ≤ w87.toInt := t_eql h94 (by decide : ((-1):Int) ≤ ((-1):Int32).toInt)
                        refine ev_ic f_X12_inWords (nx := 103) (v := 1) rfl (by decide) rfl ?_
                        refine ev_jmp f_X12_inWords (nx := 107) rfl rfl rfl ?_
                        refine ev_loc f_X12_inWords (nx := 109) (lo' := [(5, .int 1), (6, .int y69_6), (4, .int y12_4), (3, .int y5_3), (2, .int y5_2), (0, .ref 69), (1, .retAddr 28)]) rfl rfl rfl rfl ?_
                        refine ev_incR f_X12_inWords (nx := 112) (c := 1) (l := 2) (u := 137) rfl rfl (by decide) (by decide) l69_6 u79 rfl rfl (by decide) (by decide) rfl (fun z97 e97 l97 u97 => ?_)
                        refine ev_jmp f_X12_inWords (nx := 68) rfl rfl rfl ?_
                        refine ev_sub (lo := [(6, .int z97), (5, .int 1), (4, .int y12_4), (3, .int y5_3), (2, .int y5_2), (0, .ref 69), (1, .retAddr 28)]) rfl (t_sc rfl (t_sc rfl (t_sc rfl (t_sc rfl (t_sc rfl (t_sc rfl (t_sc rfl t_sn))))))) ?_
                        exact ih69 _ (by omega) (z97) (1) (Int.le_trans (by decide : (1:Int) ≤ 2) l97) u97 (Int.le_trans (by decide : (0:Int) ≤ 1) (by decide : (1:Int) ≤ (1:Int32).toInt)) (by decide : (1:Int32).toInt ≤ (1:Int)) (fun b n q h => t_I68_y (idx := z89) (w := ((-1) : Int32)) (j69_0 b n q h) h.1.1.1.2 (by omega) (by omega) (by have h2 := h.2.2.1; omega) (s_E_b h.1.2).2 q87.1 (h.1.1.no (x := z89) (by have h2 := h.2.2.1; omega) (by omega)) h94 (by decide) (by omega)) (by omega) (by omega) (by omega) rfl
                      · have r98 : w87.toInt ≠ (-1) := fun e => h94 (Int32.toInt_inj.mp (e.trans (by decide : ((-1):Int) = ((-1) : Int32).toInt)))
                        refine ev_ic f_X12_inWords (nx := 107) (v := 0) rfl (by decide) rfl ?_
                        refine ev_loc f_X12_inWords (nx := 109) (lo' := [(5, .int 0), (6, .int y69_6), (4, .int y12_4), (3, .int y5_3), (2, .int y5_2), (0, .ref 69), (1, .retAddr 28)]) rfl rfl rfl rfl ?_
                        refine ev_incR f_X12_inWords (nx := 112) (c := 1) (l := 2) (u := 137) rfl rfl (by decide) (by decide) l69_6 u79 rfl rfl (by decide) (by decide) rfl (fun z99 e99 l99 u99 => ?_)
                        refine ev_jmp f_X12_inWords (nx := 68) rfl rfl rfl ?_
                        refine ev_sub (lo := [(6, .int z99), (5, .int 0), (4, .int y12_4), (3, .int y5_3), (2, .int y5_2), (0, .ref 69), (1, .retAddr 28)]) rfl (t_sc rfl (t_sc rfl (t_sc rfl (t_sc rfl (t_sc rfl (t_sc rfl (t_sc rfl t_sn))))))) ?_
                        exact ih69 _ (by omega) (z99) (0) (Int.le_trans (by decide : (1:Int) ≤ 2) l99) u99 (by decide : (0:Int) ≤ (0:Int32).toInt) (Int.le_trans (by decide : (0:Int32).toInt ≤ (0:Int)) (by decide : (0:Int) ≤ 1)) (fun b n q h => t_I68_n (idx := z89) (w := ((-1) : Int32)) (j69_0 b n q h) h.1.1.1.2 (by omega) (by omega) (by have h2 := h.2.2.1; omega) (s_E_b h.1.2).2 q87.1 (h.1.1.no (x := z89) (by have h2 := h.2.2.1; omega) (by omega)) (by have kk : (-1 : Int32).toInt = -1 := rfl; omega) (by decide) (by omega)) (by omega) (by omega) (by omega) rfl
                    · have r100 : z89.toInt < (gi 69 11).toInt := Int32.lt_iff_toInt_lt.mp (t_nle h91)
                      have u101 : z89.toInt ≤ 899 := t_ltu (t_nle h91) u90 rfl
                      refine ev_loc f_X12_byteAt (nx := 9) rfl rfl rfl rfl ?_
                      refine ev_getR f_X12_byteAt (nx := 12) rfl (hI.wf.s rfl) rfl rfl (hI.wf.r rfl) rfl rfl ?_
                      refine ev_loc f_X12_byteAt (nx := 13) rfl rfl rfl rfl ?_
                      have l103 : (0:Int) ≤ z89.toInt := (by omega)
                      refine ev_baldT f_X12_byteAt (nx := 14) rfl (hI.wf.s rfl) rfl l103 (by decide) u101 (by decide) rfl (fun w102 e102 => ?_)
                      refine ev_sp f_X12_byteAt (nx := 17) (v := 255) rfl (by decide) rfl ?_
                      refine ev_andE f_X12_byteAt (nx := 18) (c := 255) rfl (by decide) (by decide) rfl (fun z104 e104 l104 u104 => ?_)
                      refine ev_jmp f_X12_byteAt (nx := 22) rfl rfl rfl ?_
                      refine ev_retK1 f_X12_byteAt rfl rfl rfl ?_
                      refine ev_if f_X12_inWords (t1 := 102) (t2 := 106) rfl rfl rfl (fun h105 => ?_) (fun h105 => ?_)
                      · have r106 : w87.toInt = z104.toInt := t_eqi h105
                        have u107 : w87.toInt ≤ 255 := t_equ h105 u104
                        have l108 : 0 ≤ w87.toInt := t_eql h105 l104
                        refine ev_ic f_X12_inWords (nx := 103) (v := 1) rfl (by decide) rfl ?_
                        refine ev_jmp f_X12_inWords (nx := 107) rfl rfl rfl ?_
                        refine ev_loc f_X12_inWords (nx := 109) (lo' := [(5, .int 1), (6, .int y69_6), (4, .int y12_4), (3, .int y5_3), (2, .int y5_2), (0, .ref 69), (1, .retAddr 28)]) rfl rfl rfl rfl ?_
                        refine ev_incR f_X12_inWords (nx := 112) (c := 1) (l := 2) (u := 137) rfl rfl (by decide) (by decide) l69_6 u79 rfl rfl (by decide) (by decide) rfl (fun z109 e109 l109 u109 => ?_)
                        refine ev_jmp f_X12_inWords (nx := 68) rfl rfl rfl ?_
                        refine ev_sub (lo := [(6, .int z109), (5, .int 1), (4, .int y12_4), (3, .int y5_3), (2, .int y5_2), (0, .ref 69), (1, .retAddr 28)]) rfl (t_sc rfl (t_sc rfl (t_sc rfl (t_sc rfl (t_sc rfl (t_sc rfl (t_sc rfl t_sn))))))) ?_
                        exact ih69 _ (by omega) (z109) (1) (Int.le_trans (by decide : (1:Int) ≤ 2) l109) u109 (Int.le_trans (by decide : (0:Int) ≤ 1) (by decide : (1:Int) ≤ (1:Int32).toInt)) (by decide : (1:Int32).toInt ≤ (1:Int)) (fun b n q h => t_I68_y (idx := z89) (w := z104) (j69_0 b n q h) h.1.1.1.2 (by omega) (by omega) (by have h2 := h.2.2.1; omega) (s_E_b h.1.2).2 q87.1 (h.1.1.at (x := z89) (by omega) (by omega) e102 e104) h105 (by decide) (by omega)) (by omega) (by omega) (by omega) rfl
                      · have r110 : w87.toInt ≠ z104.toInt := t_nei h105
                        refine ev_ic f_X12_inWords (nx := 107) (v := 0) rfl (by decide) rfl ?_
                        refine ev_loc f_X12_inWords (nx := 109) (lo' := [(5, .int 0), (6, .int y69_6), (4, .int y12_4), (3, .int y5_3), (2, .int y5_2), (0, .ref 69), (1, .retAddr 28)]) rfl rfl rfl rfl ?_
                        refine ev_incR f_X12_inWords (nx := 112) (c := 1) (l := 2) (u := 137) rfl rfl (by decide) (by decide) l69_6 u79 rfl rfl (by decide) (by decide) rfl (fun z111 e111 l111 u111 => ?_)
                        refine ev_jmp f_X12_inWords (nx := 68) rfl rfl rfl ?_
                        refine ev_sub (lo := [(6, .int z111), (5, .int 0), (4, .int y12_4), (3, .int y5_3), (2, .int y5_2), (0, .ref 69), (1, .retAddr 28)]) rfl (t_sc rfl (t_sc rfl (t_sc rfl (t_sc rfl (t_sc rfl (t_sc rfl (t_sc rfl t_sn))))))) ?_
                        exact ih69 _ (by omega) (z111) (0) (Int.le_trans (by decide : (1:Int) ≤ 2) l111) u111 (by decide : (0:Int) ≤ (0:Int32).toInt) (Int.le_trans (by decide : (0:Int32).toInt ≤ (0:Int)) (by decide : (0:Int) ≤ 1)) (fun b n q h => t_I68_n (idx := z89) (w := z104) (j69_0 b n q h) h.1.1.1.2 (by omega) (by omega) (by have h2 := h.2.2.1; omega) (s_E_b h.1.2).2 q87.1 (h.1.1.at (x := z89) (by omega) (by omega) e102 e104) (by omega) (by decide) (by omega)) (by omega) (by omega) (by omega) rfl
              refine ev_sub (lo := [(6, .int y5_3), (5, .int 0), (4, .int y12_4), (3, .int y5_3), (2, .int y5_2), (0, .ref 69), (1, .retAddr 28)]) rfl (t_sc rfl (t_sc rfl (t_sc rfl (t_sc rfl (t_sc rfl (t_sc rfl (t_sc rfl t_sn))))))) ?_
              exact L69 _ (y5_3) (0) l5_3 u11 (by decide : (0:Int) ≤ (0:Int32).toInt) (Int.le_trans (by decide : (0:Int32).toInt ≤ (0:Int)) (by decide : (0:Int) ≤ 1)) (fun b n q h => t_I68_0 (j12_0 b n q h) q13.1 (by omega) (Or.inr ⟨by decide, by have h1 := h.2.1; have h2 := h.2.2.1; omega⟩) (s_E_b h.1.2).1) (by omega) (by omega) (by omega) rfl
          · have r112 : w13.toInt ≠ 32 := fun e => h14 (Int32.toInt_inj.mp (e.trans (by decide : (32:Int) = (32 : Int32).toInt)))
            refine ev_incR f_X12_inWords (nx := 39) (c := 1) (l := 2) (u := 138) rfl rfl (by decide) (by decide) l12_4 u12_4 rfl rfl (by decide) (by decide) rfl (fun z113 e113 l113 u113 => ?_)
            refine ev_jmp f_X12_inWords (nx := 25) rfl rfl rfl ?_
            refine ev_sub (lo := [(4, .int z113), (3, .int y5_3), (2, .int y5_2), (0, .ref 69), (1, .retAddr 28)]) rfl (t_sc rfl (t_sc rfl (t_sc rfl (t_sc rfl (t_sc rfl t_sn))))) ?_
            exact ih12 _ (by omega) (z113) (Int.le_trans (by decide : (1:Int) ≤ 2) l113) (by omega : z113.toInt ≤ (137:Int)) (fun b n q h => t_I25_s (j12_0 b n q h) q13.1 (by omega) (by omega)) (by omega) (by omega) rfl
        refine ev_sub (lo := [(4, .int y5_3), (3, .int y5_3), (2, .int y5_2), (0, .ref 69), (1, .retAddr 28)]) rfl (t_sc rfl (t_sc rfl (t_sc rfl (t_sc rfl (t_sc rfl t_sn))))) ?_
        exact L12 _ (y5_3) l5_3 u11 (fun b n q h => t_I25_0 (j5_0 b n q h) (by omega)) (by omega) (by omega) rfl
    refine ev_sub (lo := [(3, .int 1), (2, .int 0), (0, .ref 69), (1, .retAddr 28)]) rfl (t_sc rfl (t_sc rfl (t_sc rfl (t_sc rfl t_sn)))) ?_
    exact L5 _ (1) (0) (by decide : (1:Int) ≤ (1:Int32).toInt) (Int.le_trans (by decide : (1:Int32).toInt ≤ (1:Int)) (by decide : (1:Int) ≤ 138)) (by decide : (0:Int) ≤ (0:Int32).toInt) (Int.le_trans (by decide : (0:Int32).toInt ≤ (0:Int)) (by decide : (0:Int) ≤ 137)) (fun b n q h => t_I14_0) (by have kf114 : (0 : Int32).toInt = 0 := (by decide); have kf115 : (1 : Int32).toInt = 1 := (by decide); omega) rfl
  · have r116 : (gi 69 12).toInt ≠ 2 := fun e => h2 (Int32.toInt_inj.mp (e.trans (by decide : (2:Int) = (2 : Int32).toInt)))
    refine ev_ic f_X12_inWords (nx := 9) (v := -1) rfl (by decide) rfl ?_
    exact ev_ret f_X12_inWords rfl rfl rfl ⟨_, _, _, rfl, hI, hX, ⟨_, rfl, (by decide : ((-1):Int) ≤ ((-1):Int32).toInt), (Int.le_trans (by decide : ((-1):Int32).toInt ≤ ((-1):Int)) (by decide : ((-1):Int) ≤ 137)), (show (∀ (b : Nat → Int32) (n q : Nat), t_TM b n q gi → ((-1) : Int) = s_mi (s_W b n q)) ∧ (0 ≤ ((-1) : Int) → (gi 69 12).toInt = 2) from ⟨fun b n q h => by rw [s_K_W (fun hh => by have h3 := h.2.2.2.1; omega)]; rfl, fun hh => absurd hh (by decide)⟩)⟩⟩
noncomputable def wl_n_fails : List (Nat × Nat) := [(69, 17), (69, 18)]
noncomputable def Q_n_fails (gi : Nat → Nat → Int32) (gl : Nat → Nat → Int64) (gr : Nat → Nat → Value) (ar1 : Int32) : Int32 → (Nat → Nat → Int32) → (Nat → Nat → Int64) → (Nat → Nat → Value) → Prop := fun (v : Int32) (gi2 : Nat → Nat → Int32) (gl2 : Nat → Nat → Int64) (gr2 : Nat → Nat → Value) => (∀ (b : Nat → Int32) (n q : Nat), t_TM b n q gi → (gi 69 18).toInt = 0 → t_MF gi2 (s_fk b n q ar1.toInt) (s_F b n q)) ∧ v.toInt = 0
theorem c_n_fails {X : x_Ext} {d : Nat} {sh : List (Nat ⊕ (Nat × Nat))} {gi : Nat → Nat → Int32} {gl : Nat → Nat → Int64} {gr : Nat → Nat → Value} (hI : t_I sh gi gr) (ar1 : Int32) (l_a1 : 2 ≤ ar1.toInt) (u_a1 : ar1.toInt ≤ 7) : x_Me X (d + 1) n_X12_fails [.ref 69, .int ar1] (sh, gi, gl, gr) (t_PI wl_n_fails sh gi gl gr 0 0 (Q_n_fails gi gl gr ar1)) := by
  have hX : t_X wl_n_fails sh gi gl gr gi gl gr := t_X.rf
  refine me_i f_X12_fails (hI.wf.s rfl) rfl rfl rfl ?_
  refine ev_loc f_X12_fails (nx := 1) rfl rfl rfl rfl ?_
  refine ev_gvI f_X12_fails (nx := 4) (w := (gi 69 18)) rfl (hI.wf.s rfl) rfl rfl rfl rfl ?_
  refine ev_if f_X12_fails (t1 := 7) (t2 := 32) rfl rfl rfl (fun h2 => ?_) (fun h2 => ?_)
  · have u3 : (gi 69 18).toInt ≤ 0 := t_equ h2 (by decide : (0:Int32).toInt ≤ (0:Int))
    have l4 : 0 ≤ (gi 69 18).toInt := t_eql h2 (by decide : (0:Int) ≤ (0:Int32).toInt)
    refine ev_loc f_X12_fails (nx := 8) rfl rfl rfl rfl ?_
    refine ev_loc f_X12_fails (nx := 9) rfl rfl rfl rfl ?_
    refine ev_getI f_X12_fails (nx := 12) rfl (hI.wf.s rfl) rfl rfl rfl ?_
    obtain ⟨l5, u5⟩ := hI.b (hI.wf.s (k := 69) rfl) (t_bdK rfl : t_bd 11 12 = some (0, 4))
    refine ev_ic f_X12_fails (nx := 13) (v := 1) rfl (by decide) rfl ?_
    refine ev_if f_X12_fails (t1 := 16) (t2 := 20) rfl rfl rfl (fun h6 => ?_) (fun h6 => ?_)
    · have u7 : (gi 69 12).toInt ≤ 1 := t_equ h6 (by decide : (1:Int32).toInt ≤ (1:Int))
      have l8 : 1 ≤ (gi 69 12).toInt := t_eql h6 (by decide : (1:Int) ≤ (1:Int32).toInt)
      refine ev_ic f_X12_fails (nx := 17) (v := 1) rfl (by decide) rfl ?_
      refine ev_jmp f_X12_fails (nx := 21) rfl rfl rfl ?_
      refine ev_putIT f_X12_fails (nx := 24) rfl (hI.wf.s rfl) rfl rfl rfl (hI.put0 (hI.wf.s rfl) rfl rfl) (hX.upI rfl) (fun g9 e9 hI hX => ?_)
      refine ev_loc f_X12_fails (nx := 25) rfl rfl rfl rfl ?_
      refine ev_loc f_X12_fails (nx := 26) rfl rfl rfl rfl ?_
      refine ev_getI f_X12_fails (nx := 29) rfl (hI.wf.s rfl) rfl rfl rfl ?_
      obtain ⟨l10, u10⟩ := hI.b (hI.wf.s (k := 69) rfl) (t_bdK rfl : t_bd 11 13 = some (0, 900))
      refine ev_putIT f_X12_fails (nx := 32) rfl (hI.wf.s rfl) rfl rfl rfl (hI.put0 (hI.wf.s rfl) rfl rfl) (hX.upI rfl) (fun g11 e11 hI hX => ?_)
      refine ev_ic f_X12_fails (nx := 33) (v := 0) rfl (by decide) rfl ?_
      exact ev_ret f_X12_fails rfl rfl rfl ⟨_, _, _, rfl, hI, hX, ⟨_, rfl, (by decide : (0:Int) ≤ (0:Int32).toInt), (by decide : (0:Int32).toInt ≤ (0:Int)), (show (∀ (b : Nat → Int32) (n q : Nat), t_TM b n q gi → (gi 69 18).toInt = 0 → t_MF g11 (s_fk b n q ar1.toInt) (s_F b n q)) ∧ (0 : Int) = 0 from ⟨fun b n q h h0 => h.fl e9 e11 (Or.inl ⟨by omega, rfl⟩), rfl⟩)⟩⟩
    · have r12 : (gi 69 12).toInt ≠ 1 := fun e => h6 (Int32.toInt_inj.mp (e.trans (by decide : (1:Int) = (1 : Int32).toInt)))
      refine ev_loc f_X12_fails (nx := 21) rfl rfl rfl rfl ?_
      refine ev_putIT f_X12_fails (nx := 24) rfl (hI.wf.s rfl) rfl rfl rfl (hI.put0 (hI.wf.s rfl) rfl rfl) (hX.upI rfl) (fun g13 e13 hI hX => ?_)
      refine ev_loc f_X12_fails (nx := 25) rfl rfl rfl rfl ?_
      refine ev_loc f_X12_fails (nx := 26) rfl rfl rfl rfl ?_
      refine ev_getI f_X12_fails (nx := 29) rfl (hI.wf.s rfl) rfl rfl rfl ?_
      obtain ⟨l14, u14⟩ := hI.b (hI.wf.s (k := 69) rfl) (t_bdK rfl : t_bd 11 13 = some (0, 900))
      refine ev_putIT f_X12_fails (nx := 32) rfl (hI.wf.s rfl) rfl rfl rfl (hI.put0 (hI.wf.s rfl) rfl rfl) (hX.upI rfl) (fun g15 e15 hI hX => ?_)
      refine ev_ic f_X12_fails (nx := 33) (v := 0) rfl (by decide) rfl ?_
      exact ev_ret f_X12_fails rfl rfl rfl ⟨_, _, _, rfl, hI, hX, ⟨_, rfl, (by decide : (0:Int) ≤ (0:Int32).toInt), (by decide : (0:Int32).toInt ≤ (0:Int)), (show (∀ (b : Nat → Int32) (n q : Nat), t_TM b n q gi → (gi 69 18).toInt = 0 → t_MF g15 (s_fk b n q ar1.toInt) (s_F b n q)) ∧ (0 : Int) = 0 from ⟨fun b n q h h0 => h.fl e13 e15 (Or.inr ⟨by omega, rfl⟩), rfl⟩)⟩⟩
  · have r16 : (gi 69 18).toInt ≠ 0 := fun e => h2 (Int32.toInt_inj.mp (e.trans (by decide : (0:Int) = (0 : Int32).toInt)))
    refine ev_ic f_X12_fails (nx := 33) (v := 0) rfl (by decide) rfl ?_
    exact ev_ret f_X12_fails rfl rfl rfl ⟨_, _, _, rfl, hI, hX, ⟨_, rfl, (by decide : (0:Int) ≤ (0:Int32).toInt), (by decide : (0:Int32).toInt ≤ (0:Int)), (show (∀ (b : Nat → Int32) (n q : Nat), t_TM b n q gi → (gi 69 18).toInt = 0 → t_MF gi (s_fk b n q ar1.toInt) (s_F b n q)) ∧ (0 : Int) = 0 from ⟨fun b n q h h0 => absurd h0 (by omega), rfl⟩)⟩⟩
noncomputable def wl_n_isName : List (Nat × Nat) := []
noncomputable def Q_n_isName (gi : Nat → Nat → Int32) (gl : Nat → Nat → Int64) (gr : Nat → Nat → Value) : Int32 → (Nat → Nat → Int32) → (Nat → Nat → Int64) → (Nat → Nat → Value) → Prop := fun (v : Int32) (gi2 : Nat → Nat → Int32) (gl2 : Nat → Nat → Int64) (gr2 : Nat → Nat → Value) => ∀ (b : Nat → Int32) (n q : Nat), t_TM b n q gi → (v.toInt = 1 ↔ s_isN b n q)
theorem c_n_isName {X : x_Ext} {d : Nat} {sh : List (Nat ⊕ (Nat × Nat))} {gi : Nat → Nat → Int32} {gl : Nat → Nat → Int64} {gr : Nat → Nat → Value} (hI : t_I sh gi gr) : x_Me X (d + 6) n_X12_isName [.ref 69, .retAddr 28] (sh, gi, gl, gr) (t_PI wl_n_isName sh gi gl gr 0 1 (Q_n_isName gi gl gr)) := by
  have hX : t_X wl_n_isName sh gi gl gr gi gl gr := t_X.rf
  refine me_i f_X12_isName (hI.wf.s rfl) rfl rfl rfl ?_
  refine ev_loc f_X12_isName (nx := 1) rfl rfl rfl rfl ?_
  refine ev_getI f_X12_isName (nx := 4) rfl (hI.wf.s rfl) rfl rfl rfl ?_
  obtain ⟨l1, u1⟩ := hI.b (hI.wf.s (k := 69) rfl) (t_bdK rfl : t_bd 11 12 = some (0, 4))
  refine ev_ic f_X12_isName (nx := 5) (v := 2) rfl (by decide) rfl ?_
  refine ev_if f_X12_isName (t1 := 8) (t2 := 35) rfl rfl rfl (fun h2 => ?_) (fun h2 => ?_)
  · have u3 : (gi 69 12).toInt ≤ 2 := t_equ h2 (by decide : (2:Int32).toInt ≤ (2:Int))
    have l4 : 2 ≤ (gi 69 12).toInt := t_eql h2 (by decide : (2:Int) ≤ (2:Int32).toInt)
    refine ev_loc f_X12_isName (nx := 9) rfl rfl rfl rfl ?_
    refine ev_getI f_X12_isName (nx := 12) rfl (hI.wf.s rfl) rfl rfl rfl ?_
    obtain ⟨l5, u5⟩ := hI.b (hI.wf.s (k := 69) rfl) (t_bdK rfl : t_bd 11 14 = some (0, 900))
    refine ev_loc f_X12_isName (nx := 13) rfl rfl rfl rfl ?_
    refine ev_getI f_X12_isName (nx := 16) rfl (hI.wf.s rfl) rfl rfl rfl ?_
    obtain ⟨l6, u6⟩ := hI.b (hI.wf.s (k := 69) rfl) (t_bdK rfl : t_bd 11 13 = some (0, 900))
    refine ev_subR f_X12_isName (nx := 17) (l := (-900)) (u := 900) rfl l5 u5 l6 u6 rfl rfl (by decide) (by decide) rfl (fun z7 e7 l7 u7 => ?_)
    refine ev_bp f_X12_isName (nx := 19) (v := 8) rfl (by decide) rfl ?_
    refine ev_if f_X12_isName (t1 := 35) (t2 := 22) rfl rfl rfl (fun h8 => ?_) (fun h8 => ?_)
    · have l9 : 9 ≤ z7.toInt := t_ltl h8 (by decide : (8:Int) ≤ (8:Int32).toInt) rfl
      have u10 : (gi 69 13).toInt ≤ 891 := by have := u5; omega
      refine ev_ic f_X12_isName (nx := 36) (v := 0) rfl (by decide) rfl ?_
      exact ev_ret f_X12_isName rfl rfl rfl ⟨_, _, _, rfl, hI, hX, ⟨_, rfl, (by decide : (0:Int) ≤ (0:Int32).toInt), (Int.le_trans (by decide : (0:Int32).toInt ≤ (0:Int)) (by decide : (0:Int) ≤ 1)), (show ∀ (b : Nat → Int32) (n q : Nat), t_TM b n q gi → ((0 : Int) = 1 ↔ s_isN b n q) from (fun b n q h => ⟨fun hh => absurd hh (by decide), fun hh => absurd ((h.isN).mpr hh) (by rintro ⟨ha, hb, hc⟩; omega)⟩))⟩⟩
    · have u11 : z7.toInt ≤ 8 := t_leu (t_nlt h8) (by decide : (8:Int32).toInt ≤ (8:Int))
      refine ev_loc f_X12_isName (nx := 23) rfl rfl rfl rfl ?_
      refine ev_loc f_X12_isName (nx := 24) rfl rfl rfl rfl ?_
      refine ev_qI0 f_X12_isName (nx := 27) (r := []) rfl rfl rfl rfl rfl rfl rfl (c_n_inWords hI ) rfl (fun w12 l12 u12 q12 => ?_)
      have q12 : (∀ (b : Nat → Int32) (n q : Nat), t_TM b n q gi → w12.toInt = s_mi (s_W b n q)) ∧ (0 ≤ w12.toInt → (gi 69 12).toInt = 2) := q12
      refine ev_ic f_X12_isName (nx := 28) (v := -1) rfl (by decide) rfl ?_
      refine ev_if f_X12_isName (t1 := 31) (t2 := 35) rfl rfl rfl (fun h13 => ?_) (fun h13 => ?_)
      · have u14 : w12.toInt ≤ (-1) := t_equ h13 (by decide : ((-1):Int32).toInt ≤ ((-1):Int))
        refine ev_ic f_X12_isName (nx := 32) (v := 1) rfl (by decide) rfl ?_
        refine ev_jmp f_X12_isName (nx := 36) rfl rfl rfl ?_
        exact ev_ret f_X12_isName rfl rfl rfl ⟨_, _, _, rfl, hI, hX, ⟨_, rfl, (Int.le_trans (by decide : (0:Int) ≤ 1) (by decide : (1:Int) ≤ (1:Int32).toInt)), (by decide : (1:Int32).toInt ≤ (1:Int)), (show ∀ (b : Nat → Int32) (n q : Nat), t_TM b n q gi → ((1 : Int) = 1 ↔ s_isN b n q) from (fun b n q h => ⟨fun _ => (h.isN).mp ⟨by omega, by omega, by rw [← q12.1 b n q h]; omega⟩, fun _ => rfl⟩))⟩⟩
      · have r15 : w12.toInt ≠ (-1) := fun e => h13 (Int32.toInt_inj.mp (e.trans (by decide : ((-1):Int) = ((-1) : Int32).toInt)))
        have l16 : 0 ≤ w12.toInt := t_nel h13 l12 rfl rfl
        refine ev_ic f_X12_isName (nx := 36) (v := 0) rfl (by decide) rfl ?_
        exact ev_ret f_X12_isName rfl rfl rfl ⟨_, _, _, rfl, hI, hX, ⟨_, rfl, (by decide : (0:Int) ≤ (0:Int32).toInt), (Int.le_trans (by decide : (0:Int32).toInt ≤ (0:Int)) (by decide : (0:Int) ≤ 1)), (show ∀ (b : Nat → Int32) (n q : Nat), t_TM b n q gi → ((0 : Int) = 1 ↔ s_isN b n q) from (fun b n q h => ⟨fun hh => absurd hh (by decide), fun hh => absurd ((h.isN).mpr hh).2.2 (by rw [← q12.1 b n q h]; omega)⟩))⟩⟩
  · have r17 : (gi 69 12).toInt ≠ 2 := fun e => h2 (Int32.toInt_inj.mp (e.trans (by decide : (2:Int) = (2 : Int32).toInt)))
    refine ev_ic f_X12_isName (nx := 36) (v := 0) rfl (by decide) rfl ?_
    exact ev_ret f_X12_isName rfl rfl rfl ⟨_, _, _, rfl, hI, hX, ⟨_, rfl, (by decide : (0:Int) ≤ (0:Int32).toInt), (Int.le_trans (by decide : (0:Int32).toInt ≤ (0:Int)) (by decide : (0:Int) ≤ 1)), (show ∀ (b : Nat → Int32) (n q : Nat), t_TM b n q gi → ((0 : Int) = 1 ↔ s_isN b n q) from (fun b n q h => ⟨fun hh => absurd hh (by decide), fun hh => absurd ((h.isN).mpr hh) (by rintro ⟨ha, hb, hc⟩; omega)⟩))⟩⟩
noncomputable def wl_n_isSign : List (Nat × Nat) := []
noncomputable def Q_n_isSign (gi : Nat → Nat → Int32) (gl : Nat → Nat → Int64) (gr : Nat → Nat → Value) (ar1 : Int32) : Int32 → (Nat → Nat → Int32) → (Nat → Nat → Int64) → (Nat → Nat → Value) → Prop := fun (v : Int32) (gi2 : Nat → Nat → Int32) (gl2 : Nat → Nat → Int64) (gr2 : Nat → Nat → Value) => ∀ (b : Nat → Int32) (n q : Nat), t_TM b n q gi → (v.toInt = 1 ↔ s_isS b n q ar1.toInt)
theorem c_n_isSign {X : x_Ext} {d : Nat} {sh : List (Nat ⊕ (Nat × Nat))} {gi : Nat → Nat → Int32} {gl : Nat → Nat → Int64} {gr : Nat → Nat → Value} (hI : t_I sh gi gr) (ar1 : Int32) : x_Me X (d + 1) n_X12_isSign [.ref 69, .int ar1] (sh, gi, gl, gr) (t_PI wl_n_isSign sh gi gl gr 0 1 (Q_n_isSign gi gl gr ar1)) := by
  have hX : t_X wl_n_isSign sh gi gl gr gi gl gr := t_X.rf
  refine me_i f_X12_isSign (hI.wf.s rfl) rfl rfl rfl ?_
  refine ev_loc f_X12_isSign (nx := 1) rfl rfl rfl rfl ?_
  refine ev_getI f_X12_isSign (nx := 4) rfl (hI.wf.s rfl) rfl rfl rfl ?_
  obtain ⟨l1, u1⟩ := hI.b (hI.wf.s (k := 69) rfl) (t_bdK rfl : t_bd 11 12 = some (0, 4))
  refine ev_ic f_X12_isSign (nx := 5) (v := 4) rfl (by decide) rfl ?_
  refine ev_if f_X12_isSign (t1 := 8) (t2 := 20) rfl rfl rfl (fun h2 => ?_) (fun h2 => ?_)
  · have l3 : 4 ≤ (gi 69 12).toInt := t_eql h2 (by decide : (4:Int) ≤ (4:Int32).toInt)
    refine ev_loc f_X12_isSign (nx := 9) rfl rfl rfl rfl ?_
    refine ev_getI f_X12_isSign (nx := 12) rfl (hI.wf.s rfl) rfl rfl rfl ?_
    refine ev_loc f_X12_isSign (nx := 13) rfl rfl rfl rfl ?_
    refine ev_if f_X12_isSign (t1 := 16) (t2 := 20) rfl rfl rfl (fun h4 => ?_) (fun h4 => ?_)
    · have r5 : (gi 69 15).toInt = ar1.toInt := t_eqi h4
      refine ev_ic f_X12_isSign (nx := 17) (v := 1) rfl (by decide) rfl ?_
      refine ev_jmp f_X12_isSign (nx := 21) rfl rfl rfl ?_
      exact ev_ret f_X12_isSign rfl rfl rfl ⟨_, _, _, rfl, hI, hX, ⟨_, rfl, (Int.le_trans (by decide : (0:Int) ≤ 1) (by decide : (1:Int) ≤ (1:Int32).toInt)), (by decide : (1:Int32).toInt ≤ (1:Int)), (show ∀ (b : Nat → Int32) (n q : Nat), t_TM b n q gi → ((1 : Int) = 1 ↔ s_isS b n q ar1.toInt) from (fun b n q h => ⟨fun _ => (h.isS).mp ⟨by omega, by omega⟩, fun _ => rfl⟩))⟩⟩
    · have r6 : (gi 69 15).toInt ≠ ar1.toInt := t_nei h4
      refine ev_ic f_X12_isSign (nx := 21) (v := 0) rfl (by decide) rfl ?_
      exact ev_ret f_X12_isSign rfl rfl rfl ⟨_, _, _, rfl, hI, hX, ⟨_, rfl, (by decide : (0:Int) ≤ (0:Int32).toInt), (Int.le_trans (by decide : (0:Int32).toInt ≤ (0:Int)) (by decide : (0:Int) ≤ 1)), (show ∀ (b : Nat → Int32) (n q : Nat), t_TM b n q gi → ((0 : Int) = 1 ↔ s_isS b n q ar1.toInt) from (fun b n q h => ⟨fun hh => absurd hh (by decide), fun hh => absurd ((h.isS).mpr hh) (by rintro ⟨ha, hb⟩; omega)⟩))⟩⟩
  · have r7 : (gi 69 12).toInt ≠ 4 := fun e => h2 (Int32.toInt_inj.mp (e.trans (by decide : (4:Int) = (4 : Int32).toInt)))
    have u8 : (gi 69 12).toInt ≤ 3 := t_neu h2 u1 rfl rfl
    refine ev_ic f_X12_isSign (nx := 21) (v := 0) rfl (by decide) rfl ?_
    exact ev_ret f_X12_isSign rfl rfl rfl ⟨_, _, _, rfl, hI, hX, ⟨_, rfl, (by decide : (0:Int) ≤ (0:Int32).toInt), (Int.le_trans (by decide : (0:Int32).toInt ≤ (0:Int)) (by decide : (0:Int) ≤ 1)), (show ∀ (b : Nat → Int32) (n q : Nat), t_TM b n q gi → ((0 : Int) = 1 ↔ s_isS b n q ar1.toInt) from (fun b n q h => ⟨fun hh => absurd hh (by decide), fun hh => absurd ((h.isS).mpr hh) (by rintro ⟨ha, hb⟩; omega)⟩))⟩⟩
noncomputable def wl_n_areBlasts : List (Nat × Nat) := []
noncomputable def Q_n_areBlasts (gi : Nat → Nat → Int32) (gl : Nat → Nat → Int64) (gr : Nat → Nat → Value) : Int32 → (Nat → Nat → Int32) → (Nat → Nat → Int64) → (Nat → Nat → Value) → Prop := fun (v : Int32) (gi2 : Nat → Nat → Int32) (gl2 : Nat → Nat → Int64) (gr2 : Nat → Nat → Value) => (∀ (b : Nat → Int32) (n q : Nat), t_TM b n q gi → (v.toInt = 1 ↔ s_isB b n q)) ∧ (v.toInt = 1 → (gi 69 14).toInt - (gi 69 13).toInt ≤ 6)
theorem c_n_areBlasts {X : x_Ext} {d : Nat} {sh : List (Nat ⊕ (Nat × Nat))} {gi : Nat → Nat → Int32} {gl : Nat → Nat → Int64} {gr : Nat → Nat → Value} (hI : t_I sh gi gr) : x_Me X (d + 2) n_X12_areBlasts [.ref 69] (sh, gi, gl, gr) (t_PI wl_n_areBlasts sh gi gl gr 0 1 (Q_n_areBlasts gi gl gr)) := by
  have hX : t_X wl_n_areBlasts sh gi gl gr gi gl gr := t_X.rf
  refine me_i f_X12_areBlasts (hI.wf.s rfl) rfl rfl rfl ?_
  obtain ⟨l1, u1⟩ := hI.b (hI.wf.s (k := 69) rfl) (t_bdK rfl : t_bd 11 13 = some (0, 900))
  obtain ⟨l2, u2⟩ := hI.b (hI.wf.s (k := 69) rfl) (t_bdK rfl : t_bd 11 14 = some (0, 900))
  refine ev_loc f_X12_areBlasts (nx := 1) rfl rfl rfl rfl ?_
  refine ev_getI f_X12_areBlasts (nx := 4) rfl (hI.wf.s rfl) rfl rfl rfl ?_
  obtain ⟨l3, u3⟩ := hI.b (hI.wf.s (k := 69) rfl) (t_bdK rfl : t_bd 11 12 = some (0, 4))
  refine ev_ic f_X12_areBlasts (nx := 5) (v := 2) rfl (by decide) rfl ?_
  refine ev_if f_X12_areBlasts (t1 := 8) (t2 := 22) rfl rfl rfl (fun h4 => ?_) (fun h4 => ?_)
  · have u5 : (gi 69 12).toInt ≤ 2 := t_equ h4 (by decide : (2:Int32).toInt ≤ (2:Int))
    have l6 : 2 ≤ (gi 69 12).toInt := t_eql h4 (by decide : (2:Int) ≤ (2:Int32).toInt)
    refine ev_loc f_X12_areBlasts (nx := 9) rfl rfl rfl rfl ?_
    refine ev_gvI f_X12_areBlasts (nx := 12) (w := (gi 69 14)) rfl (hI.wf.s rfl) rfl rfl rfl rfl ?_
    refine ev_loc f_X12_areBlasts (nx := 13) rfl rfl rfl rfl ?_
    refine ev_gvI f_X12_areBlasts (nx := 16) (w := (gi 69 13)) rfl (hI.wf.s rfl) rfl rfl rfl rfl ?_
    refine ev_subR f_X12_areBlasts (nx := 17) (l := (-900)) (u := 900) rfl l2 u2 l1 u1 rfl rfl (by decide) (by decide) rfl (fun z7 e7 l7 u7 => ?_)
    refine ev_bp f_X12_areBlasts (nx := 19) (v := 6) rfl (by decide) rfl ?_
    refine ev_if f_X12_areBlasts (t1 := 24) (t2 := 22) rfl rfl rfl (fun h8 => ?_) (fun h8 => ?_)
    · have u9 : z7.toInt ≤ 6 := t_leu h8 (by decide : (6:Int32).toInt ≤ (6:Int))
      refine ev_loc f_X12_areBlasts (nx := 25) rfl rfl rfl rfl ?_
      refine ev_gvI f_X12_areBlasts (nx := 28) (w := (gi 69 13)) rfl (hI.wf.s rfl) rfl rfl rfl rfl ?_
      refine ev_loc f_X12_areBlasts (nx := 29) (lo' := [(1, .int (gi 69 13)), (0, .ref 69)]) rfl rfl rfl rfl ?_
      have L10 : ∀ (m10 : Nat) (y10_1 : Int32), 0 ≤ y10_1.toInt → y10_1.toInt ≤ 900 → (∀ (b : Nat → Int32) (n q : Nat), t_TM b n q gi → t_BL b n q y10_1) → (900 - y10_1.toInt).toNat = m10 → x_Ev X (d + 2) n_X12_areBlasts 29 [(1, .int y10_1), (0, .ref 69)] [] (sh, gi, gl, gr) (t_PI wl_n_areBlasts sh gi gl gr 0 1 (Q_n_areBlasts gi gl gr)) := by
        intro m10
        induction m10 using Nat.strongRecOn with
        | _ m10 ih10 =>
        intro y10_1 l10_1 u10_1 j10_0 hm10
        refine ev_loc f_X12_areBlasts (nx := 30) rfl rfl rfl rfl ?_
        refine ev_loc f_X12_areBlasts (nx := 31) rfl rfl rfl rfl ?_
        refine ev_gvI f_X12_areBlasts (nx := 34) (w := (gi 69 14)) rfl (hI.wf.s rfl) rfl rfl rfl rfl ?_
        refine ev_if f_X12_areBlasts (t1 := 65) (t2 := 37) rfl rfl rfl (fun h11 => ?_) (fun h11 => ?_)
        · have r12 : (gi 69 14).toInt ≤ y10_1.toInt := Int32.le_iff_toInt_le.mp h11
          refine ev_ic f_X12_areBlasts (nx := 66) (v := 1) rfl (by decide) rfl ?_
          exact ev_ret f_X12_areBlasts rfl rfl rfl ⟨_, _, _, rfl, hI, hX, ⟨_, rfl, (Int.le_trans (by decide : (0:Int) ≤ 1) (by decide : (1:Int) ≤ (1:Int32).toInt)), (by decide : (1:Int32).toInt ≤ (1:Int)), (show (∀ (b : Nat → Int32) (n q : Nat), t_TM b n q gi → ((1 : Int) = 1 ↔ s_isB b n q)) ∧ ((1 : Int) = 1 → (gi 69 14).toInt - (gi 69 13).toInt ≤ 6) from ⟨(fun b n q h => ⟨fun _ => h.isB2 (j10_0 b n q h) (by omega), fun _ => rfl⟩), fun hh => by omega⟩)⟩⟩
        · have r13 : y10_1.toInt < (gi 69 14).toInt := Int32.lt_iff_toInt_lt.mp (t_nle h11)
          have u14 : y10_1.toInt ≤ 899 := t_ltu (t_nle h11) u2 rfl
          have l15 : 1 ≤ (gi 69 14).toInt := t_ltl (t_nle h11) l10_1 rfl
          refine ev_loc f_X12_areBlasts (nx := 38) rfl rfl rfl rfl ?_
          refine ev_loc f_X12_areBlasts (nx := 39) rfl rfl rfl rfl ?_
          refine ev_qI0 f_X12_areBlasts (nx := 42) (r := []) rfl rfl rfl rfl rfl rfl rfl (c_n_byteAt hI (y10_1) l10_1) rfl (fun w16 l16 u16 q16 => ?_)
          have q16 : (∀ (b : Nat → Int32) (n : Nat), t_Tx b n gi → w16.toInt = s_at b n y10_1.toNatClampNeg) ∧ (w16.toInt ≠ -1 → y10_1.toInt < (gi 69 11).toInt) ∧ (w16.toInt = -1 → (gi 69 11).toInt ≤ y10_1.toInt) := q16
          refine ev_bp f_X12_areBlasts (nx := 44) (v := 108) rfl (by decide) rfl ?_
          refine ev_if f_X12_areBlasts (t1 := 59) (t2 := 47) rfl rfl rfl (fun h17 => ?_) (fun h17 => ?_)
          · have u18 : w16.toInt ≤ 108 := t_equ h17 (by decide : (108:Int32).toInt ≤ (108:Int))
            have l19 : 108 ≤ w16.toInt := t_eql h17 (by decide : (108:Int) ≤ (108:Int32).toInt)
            refine ev_incR f_X12_areBlasts (nx := 62) (c := 1) (l := 1) (u := 900) rfl rfl (by decide) (by decide) l10_1 u14 rfl rfl (by decide) (by decide) rfl (fun z20 e20 l20 u20 => ?_)
            refine ev_jmp f_X12_areBlasts (nx := 29) rfl rfl rfl ?_
            refine ev_sub (lo := [(1, .int z20), (0, .ref 69)]) rfl (t_sc rfl (t_sc rfl t_sn)) ?_
            exact ih10 _ (by omega) (z20) (Int.le_trans (by decide : (0:Int) ≤ 1) l20) u20 (fun b n q h => h.isB1 (j10_0 b n q h) (q16.1 b n h.1.1) (by omega) (by omega)) rfl
          · have r21 : w16.toInt ≠ 108 := fun e => h17 (Int32.toInt_inj.mp (e.trans (by decide : (108:Int) = (108 : Int32).toInt)))
            refine ev_loc f_X12_areBlasts (nx := 48) rfl rfl rfl rfl ?_
            refine ev_loc f_X12_areBlasts (nx := 49) rfl rfl rfl rfl ?_
            refine ev_qI0 f_X12_areBlasts (nx := 52) (r := []) rfl rfl rfl rfl rfl rfl rfl (c_n_byteAt hI (y10_1) l10_1) rfl (fun w22 l22 u22 q22 => ?_)
            have q22 : (∀ (b : Nat → Int32) (n : Nat), t_Tx b n gi → w22.toInt = s_at b n y10_1.toNatClampNeg) ∧ (w22.toInt ≠ -1 → y10_1.toInt < (gi 69 11).toInt) ∧ (w22.toInt = -1 → (gi 69 11).toInt ≤ y10_1.toInt) := q22
            refine ev_bp f_X12_areBlasts (nx := 54) (v := 115) rfl (by decide) rfl ?_
            refine ev_if f_X12_areBlasts (t1 := 59) (t2 := 57) rfl rfl rfl (fun h23 => ?_) (fun h23 => ?_)
            · have u24 : w22.toInt ≤ 115 := t_equ h23 (by decide : (115:Int32).toInt ≤ (115:Int))
              have l25 : 115 ≤ w22.toInt := t_eql h23 (by decide : (115:Int) ≤ (115:Int32).toInt)
              refine ev_incR f_X12_areBlasts (nx := 62) (c := 1) (l := 1) (u := 900) rfl rfl (by decide) (by decide) l10_1 u14 rfl rfl (by decide) (by decide) rfl (fun z26 e26 l26 u26 => ?_)
              refine ev_jmp f_X12_areBlasts (nx := 29) rfl rfl rfl ?_
              refine ev_sub (lo := [(1, .int z26), (0, .ref 69)]) rfl (t_sc rfl (t_sc rfl t_sn)) ?_
              exact ih10 _ (by omega) (z26) (Int.le_trans (by decide : (0:Int) ≤ 1) l26) u26 (fun b n q h => h.isB1 (j10_0 b n q h) (q22.1 b n h.1.1) (by omega) (by omega)) rfl
            · have r27 : w22.toInt ≠ 115 := fun e => h23 (Int32.toInt_inj.mp (e.trans (by decide : (115:Int) = (115 : Int32).toInt)))
              refine ev_ic f_X12_areBlasts (nx := 58) (v := 0) rfl (by decide) rfl ?_
              exact ev_ret f_X12_areBlasts rfl rfl rfl ⟨_, _, _, rfl, hI, hX, ⟨_, rfl, (by decide : (0:Int) ≤ (0:Int32).toInt), (Int.le_trans (by decide : (0:Int32).toInt ≤ (0:Int)) (by decide : (0:Int) ≤ 1)), (show (∀ (b : Nat → Int32) (n q : Nat), t_TM b n q gi → ((0 : Int) = 1 ↔ s_isB b n q)) ∧ ((0 : Int) = 1 → (gi 69 14).toInt - (gi 69 13).toInt ≤ 6) from ⟨(fun b n q h => ⟨fun hh => absurd hh (by decide), fun hh => h.isB4 (j10_0 b n q h) hh (by omega) (q16.1 b n h.1.1) (q22.1 b n h.1.1) (by omega) (by omega)⟩), fun hh => absurd hh (by decide)⟩)⟩⟩
      refine ev_sub (lo := [(1, .int (gi 69 13)), (0, .ref 69)]) rfl (t_sc rfl (t_sc rfl t_sn)) ?_
      exact L10 _ ((gi 69 13)) l1 u1 (fun b n q h => h.isB0 (by omega) (by omega)) rfl
    · have l28 : 7 ≤ z7.toInt := t_ltl (t_nle h8) (by decide : (6:Int) ≤ (6:Int32).toInt) rfl
      have u29 : (gi 69 13).toInt ≤ 893 := by have := u2; omega
      refine ev_ic f_X12_areBlasts (nx := 23) (v := 0) rfl (by decide) rfl ?_
      exact ev_ret f_X12_areBlasts rfl rfl rfl ⟨_, _, _, rfl, hI, hX, ⟨_, rfl, (by decide : (0:Int) ≤ (0:Int32).toInt), (Int.le_trans (by decide : (0:Int32).toInt ≤ (0:Int)) (by decide : (0:Int) ≤ 1)), (show (∀ (b : Nat → Int32) (n q : Nat), t_TM b n q gi → ((0 : Int) = 1 ↔ s_isB b n q)) ∧ ((0 : Int) = 1 → (gi 69 14).toInt - (gi 69 13).toInt ≤ 6) from ⟨(fun b n q h => ⟨fun hh => absurd hh (by decide), fun hh => h.isB3 hh (by omega)⟩), fun hh => absurd hh (by decide)⟩)⟩⟩
  · have r30 : (gi 69 12).toInt ≠ 2 := fun e => h4 (Int32.toInt_inj.mp (e.trans (by decide : (2:Int) = (2 : Int32).toInt)))
    refine ev_ic f_X12_areBlasts (nx := 23) (v := 0) rfl (by decide) rfl ?_
    exact ev_ret f_X12_areBlasts rfl rfl rfl ⟨_, _, _, rfl, hI, hX, ⟨_, rfl, (by decide : (0:Int) ≤ (0:Int32).toInt), (Int.le_trans (by decide : (0:Int32).toInt ≤ (0:Int)) (by decide : (0:Int) ≤ 1)), (show (∀ (b : Nat → Int32) (n q : Nat), t_TM b n q gi → ((0 : Int) = 1 ↔ s_isB b n q)) ∧ ((0 : Int) = 1 → (gi 69 14).toInt - (gi 69 13).toInt ≤ 6) from ⟨(fun b n q h => ⟨fun hh => absurd hh (by decide), fun hh => h.isB3 hh (by omega)⟩), fun hh => absurd hh (by decide)⟩)⟩⟩
noncomputable def wl_n_wantSign : List (Nat × Nat) := [(69, 12), (69, 13), (69, 14), (69, 15), (69, 17), (69, 18)]
noncomputable def Q_n_wantSign (gi : Nat → Nat → Int32) (gl : Nat → Nat → Int64) (gr : Nat → Nat → Value) (ar1 : Int32) : Int32 → (Nat → Nat → Int32) → (Nat → Nat → Int64) → (Nat → Nat → Value) → Prop := fun (v : Int32) (gi2 : Nat → Nat → Int32) (gl2 : Nat → Nat → Int64) (gr2 : Nat → Nat → Value) => ∀ (b : Nat → Int32) (n q : Nat), t_TM b n q gi → (v.toInt = 1 ∧ s_isS b n q ar1.toInt ∧ t_TM b n (s_E b n q) gi2 ∧ t_mf gi gi2) ∨ (v.toInt = 0 ∧ ¬ s_isS b n q ar1.toInt ∧ ((gi 69 18).toInt = 0 → t_MF gi2 (s_fk b n q 2) (s_F b n q)))
theorem c_n_wantSign {X : x_Ext} {d : Nat} {sh : List (Nat ⊕ (Nat × Nat))} {gi : Nat → Nat → Int32} {gl : Nat → Nat → Int64} {gr : Nat → Nat → Value} (hI : t_I sh gi gr) (ar1 : Int32) : x_Me X (d + 3) n_X12_wantSign [.ref 69, .int ar1] (sh, gi, gl, gr) (t_PI wl_n_wantSign sh gi gl gr 0 1 (Q_n_wantSign gi gl gr ar1)) := by
  have hX : t_X wl_n_wantSign sh gi gl gr gi gl gr := t_X.rf
  refine me_i f_X12_wantSign (hI.wf.s rfl) rfl rfl rfl ?_
  refine ev_loc f_X12_wantSign (nx := 1) rfl rfl rfl rfl ?_
  refine ev_loc f_X12_wantSign (nx := 2) rfl rfl rfl rfl ?_
  refine ev_qI0 f_X12_wantSign (nx := 5) (r := []) rfl rfl rfl rfl rfl rfl rfl (c_n_isSign hI (ar1)) rfl (fun w2 l2 u2 q2 => ?_)
  have q2 : ∀ (b : Nat → Int32) (n q : Nat), t_TM b n q gi → (w2.toInt = 1 ↔ s_isS b n q ar1.toInt) := q2
  refine ev_if f_X12_wantSign (t1 := 8) (t2 := 14) rfl rfl rfl (fun h3 => ?_) (fun h3 => ?_)
  · have u4 : w2.toInt ≤ 0 := t_equ h3 (by decide : (0:Int32).toInt ≤ (0:Int))
    refine ev_loc f_X12_wantSign (nx := 9) rfl rfl rfl rfl ?_
    refine ev_ic f_X12_wantSign (nx := 10) (v := 2) rfl (by decide) rfl ?_
    refine ev_qI f_X12_wantSign (nx := 13) (r := []) rfl rfl rfl rfl rfl rfl rfl (c_n_fails hI (2) (by decide : (2:Int) ≤ (2:Int32).toInt) (Int.le_trans (by decide : (2:Int32).toInt ≤ (2:Int)) (by decide : (2:Int) ≤ 7))) rfl hX rfl (fun w5 gi5 gl5 gr5 l5 u5 hI hX hC5 q5 => ?_)
    have q5 : (∀ (b : Nat → Int32) (n q : Nat), t_TM b n q gi → (gi 69 18).toInt = 0 → t_MF gi5 (s_fk b n q 2) (s_F b n q)) ∧ w5.toInt = 0 := q5
    exact ev_retZ f_X12_wantSign rfl l5 (Int.le_trans u5 (by decide : (0:Int) ≤ 1)) ⟨_, _, _, rfl, hI, hX, ⟨_, rfl, l5, (Int.le_trans u5 (by decide : (0:Int) ≤ 1)), (show ∀ (b : Nat → Int32) (n q : Nat), t_TM b n q gi → (w5.toInt = 1 ∧ s_isS b n q ar1.toInt ∧ t_TM b n (s_E b n q) gi5 ∧ t_mf gi gi5) ∨ (w5.toInt = 0 ∧ ¬ s_isS b n q ar1.toInt ∧ ((gi 69 18).toInt = 0 → t_MF gi5 (s_fk b n q 2) (s_F b n q))) from (fun b n q h => Or.inr ⟨q5.2, (fun hh => absurd ((q2 b n q h).mpr hh) (by omega)), fun h0 => q5.1 b n q h h0⟩))⟩⟩
  · have r7 : w2.toInt ≠ 0 := fun e => h3 (Int32.toInt_inj.mp (e.trans (by decide : (0:Int) = (0 : Int32).toInt)))
    have l8 : 1 ≤ w2.toInt := t_nel h3 l2 rfl rfl
    refine ev_loc f_X12_wantSign (nx := 15) rfl rfl rfl rfl ?_
    refine ev_qN f_X12_wantSign (nx := 18) (r := []) rfl rfl rfl rfl rfl rfl rfl (c_n_ahead hI ) rfl hX rfl (fun gi9 gl9 gr9 hI hX hC9 q9 => ?_)
    have q9 : ∀ (b : Nat → Int32) (n q : Nat), t_Sm b n q gi → t_TM b n q gi9 := q9
    refine ev_ic f_X12_wantSign (nx := 19) (v := 1) rfl (by decide) rfl ?_
    exact ev_ret f_X12_wantSign rfl rfl rfl ⟨_, _, _, rfl, hI, hX, ⟨_, rfl, (Int.le_trans (by decide : (0:Int) ≤ 1) (by decide : (1:Int) ≤ (1:Int32).toInt)), (by decide : (1:Int32).toInt ≤ (1:Int)), (show ∀ (b : Nat → Int32) (n q : Nat), t_TM b n q gi → ((1 : Int) = 1 ∧ s_isS b n q ar1.toInt ∧ t_TM b n (s_E b n q) gi9 ∧ t_mf gi gi9) ∨ ((1 : Int) = 0 ∧ ¬ s_isS b n q ar1.toInt ∧ ((gi 69 18).toInt = 0 → t_MF gi9 (s_fk b n q 2) (s_F b n q))) from (fun b n q h => Or.inl ⟨rfl, (q2 b n q h).mp (by omega), q9 b n _ h.S, ⟨(hC9.1 69 18 rfl).1, (hC9.1 69 17 rfl).1⟩⟩))⟩⟩
noncomputable def wl_n_wantWord : List (Nat × Nat) := [(69, 12), (69, 13), (69, 14), (69, 15), (69, 17), (69, 18)]
noncomputable def Q_n_wantWord (gi : Nat → Nat → Int32) (gl : Nat → Nat → Int64) (gr : Nat → Nat → Value) (ar2 : Int32) : Int32 → (Nat → Nat → Int32) → (Nat → Nat → Int64) → (Nat → Nat → Value) → Prop := fun (v : Int32) (gi2 : Nat → Nat → Int32) (gl2 : Nat → Nat → Int64) (gr2 : Nat → Nat → Value) => ∀ (b : Nat → Int32) (n q : Nat), t_TM b n q gi → (v.toInt = 1 ∧ s_mi (s_W b n q) = ar2.toInt ∧ t_TM b n (s_E b n q) gi2 ∧ t_mf gi gi2) ∨ (v.toInt = 0 ∧ ¬ s_mi (s_W b n q) = ar2.toInt ∧ ((gi 69 18).toInt = 0 → t_MF gi2 (s_fk b n q 2) (s_F b n q)))
theorem c_n_wantWord {X : x_Ext} {d : Nat} {sh : List (Nat ⊕ (Nat × Nat))} {gi : Nat → Nat → Int32} {gl : Nat → Nat → Int64} {gr : Nat → Nat → Value} (hI : t_I sh gi gr) (ar2 : Int32) : x_Me X (d + 6) n_X12_wantWord [.ref 69, .retAddr 28, .int ar2] (sh, gi, gl, gr) (t_PI wl_n_wantWord sh gi gl gr 0 1 (Q_n_wantWord gi gl gr ar2)) := by
  have hX : t_X wl_n_wantWord sh gi gl gr gi gl gr := t_X.rf
  refine me_i f_X12_wantWord (hI.wf.s rfl) rfl rfl rfl ?_
  refine ev_loc f_X12_wantWord (nx := 1) rfl rfl rfl rfl ?_
  refine ev_loc f_X12_wantWord (nx := 2) rfl rfl rfl rfl ?_
  refine ev_qI0 f_X12_wantWord (nx := 5) (r := []) rfl rfl rfl rfl rfl rfl rfl (c_n_inWords hI ) rfl (fun w2 l2 u2 q2 => ?_)
  have q2 : (∀ (b : Nat → Int32) (n q : Nat), t_TM b n q gi → w2.toInt = s_mi (s_W b n q)) ∧ (0 ≤ w2.toInt → (gi 69 12).toInt = 2) := q2
  refine ev_loc f_X12_wantWord (nx := 6) rfl rfl rfl rfl ?_
  refine ev_if f_X12_wantWord (t1 := 15) (t2 := 9) rfl rfl rfl (fun h3 => ?_) (fun h3 => ?_)
  · have r4 : w2.toInt = ar2.toInt := t_eqi h3
    have u5 : ar2.toInt ≤ 137 := t_equ (Eq.symm h3) u2
    have l6 : (-1) ≤ ar2.toInt := t_eql (Eq.symm h3) l2
    refine ev_loc f_X12_wantWord (nx := 16) rfl rfl rfl rfl ?_
    refine ev_qN f_X12_wantWord (nx := 19) (r := []) rfl rfl rfl rfl rfl rfl rfl (c_n_ahead hI ) rfl hX rfl (fun gi7 gl7 gr7 hI hX hC7 q7 => ?_)
    have q7 : ∀ (b : Nat → Int32) (n q : Nat), t_Sm b n q gi → t_TM b n q gi7 := q7
    refine ev_ic f_X12_wantWord (nx := 20) (v := 1) rfl (by decide) rfl ?_
    exact ev_ret f_X12_wantWord rfl rfl rfl ⟨_, _, _, rfl, hI, hX, ⟨_, rfl, (Int.le_trans (by decide : (0:Int) ≤ 1) (by decide : (1:Int) ≤ (1:Int32).toInt)), (by decide : (1:Int32).toInt ≤ (1:Int)), (show ∀ (b : Nat → Int32) (n q : Nat), t_TM b n q gi → ((1 : Int) = 1 ∧ s_mi (s_W b n q) = ar2.toInt ∧ t_TM b n (s_E b n q) gi7 ∧ t_mf gi gi7) ∨ ((1 : Int) = 0 ∧ ¬ s_mi (s_W b n q) = ar2.toInt ∧ ((gi 69 18).toInt = 0 → t_MF gi7 (s_fk b n q 2) (s_F b n q))) from (fun b n q h => Or.inl ⟨rfl, by rw [← q2.1 b n q h]; omega, q7 b n _ h.S, ⟨(hC7.1 69 18 rfl).1, (hC7.1 69 17 rfl).1⟩⟩))⟩⟩
  · have r8 : w2.toInt ≠ ar2.toInt := t_nei h3
    refine ev_loc f_X12_wantWord (nx := 10) rfl rfl rfl rfl ?_
    refine ev_ic f_X12_wantWord (nx := 11) (v := 2) rfl (by decide) rfl ?_
    refine ev_qI f_X12_wantWord (nx := 14) (r := []) rfl rfl rfl rfl rfl rfl rfl (c_n_fails hI (2) (by decide : (2:Int) ≤ (2:Int32).toInt) (Int.le_trans (by decide : (2:Int32).toInt ≤ (2:Int)) (by decide : (2:Int) ≤ 7))) rfl hX rfl (fun w9 gi9 gl9 gr9 l9 u9 hI hX hC9 q9 => ?_)
    have q9 : (∀ (b : Nat → Int32) (n q : Nat), t_TM b n q gi → (gi 69 18).toInt = 0 → t_MF gi9 (s_fk b n q 2) (s_F b n q)) ∧ w9.toInt = 0 := q9
    exact ev_retZ f_X12_wantWord rfl l9 (Int.le_trans u9 (by decide : (0:Int) ≤ 1)) ⟨_, _, _, rfl, hI, hX, ⟨_, rfl, l9, (Int.le_trans u9 (by decide : (0:Int) ≤ 1)), (show ∀ (b : Nat → Int32) (n q : Nat), t_TM b n q gi → (w9.toInt = 1 ∧ s_mi (s_W b n q) = ar2.toInt ∧ t_TM b n (s_E b n q) gi9 ∧ t_mf gi gi9) ∨ (w9.toInt = 0 ∧ ¬ s_mi (s_W b n q) = ar2.toInt ∧ ((gi 69 18).toInt = 0 → t_MF gi9 (s_fk b n q 2) (s_F b n q))) from (fun b n q h => Or.inr ⟨q9.2, by rw [← q2.1 b n q h]; omega, fun h0 => q9.1 b n q h h0⟩))⟩⟩
noncomputable def wl_n_nameHere : List (Nat × Nat) := []
noncomputable def Q_n_nameHere (gi : Nat → Nat → Int32) (gl : Nat → Nat → Int64) (gr : Nat → Nat → Value) : Int64 → (Nat → Nat → Int32) → (Nat → Nat → Int64) → (Nat → Nat → Value) → Prop := fun (v : Int64) (gi2 : Nat → Nat → Int32) (gl2 : Nat → Nat → Int64) (gr2 : Nat → Nat → Value) => ∀ (b : Nat → Int32) (n q : Nat), t_TM b n q gi → s_K b n q = 2 → v = s_m8 b (s_F b n q) (s_E b n q - s_F b n q)
theorem c_n_nameHere {X : x_Ext} {d : Nat} {sh : List (Nat ⊕ (Nat × Nat))} {gi : Nat → Nat → Int32} {gl : Nat → Nat → Int64} {gr : Nat → Nat → Value} (hI : t_I sh gi gr) : x_Me X (d + 2) n_X12_nameHere [.ref 69] (sh, gi, gl, gr) (t_PL wl_n_nameHere sh gi gl gr (Q_n_nameHere gi gl gr)) := by
  have hX : t_X wl_n_nameHere sh gi gl gr gi gl gr := t_X.rf
  refine me_i f_X12_nameHere (hI.wf.s rfl) rfl rfl rfl ?_
  refine ev_lc f_X12_nameHere (nx := 1) (v := 0) rfl (by decide) rfl ?_
  refine ev_loc f_X12_nameHere (nx := 2) (lo' := [(1, .long 0), (0, .ref 69)]) rfl rfl rfl rfl ?_
  refine ev_loc f_X12_nameHere (nx := 3) rfl rfl rfl rfl ?_
  refine ev_getI f_X12_nameHere (nx := 6) rfl (hI.wf.s rfl) rfl rfl rfl ?_
  obtain ⟨l1, u1⟩ := hI.b (hI.wf.s (k := 69) rfl) (t_bdK rfl : t_bd 11 13 = some (0, 900))
  refine ev_loc f_X12_nameHere (nx := 7) (lo' := [(3, .int (gi 69 13)), (1, .long 0), (0, .ref 69)]) rfl rfl rfl rfl ?_
  have L2 : ∀ (m2 : Nat) (y2_3 : Int32) (y2_1 : Int64), 0 ≤ y2_3.toInt → y2_3.toInt ≤ 900 → (∀ (b : Nat → Int32) (n q : Nat), t_TM b n q gi → s_K b n q = 2 → t_NH b n q y2_1 y2_3) → (900 - y2_3.toInt).toNat = m2 → x_Ev X (d + 2) n_X12_nameHere 7 [(3, .int y2_3), (1, .long y2_1), (0, .ref 69)] [] (sh, gi, gl, gr) (t_PL wl_n_nameHere sh gi gl gr (Q_n_nameHere gi gl gr)) := by
    intro m2
    induction m2 using Nat.strongRecOn with
    | _ m2 ih2 =>
    intro y2_3 y2_1 l2_3 u2_3 j2_0 hm2
    refine ev_loc f_X12_nameHere (nx := 8) rfl rfl rfl rfl ?_
    refine ev_loc f_X12_nameHere (nx := 9) rfl rfl rfl rfl ?_
    refine ev_getI f_X12_nameHere (nx := 12) rfl (hI.wf.s rfl) rfl rfl rfl ?_
    obtain ⟨l3, u3⟩ := hI.b (hI.wf.s (k := 69) rfl) (t_bdK rfl : t_bd 11 14 = some (0, 900))
    refine ev_if f_X12_nameHere (t1 := 33) (t2 := 15) rfl rfl rfl (fun h4 => ?_) (fun h4 => ?_)
    · have r5 : (gi 69 14).toInt ≤ y2_3.toInt := Int32.le_iff_toInt_le.mp h4
      refine ev_loc f_X12_nameHere (nx := 34) rfl rfl rfl rfl ?_
      exact ev_ret f_X12_nameHere rfl rfl rfl ⟨_, _, _, rfl, hI, hX, ⟨_, rfl, (show ∀ (b : Nat → Int32) (n q : Nat), t_TM b n q gi → s_K b n q = 2 → y2_1 = s_m8 b (s_F b n q) (s_E b n q - s_F b n q) from (fun b n q h hK => t_NH_e h (j2_0 b n q h hK) (by omega)))⟩⟩
    · have r6 : y2_3.toInt < (gi 69 14).toInt := Int32.lt_iff_toInt_lt.mp (t_nle h4)
      have u7 : y2_3.toInt ≤ 899 := t_ltu (t_nle h4) u3 rfl
      have l8 : 1 ≤ (gi 69 14).toInt := t_ltl (t_nle h4) l2_3 rfl
      refine ev_loc f_X12_nameHere (nx := 16) rfl rfl rfl rfl ?_
      refine ev_bp f_X12_nameHere (nx := 18) (v := 8) rfl (by decide) rfl ?_
      refine ev_anyLE f_X12_nameHere (nx := 19) rfl rfl rfl rfl (fun z9 e9 => ?_)
      refine ev_loc f_X12_nameHere (nx := 20) rfl rfl rfl rfl ?_
      refine ev_loc f_X12_nameHere (nx := 21) rfl rfl rfl rfl ?_
      refine ev_qI0 f_X12_nameHere (nx := 24) (r := [.long z9]) rfl rfl rfl rfl rfl rfl rfl (c_n_byteAt hI (y2_3) l2_3) rfl (fun w10 l10 u10 q10 => ?_)
      have q10 : (∀ (b : Nat → Int32) (n : Nat), t_Tx b n gi → w10.toInt = s_at b n y2_3.toNatClampNeg) ∧ (w10.toInt ≠ -1 → y2_3.toInt < (gi 69 11).toInt) ∧ (w10.toInt = -1 → (gi 69 11).toInt ≤ y2_3.toInt) := q10
      refine ev_anyLE f_X12_nameHere (nx := 25) rfl rfl rfl rfl (fun z11 e11 => ?_)
      have i11 : z11.toInt = w10.toInt := by rw [e11]; exact Int32.toInt_toInt64 _
      refine ev_anyLE f_X12_nameHere (nx := 26) rfl rfl rfl rfl (fun z12 e12 => ?_)
      refine ev_loc f_X12_nameHere (nx := 27) (lo' := [(1, .long z12), (3, .int y2_3), (0, .ref 69)]) rfl rfl rfl rfl ?_
      refine ev_incR f_X12_nameHere (nx := 30) (c := 1) (l := 1) (u := 900) rfl rfl (by decide) (by decide) l2_3 u7 rfl rfl (by decide) (by decide) rfl (fun z13 e13 l13 u13 => ?_)
      refine ev_jmp f_X12_nameHere (nx := 7) rfl rfl rfl ?_
      refine ev_sub (lo := [(3, .int z13), (1, .long z12), (0, .ref 69)]) rfl (t_sc rfl (t_sc rfl (t_sc rfl t_sn))) ?_
      exact ih2 _ (by omega) (z13) (z12) (Int.le_trans (by decide : (0:Int) ≤ 1) l13) u13 (fun b n q h hK => t_NH_s h hK (j2_0 b n q h hK) (by omega) (q10.1 b n h.1.1) e9 e11 e12 (by omega)) rfl
  refine ev_sub (lo := [(3, .int (gi 69 13)), (1, .long 0), (0, .ref 69)]) rfl (t_sc rfl (t_sc rfl (t_sc rfl t_sn))) ?_
  exact L2 _ ((gi 69 13)) (0) l1 u1 (fun b n q h hK => t_NH_0 h) rfl
noncomputable def wl_n_findHere : List (Nat × Nat) := []
noncomputable def Q_n_findHere (gi : Nat → Nat → Int32) (gl : Nat → Nat → Int64) (gr : Nat → Nat → Value) (ar1 : Int32) (ar2 : Int32) : Int32 → (Nat → Nat → Int32) → (Nat → Nat → Int64) → (Nat → Nat → Value) → Prop := fun (v : Int32) (gi2 : Nat → Nat → Int32) (gl2 : Nat → Nat → Int64) (gr2 : Nat → Nat → Value) => (∀ (b : Nat → Int32) (n q : Nat) (f : Nat → Int) (x : Int), t_TM b n q gi → s_isN b n q → (∀ i : Nat, i < ar2.toNatClampNeg → (gl 71 (ar1.toNatClampNeg + i) = s_m8 b (s_F b n q) (s_E b n q - s_F b n q) ↔ f i = x)) → v.toInt = s_fst f x ar2.toNatClampNeg 0) ∧ (v.toInt = -1 ∨ v.toInt < ar2.toInt)
theorem c_n_findHere {X : x_Ext} {d : Nat} {sh : List (Nat ⊕ (Nat × Nat))} {gi : Nat → Nat → Int32} {gl : Nat → Nat → Int64} {gr : Nat → Nat → Value} (hI : t_I sh gi gr) (ar1 : Int32) (l_a1 : 72 ≤ ar1.toInt) (u_a1 : ar1.toInt ≤ 84) (ar2 : Int32) (l_a2 : 0 ≤ ar2.toInt) (u_a2 : ar2.toInt ≤ 6) : x_Me X (d + 3) n_X12_findHere [.ref 69, .int ar1, .int ar2] (sh, gi, gl, gr) (t_PI wl_n_findHere sh gi gl gr (-1) 5 (Q_n_findHere gi gl gr ar1 ar2)) := by
  have hX : t_X wl_n_findHere sh gi gl gr gi gl gr := t_X.rf
  refine me_i f_X12_findHere (hI.wf.s rfl) rfl rfl rfl ?_
  refine ev_ic f_X12_findHere (nx := 1) (v := 0) rfl (by decide) rfl ?_
  refine ev_loc f_X12_findHere (nx := 2) (lo' := [(3, .int 0), (0, .ref 69), (1, .int ar1), (2, .int ar2)]) rfl rfl rfl rfl ?_
  have L1 : ∀ (m1 : Nat) (y1_3 : Int32), 0 ≤ y1_3.toInt → y1_3.toInt ≤ 6 → (∀ (b : Nat → Int32) (n q : Nat) (f : Nat → Int) (x : Int), t_TM b n q gi → s_isN b n q → (∀ i : Nat, i < ar2.toNatClampNeg → (gl 71 (ar1.toNatClampNeg + i) = s_m8 b (s_F b n q) (s_E b n q - s_F b n q) ↔ f i = x)) → s_fst f x ar2.toNatClampNeg 0 = s_fst f x (ar2.toNatClampNeg - y1_3.toNatClampNeg) y1_3.toNatClampNeg) → (6 - y1_3.toInt).toNat = m1 → x_Ev X (d + 3) n_X12_findHere 2 [(3, .int y1_3), (0, .ref 69), (1, .int ar1), (2, .int ar2)] [] (sh, gi, gl, gr) (t_PI wl_n_findHere sh gi gl gr (-1) 5 (Q_n_findHere gi gl gr ar1 ar2)) := by
    intro m1
    induction m1 using Nat.strongRecOn with
    | _ m1 ih1 =>
    intro y1_3 l1_3 u1_3 j1_0 hm1
    refine ev_loc f_X12_findHere (nx := 3) rfl rfl rfl rfl ?_
    refine ev_loc f_X12_findHere (nx := 4) rfl rfl rfl rfl ?_
    refine ev_if f_X12_findHere (t1 := 31) (t2 := 7) rfl rfl rfl (fun h2 => ?_) (fun h2 => ?_)
    · have r3 : ar2.toInt ≤ y1_3.toInt := Int32.le_iff_toInt_le.mp h2
      refine ev_ic f_X12_findHere (nx := 32) (v := -1) rfl (by decide) rfl ?_
      exact ev_ret f_X12_findHere rfl rfl rfl ⟨_, _, _, rfl, hI, hX, ⟨_, rfl, (by decide : ((-1):Int) ≤ ((-1):Int32).toInt), (Int.le_trans (by decide : ((-1):Int32).toInt ≤ ((-1):Int)) (by decide : ((-1):Int) ≤ 5)), (show (∀ (b : Nat → Int32) (n q : Nat) (f : Nat → Int) (x : Int), t_TM b n q gi → s_isN b n q → (∀ i : Nat, i < ar2.toNatClampNeg → (gl 71 (ar1.toNatClampNeg + i) = s_m8 b (s_F b n q) (s_E b n q - s_F b n q) ↔ f i = x)) → ((-1) : Int) = s_fst f x ar2.toNatClampNeg 0) ∧ (((-1) : Int) = -1 ∨ ((-1) : Int) < ar2.toInt) from ⟨fun b n q f x h hN hf => (by
                                                            have h1 := t_clamp (i := y1_3) (by omega)
                                                            have h3 := t_clamp (i := ar2) (by omega)
                                                            rw [j1_0 b n q f x h hN hf, show ar2.toNatClampNeg - y1_3.toNatClampNeg = 0 from (by omega)]; rfl), by omega⟩)⟩⟩
    · have r4 : y1_3.toInt < ar2.toInt := Int32.lt_iff_toInt_lt.mp (t_nle h2)
      have u5 : y1_3.toInt ≤ 5 := t_ltu (t_nle h2) u_a2 rfl
      have l6 : 1 ≤ ar2.toInt := t_ltl (t_nle h2) l1_3 rfl
      refine ev_loc f_X12_findHere (nx := 8) rfl rfl rfl rfl ?_
      refine ev_getR f_X12_findHere (nx := 11) rfl (hI.wf.s rfl) rfl rfl (hI.wf.r rfl) rfl rfl ?_
      refine ev_loc f_X12_findHere (nx := 12) rfl rfl rfl rfl ?_
      refine ev_loc f_X12_findHere (nx := 13) rfl rfl rfl rfl ?_
      refine ev_addR f_X12_findHere (nx := 14) (l := 72) (u := 89) rfl l_a1 u_a1 l1_3 u5 rfl rfl (by decide) (by decide) rfl (fun z7 e7 l7 u7 => ?_)
      refine ev_laldT f_X12_findHere (nx := 15) rfl (hI.wf.s rfl) l7 (by decide) u7 (by decide) rfl (fun w8 e8 => ?_)
      refine ev_loc f_X12_findHere (nx := 16) rfl rfl rfl rfl ?_
      refine ev_qL0 f_X12_findHere (nx := 19) (r := [.long w8]) rfl rfl rfl rfl rfl rfl rfl (c_n_nameHere hI ) rfl (fun w9 q9 => ?_)
      have q9 : ∀ (b : Nat → Int32) (n q : Nat), t_TM b n q gi → s_K b n q = 2 → w9 = s_m8 b (s_F b n q) (s_E b n q - s_F b n q) := q9
      refine ev_anyIE f_X12_findHere (nx := 20) rfl rfl rfl rfl (fun z10 e10 => ?_)
      refine ev_if f_X12_findHere (t1 := 23) (t2 := 25) rfl rfl rfl (fun h11 => ?_) (fun h11 => ?_)
      · have u12 : z10.toInt ≤ 0 := t_equ h11 (by decide : (0:Int32).toInt ≤ (0:Int))
        have l13 : 0 ≤ z10.toInt := t_eql h11 (by decide : (0:Int) ≤ (0:Int32).toInt)
        refine ev_loc f_X12_findHere (nx := 24) rfl rfl rfl rfl ?_
        exact ev_ret f_X12_findHere rfl rfl rfl ⟨_, _, _, rfl, hI, hX, ⟨_, rfl, (Int.le_trans (by decide : ((-1):Int) ≤ 0) l1_3), u5, (show (∀ (b : Nat → Int32) (n q : Nat) (f : Nat → Int) (x : Int), t_TM b n q gi → s_isN b n q → (∀ i : Nat, i < ar2.toNatClampNeg → (gl 71 (ar1.toNatClampNeg + i) = s_m8 b (s_F b n q) (s_E b n q - s_F b n q) ↔ f i = x)) → y1_3.toInt = s_fst f x ar2.toNatClampNeg 0) ∧ (y1_3.toInt = -1 ∨ y1_3.toInt < ar2.toInt) from ⟨fun b n q f x h hN hf => (by
                                                            have h1 := t_clamp (i := y1_3) (by omega)
                                                            have h3 := t_clamp (i := ar2) (by omega)
                                                            have h4 := t_clamp (i := ar1) (by omega)
                                                            have h5 := t_clamp (i := z7) (by omega)
                                                            rw [j1_0 b n q f x h hN hf, show ar2.toNatClampNeg - y1_3.toNatClampNeg = (ar2.toNatClampNeg - (y1_3.toNatClampNeg + 1)) + 1 from (by omega), s_fst_y ((hf _ (by omega)).mp ?_)]
                                                            · omega
                                                            · rw [show ar1.toNatClampNeg + y1_3.toNatClampNeg = z7.toNatClampNeg from (by omega), ← e8, ← q9 b n q h hN.1]; exact (lg_cmp_eq _ _).mp (e10.symm.trans h11)), by omega⟩)⟩⟩
      · have r14 : z10.toInt ≠ 0 := fun e => h11 (Int32.toInt_inj.mp (e.trans (by decide : (0:Int) = (0 : Int32).toInt)))
        refine ev_incR f_X12_findHere (nx := 28) (c := 1) (l := 1) (u := 6) rfl rfl (by decide) (by decide) l1_3 u5 rfl rfl (by decide) (by decide) rfl (fun z15 e15 l15 u15 => ?_)
        refine ev_jmp f_X12_findHere (nx := 2) rfl rfl rfl ?_
        refine ev_sub (lo := [(3, .int z15), (0, .ref 69), (1, .int ar1), (2, .int ar2)]) rfl (t_sc rfl (t_sc rfl (t_sc rfl (t_sc rfl t_sn)))) ?_
        exact ih1 _ (by omega) (z15) (Int.le_trans (by decide : (0:Int) ≤ 1) l15) u15 (fun b n q f x h hN hf => (by
                                                            have h1 := t_clamp (i := y1_3) (by omega)
                                                            have h2 := t_clamp (i := z15) (by omega)
                                                            have h3 := t_clamp (i := ar2) (by omega)
                                                            have h4 := t_clamp (i := ar1) (by omega)
                                                            have h5 := t_clamp (i := z7) (by omega)
                                                            rw [j1_0 b n q f x h hN hf, show ar2.toNatClampNeg - y1_3.toNatClampNeg = (ar2.toNatClampNeg - z15.toNatClampNeg) + 1 from (by omega), show z15.toNatClampNeg = y1_3.toNatClampNeg + 1 from (by omega)]
                                                            refine s_fst_n (fun hx => h11 (e10.trans ((lg_cmp_eq _ _).mpr ?_)))
                                                            rw [e8, q9 b n q h hN.1, show z7.toNatClampNeg = ar1.toNatClampNeg + y1_3.toNatClampNeg from (by omega)]
                                                            exact (hf _ (by omega)).mpr hx)) rfl
  refine ev_sub (lo := [(3, .int 0), (0, .ref 69), (1, .int ar1), (2, .int ar2)]) rfl (t_sc rfl (t_sc rfl (t_sc rfl (t_sc rfl t_sn)))) ?_
  exact L1 _ (0) (by decide : (0:Int) ≤ (0:Int32).toInt) (Int.le_trans (by decide : (0:Int32).toInt ≤ (0:Int)) (by decide : (0:Int) ≤ 6)) (fun b n q f x h hN hf => rfl) rfl
