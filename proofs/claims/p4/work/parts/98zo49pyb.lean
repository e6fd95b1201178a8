/-! ===== printed by riv.py: a day of the other side, kept ===== -/
noncomputable def wl_y_keeps : List (Nat × Nat) := [(69, 44), (69, 45), (69, 58), (69, 59), (69, 60), (69, 61), (69, 62), (69, 63), (69, 64), (69, 65), (69, 66), (69, 67), (69, 68), (69, 69), (69, 70), (89, 10005), (89, 610011), (90, 9999), (91, 9999), (99, 9999), (100, 9999)]
noncomputable def Q_y_keeps (gi : Nat → Nat → Int32) (gl : Nat → Nat → Int64) (gr : Nat → Nat → Value) (ar1 : Int32) : (Nat → Nat → Int32) → (Nat → Nat → Int64) → (Nat → Nat → Value) → Prop := fun (gi2 : Nat → Nat → Int32) (gl2 : Nat → Nat → Int64) (gr2 : Nat → Nat → Value) => (∀ (D : s_D) (R : List (List Int × Int)), t_ME 0 gi D → t_Cb D → s_DB D → (gi 69 46).toInt = -1 → (-1 ≤ ar1.toInt ∧ ar1.toInt ≤ 9999) → t_MQ (gi 70) R → s_crs R → s_TP gi2 (gi2 70 4).toInt (s_PY D ar1.toInt) ∧ t_YR (s_PY D ar1.toInt) (fun F => s_ac F R) gi2)
theorem c_y_keeps {X : x_Ext} {d : Nat} {sh : List (Nat ⊕ (Nat × Nat))} {gi : Nat → Nat → Int32} {gl : Nat → Nat → Int64} {gr : Nat → Nat → Value} (hI : t_I sh gi gr) (ar1 : Int32) (e_p0 : t_rpn (gi 70) 0) : x_Me X (d + 6) n_X12_keeps [.ref 69, .int ar1] (sh, gi, gl, gr) (t_PN wl_y_keeps sh gi gl gr (Q_y_keeps gi gl gr ar1)) := by
  have hX : t_X wl_y_keeps sh gi gl gr gi gl gr := t_X.rf
  refine me_i f_X12_keeps (hI.wf.s rfl) rfl rfl rfl ?_
  obtain ⟨l3, u3⟩ := hI.b (hI.wf.s (k := 69) rfl) (t_bdK rfl : t_bd 11 59 = some (0, 301))
  obtain ⟨l5, u5⟩ := hI.ab (by decide +kernel : t_abr 70 4 4 0 20 = true) (Nat.le_refl _) (Nat.le_refl _)
  refine ev_loc f_X12_keeps (nx := 1) rfl rfl rfl rfl ?_
  refine ev_qN f_X12_keeps (nx := 4) (r := []) rfl rfl rfl rfl rfl rfl rfl (c_n_tellsMinutes hI ) rfl hX rfl (fun gi6 gl6 gr6 hI hX hC6 q6 => ?_)
  have q6 : (∀ j, gi6 70 j = gi 70 j) ∧ (∀ j : Nat, j < 6 → gi6 89 j = gi 70 (53 + 5 * j)) ∧ (∀ j : Nat, j < 6 → gi6 89 (6 + j) = gi 70 (82 + 3 * j)) := q6
  refine ev_loc f_X12_keeps (nx := 5) rfl rfl rfl rfl ?_
  refine ev_loc f_X12_keeps (nx := 6) rfl rfl rfl rfl ?_
  refine ev_putIT f_X12_keeps (nx := 9) rfl (hI.wf.s rfl) rfl rfl rfl (hI.put0 (hI.wf.s rfl) rfl rfl) (hX.upI rfl) (fun g7 e7 hI hX => ?_)
  refine ev_ic f_X12_keeps (nx := 10) (v := 0) rfl (by decide) rfl ?_
  refine ev_loc f_X12_keeps (nx := 11) (lo' := [(2, .int 0), (0, .ref 69), (1, .int ar1)]) rfl rfl rfl rfl ?_
  have L8 : ∀ (m8 : Nat) (gi8 : Nat → Nat → Int32) (gl8 : Nat → Nat → Int64) (gr8 : Nat → Nat → Value) (y8_2 : Int32), t_I sh gi8 gr8 → t_X wl_y_keeps sh gi gl gr gi8 gl8 gr8 → 0 ≤ y8_2.toInt → y8_2.toInt ≤ 6 → gi8 69 46 = (gi 69 46) → gi8 69 59 = (gi 69 59) → gi8 69 69 = (gi 69 69) → gi8 70 4 = (gi 70 4) → t_rpn (gi8 70) 0 → (∀ (D : s_D) (R : List (List Int × Int)), t_ME 0 gi D → t_Cb D → s_DB D → (gi 69 46).toInt = -1 → (-1 ≤ ar1.toInt ∧ ar1.toInt ≤ 9999) → t_MQ (gi 70) R → s_crs R → (gi8 69 58).toInt = s_drw ar1.toInt y8_2.toNatClampNeg ∧ y8_2.toInt ≤ D 1 ∧ (∀ j : Nat, (j : Int) < D 1 → (gi8 89 j).toInt = s_A D j + (if (j : Int) < y8_2.toInt then s_dl ar1.toInt j else 0)) ∧ ∀ j : Nat, (j : Int) < D 2 → (gi8 89 (6 + j)).toInt = s_B D j) → (6 - y8_2.toInt).toNat = m8 → x_Ev X (d + 6) n_X12_keeps 11 [(2, .int y8_2), (0, .ref 69), (1, .int ar1)] [] (sh, gi8, gl8, gr8) (t_PN wl_y_keeps sh gi gl gr (Q_y_keeps gi gl gr ar1)) := by
    intro m8
    induction m8 using Nat.strongRecOn with
    | _ m8 ih8 =>
    intro gi8 gl8 gr8 y8_2 hI hX l8_2 u8_2 c8_0 c8_1 c8_2 c8_3 j8_0 j8_1 hm8
    refine ev_loc f_X12_keeps (nx := 12) rfl rfl rfl rfl ?_
    have hX11_8 := hX
    refine ev_loc f_X12_keeps (nx := 13) rfl rfl rfl rfl ?_
    refine ev_getR f_X12_keeps (nx := 16) rfl (hI.wf.s rfl) rfl rfl (hI.wf.r rfl) rfl rfl ?_
    refine ev_ic f_X12_keeps (nx := 17) (v := 1) rfl (by decide) rfl ?_
    obtain ⟨l10, u10⟩ := hI.ab (by decide +kernel : t_abr 70 1 1 0 6 = true) (Nat.le_refl _) (Nat.le_refl _)
    refine ev_ialdv f_X12_keeps (nx := 18) (w := (gi8 70 1)) rfl (hI.wf.s rfl) (by decide) (rfl : (1 : Int32).toNatClampNeg = 1) (by decide) rfl rfl ?_
    refine ev_if f_X12_keeps (t1 := 45) (t2 := 21) rfl rfl rfl (fun h11 => ?_) (fun h11 => ?_)
    · have r12 : (gi8 70 1).toInt ≤ y8_2.toInt := Int32.le_iff_toInt_le.mp h11
      refine ev_ic f_X12_keeps (nx := 46) (v := 0) rfl (by decide) rfl ?_
      refine ev_loc f_X12_keeps (nx := 47) (lo' := [(2, .int 0), (0, .ref 69), (1, .int ar1)]) rfl rfl rfl rfl ?_
      have L13 : ∀ (m13 : Nat) (gi13 : Nat → Nat → Int32) (gl13 : Nat → Nat → Int64) (gr13 : Nat → Nat → Value) (y13_2 : Int32), t_I sh gi13 gr13 → t_X wl_y_keeps sh gi gl gr gi13 gl13 gr13 → 0 ≤ y13_2.toInt → y13_2.toInt ≤ 6 → gi13 69 46 = (gi 69 46) → gi13 69 59 = (gi 69 59) → gi13 69 69 = (gi 69 69) → gi13 70 1 = (gi8 70 1) → gi13 70 4 = (gi 70 4) → t_rpn (gi13 70) 0 → (∀ (D : s_D) (R : List (List Int × Int)), t_ME 0 gi D → t_Cb D → s_DB D → (gi 69 46).toInt = -1 → (-1 ≤ ar1.toInt ∧ ar1.toInt ≤ 9999) → t_MQ (gi 70) R → s_crs R → (ar1.toInt = -1 ∨ (gi13 69 58).toInt = s_drw ar1.toInt ((D 1).toNat + y13_2.toNatClampNeg)) ∧ y13_2.toInt ≤ D 2 ∧ (∀ j : Nat, (j : Int) < D 1 → (gi13 89 j).toInt = s_Ay D ar1.toInt j) ∧ ∀ j : Nat, (j : Int) < D 2 → (gi13 89 (6 + j)).toInt = s_B D j + (if (j : Int) < y13_2.toInt then s_dl ar1.toInt ((D 1).toNat + j) else 0)) → (6 - y13_2.toInt).toNat = m13 → x_Ev X (d + 6) n_X12_keeps 47 [(2, .int y13_2), (0, .ref 69), (1, .int ar1)] [] (sh, gi13, gl13, gr13) (t_PN wl_y_keeps sh gi gl gr (Q_y_keeps gi gl gr ar1)) := by
        intro m13
        induction m13 using Nat.strongRecOn with
        | _ m13 ih13 =>
        intro gi13 gl13 gr13 y13_2 hI hX l13_2 u13_2 c13_0 c13_1 c13_2 c13_3 c13_4 j13_0 j13_1 hm13
        refine ev_loc f_X12_keeps (nx := 48) rfl rfl rfl rfl ?_
        have hX47_13 := hX
        refine ev_loc f_X12_keeps (nx := 49) rfl rfl rfl rfl ?_
        refine ev_getR f_X12_keeps (nx := 52) rfl (hI.wf.s rfl) rfl rfl (hI.wf.r rfl) rfl rfl ?_
        refine ev_ic f_X12_keeps (nx := 53) (v := 2) rfl (by decide) rfl ?_
        obtain ⟨l15, u15⟩ := hI.ab (by decide +kernel : t_abr 70 2 2 0 6 = true) (Nat.le_refl _) (Nat.le_refl _)
        refine ev_ialdv f_X12_keeps (nx := 54) (w := (gi13 70 2)) rfl (hI.wf.s rfl) (by decide) (rfl : (2 : Int32).toNatClampNeg = 2) (by decide) rfl rfl ?_
        refine ev_if f_X12_keeps (t1 := 84) (t2 := 57) rfl rfl rfl (fun h16 => ?_) (fun h16 => ?_)
        · have r17 : (gi13 70 2).toInt ≤ y13_2.toInt := Int32.le_iff_toInt_le.mp h16
          refine ev_loc f_X12_keeps (nx := 85) rfl rfl rfl rfl ?_
          refine ev_ic f_X12_keeps (nx := 86) (v := 0) rfl (by decide) rfl ?_
          refine ev_qN f_X12_keeps (nx := 89) (r := []) rfl rfl rfl rfl rfl rfl rfl (c_n_ordersG hI (0)) rfl hX rfl (fun gi18 gl18 gr18 hI hX hC18 q18 => ?_)
          have ff19 : (gi13 69 46).toInt = (gi 69 46).toInt := congrArg Int32.toInt c13_0
          have q18 : (∀ j, gi18 70 j = gi13 70 j) ∧ (∀ j, gi18 89 j = gi13 89 j) ∧ (∀ (D : s_D) (A : Nat → Int), t_ME 0 gi13 D → t_Cb D → (∀ j : Nat, (j : Int) < D 1 → (gi13 89 j).toInt = A j) → (gi18 69 44).toInt = ((s_fn (s_mk (0 : Int32)) (D 1).toNat : Nat) : Int) ∧ s_RF (s_ff A (s_mk (0 : Int32)) (D 1).toNat) (fun k => (k : Int)) (gi18 90) (s_fn (s_mk (0 : Int32)) (D 1).toNat)) ∧ (∀ (D : s_D) (A : Nat → Int), t_ME 0 gi13 D → t_Cb D → (∀ j : Nat, (j : Int) < D 2 → (gi13 89 (6 + j)).toInt = A j) → (gi18 69 45).toInt = ((s_fn (s_ck (gi13 69 46).toInt) (D 2).toNat : Nat) : Int) ∧ s_RF (s_ff A (s_ck (gi13 69 46).toInt) (D 2).toNat) (fun k => (k : Int)) (gi18 91) (s_fn (s_ck (gi13 69 46).toInt) (D 2).toNat)) := q18
          refine ev_ic f_X12_keeps (nx := 90) (v := 0) rfl (by decide) rfl ?_
          refine ev_loc f_X12_keeps (nx := 91) (lo' := [(2, .int 0), (0, .ref 69), (1, .int ar1)]) rfl rfl rfl rfl ?_
          have L20 : ∀ (m20 : Nat) (gi20 : Nat → Nat → Int32) (gl20 : Nat → Nat → Int64) (gr20 : Nat → Nat → Value) (y20_2 : Int32), t_I sh gi20 gr20 → t_X wl_y_keeps sh gi gl gr gi20 gl20 gr20 → 0 ≤ y20_2.toInt → y20_2.toInt ≤ 6 → gi20 69 46 = (gi 69 46) → gi20 69 59 = (gi 69 59) → gi20 69 69 = (gi 69 69) → gi20 70 1 = (gi8 70 1) → gi20 70 2 = (gi13 70 2) → gi20 70 4 = (gi 70 4) → t_rpn (gi20 70) 0 → (∀ (D : s_D) (R : List (List Int × Int)), t_ME 0 gi D → t_Cb D → s_DB D → (gi 69 46).toInt = -1 → (-1 ≤ ar1.toInt ∧ ar1.toInt ≤ 9999) → t_MQ (gi 70) R → s_crs R → s_TP gi20 (gi20 70 4).toInt (s_PY D ar1.toInt) ∧ t_IJ ((s_PY D ar1.toInt) 0 0).toNat gi20 ∧ (∀ k : Nat, k < ((s_PY D ar1.toInt) 0 0).toNat → t_si gi20 k < 6) ∧ ∀ j : Nat, (j : Int) < y20_2.toInt → (gi20 99 j).toInt = 0) → (6 - y20_2.toInt).toNat = m20 → x_Ev X (d + 6) n_X12_keeps 91 [(2, .int y20_2), (0, .ref 69), (1, .int ar1)] [] (sh, gi20, gl20, gr20) (t_PN wl_y_keeps sh gi gl gr (Q_y_keeps gi gl gr ar1)) := by
            intro m20
            induction m20 using Nat.strongRecOn with
            | _ m20 ih20 =>
            intro gi20 gl20 gr20 y20_2 hI hX l20_2 u20_2 c20_0 c20_1 c20_2 c20_3 c20_4 c20_5 j20_0 j20_1 hm20
            refine ev_loc f_X12_keeps (nx := 92) rfl rfl rfl rfl ?_
            have hX91_20 := hX
            refine ev_bp f_X12_keeps (nx := 94) (v := 6) rfl (by decide) rfl ?_
            refine ev_if f_X12_keeps (t1 := 110) (t2 := 97) rfl rfl rfl (fun h22 => ?_) (fun h22 => ?_)
            · have l23 : 6 ≤ y20_2.toInt := t_lel h22 (by decide : (6:Int) ≤ (6:Int32).toInt)
              refine ev_loc f_X12_keeps (nx := 111) rfl rfl rfl rfl ?_
              refine ev_ic f_X12_keeps (nx := 112) (v := 0) rfl (by decide) rfl ?_
              refine ev_putIT f_X12_keeps (nx := 115) rfl (hI.wf.s rfl) rfl rfl rfl (hI.put0 (hI.wf.s rfl) rfl rfl) (hX.upI rfl) (fun g24 e24 hI hX => ?_)
              refine ev_loc f_X12_keeps (nx := 116) rfl rfl rfl rfl ?_
              refine ev_ic f_X12_keeps (nx := 117) (v := -1) rfl (by decide) rfl ?_
              refine ev_putIT f_X12_keeps (nx := 120) rfl (hI.wf.s rfl) rfl rfl rfl (hI.put0 (hI.wf.s rfl) rfl rfl) (hX.upI rfl) (fun g25 e25 hI hX => ?_)
              refine ev_loc f_X12_keeps (nx := 121) rfl rfl rfl rfl ?_
              refine ev_ic f_X12_keeps (nx := 122) (v := -1) rfl (by decide) rfl ?_
              refine ev_putIT f_X12_keeps (nx := 125) rfl (hI.wf.s rfl) rfl rfl rfl (hI.put0 (hI.wf.s rfl) rfl rfl) (hX.upI rfl) (fun g26 e26 hI hX => ?_)
              refine ev_loc f_X12_keeps (nx := 126) rfl rfl rfl rfl ?_
              refine ev_ic f_X12_keeps (nx := 127) (v := 0) rfl (by decide) rfl ?_
              refine ev_putIT f_X12_keeps (nx := 130) rfl (hI.wf.s rfl) rfl rfl rfl (hI.put0 (hI.wf.s rfl) rfl rfl) (hX.upI rfl) (fun g27 e27 hI hX => ?_)
              refine ev_loc f_X12_keeps (nx := 131) rfl rfl rfl rfl ?_
              refine ev_ic f_X12_keeps (nx := 132) (v := 0) rfl (by decide) rfl ?_
              refine ev_putIT f_X12_keeps (nx := 135) rfl (hI.wf.s rfl) rfl rfl rfl (hI.putB (hI.wf.s rfl) rfl rfl (by decide : (0:Int) ≤ (0:Int32).toInt) (by decide) (by decide : (0:Int32).toInt ≤ (0:Int)) (by decide)) (hX.upI rfl) (fun g28 e28 hI hX => ?_)
              refine ev_loc f_X12_keeps (nx := 136) rfl rfl rfl rfl ?_
              refine ev_ic f_X12_keeps (nx := 137) (v := 0) rfl (by decide) rfl ?_
              refine ev_putIT f_X12_keeps (nx := 140) rfl (hI.wf.s rfl) rfl rfl rfl (hI.putB (hI.wf.s rfl) rfl rfl (by decide : (0:Int) ≤ (0:Int32).toInt) (by decide) (by decide : (0:Int32).toInt ≤ (0:Int)) (by decide)) (hX.upI rfl) (fun g29 e29 hI hX => ?_)
              refine ev_loc f_X12_keeps (nx := 141) rfl rfl rfl rfl ?_
              refine ev_ic f_X12_keeps (nx := 142) (v := 0) rfl (by decide) rfl ?_
              refine ev_putIT f_X12_keeps (nx := 145) rfl (hI.wf.s rfl) rfl rfl rfl (hI.put0 (hI.wf.s rfl) rfl rfl) (hX.upI rfl) (fun g30 e30 hI hX => ?_)
              refine ev_loc f_X12_keeps (nx := 146) rfl rfl rfl rfl ?_
              refine ev_ic f_X12_keeps (nx := 147) (v := 0) rfl (by decide) rfl ?_
              refine ev_putIT f_X12_keeps (nx := 150) rfl (hI.wf.s rfl) rfl rfl rfl (hI.put0 (hI.wf.s rfl) rfl rfl) (hX.upI rfl) (fun g31 e31 hI hX => ?_)
              refine ev_loc f_X12_keeps (nx := 151) rfl rfl rfl rfl ?_
              refine ev_ic f_X12_keeps (nx := 152) (v := 0) rfl (by decide) rfl ?_
              refine ev_putIT f_X12_keeps (nx := 155) rfl (hI.wf.s rfl) rfl rfl rfl (hI.put0 (hI.wf.s rfl) rfl rfl) (hX.upI rfl) (fun g32 e32 hI hX => ?_)
              refine ev_loc f_X12_keeps (nx := 156) rfl rfl rfl rfl ?_
              refine ev_ic f_X12_keeps (nx := 157) (v := 0) rfl (by decide) rfl ?_
              refine ev_putIT f_X12_keeps (nx := 160) rfl (hI.wf.s rfl) rfl rfl rfl (hI.put0 (hI.wf.s rfl) rfl rfl) (hX.upI rfl) (fun g33 e33 hI hX => ?_)
              refine ev_loc f_X12_keeps (nx := 161) rfl rfl rfl rfl ?_
              refine ev_ic f_X12_keeps (nx := 162) (v := -1) rfl (by decide) rfl ?_
              refine ev_putIT f_X12_keeps (nx := 165) rfl (hI.wf.s rfl) rfl rfl rfl (hI.put0 (hI.wf.s rfl) rfl rfl) (hX.upI rfl) (fun g34 e34 hI hX => ?_)
              refine ev_loc f_X12_keeps (nx := 166) rfl rfl rfl rfl ?_
              refine ev_ic f_X12_keeps (nx := 167) (v := 0) rfl (by decide) rfl ?_
              refine ev_putIT f_X12_keeps (nx := 170) rfl (hI.wf.s rfl) rfl rfl rfl (hI.putB (hI.wf.s rfl) rfl rfl (by decide : (0:Int) ≤ (0:Int32).toInt) (by decide) (by decide : (0:Int32).toInt ≤ (0:Int)) (by decide)) (hX.upI rfl) (fun g35 e35 hI hX => ?_)
              have L36 : ∀ (m36 : Nat) (gi36 : Nat → Nat → Int32) (gl36 : Nat → Nat → Int64) (gr36 : Nat → Nat → Value), t_I sh gi36 gr36 → t_X wl_y_keeps sh gi gl gr gi36 gl36 gr36 → gi36 69 46 = (gi 69 46) → gi36 70 1 = (gi8 70 1) → gi36 70 2 = (gi13 70 2) → gi36 70 4 = (gi 70 4) → t_rpn (gi36 70) 0 → (∀ (D : s_D) (R : List (List Int × Int)), t_ME 0 gi D → t_Cb D → s_DB D → (gi 69 46).toInt = -1 → (-1 ≤ ar1.toInt ∧ ar1.toInt ≤ 9999) → t_MQ (gi 70) R → s_crs R → s_TP gi36 (gi36 70 4).toInt (s_PY D ar1.toInt) ∧ t_IJ ((s_PY D ar1.toInt) 0 0).toNat gi36 ∧ ((gi36 69 69).toInt = -1 → t_YD (s_PY D ar1.toInt) (fun F => s_ac F R) (gi36 69 59).toInt gi36) ∧ ((gi36 69 69).toInt ≠ -1 → t_YR (s_PY D ar1.toInt) (fun F => s_ac F R) gi36)) → (301 - (gi36 69 59).toInt).toNat = m36 → x_Ev X (d + 6) n_X12_keeps 170 [(2, .int y20_2), (0, .ref 69), (1, .int ar1)] [] (sh, gi36, gl36, gr36) (t_PN wl_y_keeps sh gi gl gr (Q_y_keeps gi gl gr ar1)) := by
                intro m36
                induction m36 using Nat.strongRecOn with
                | _ m36 ih36 =>
                intro gi36 gl36 gr36 hI hX c36_0 c36_1 c36_2 c36_3 j36_0 j36_1 hm36
                obtain ⟨l38, u38⟩ := hI.b (hI.wf.s (k := 69) rfl) (t_bdK rfl : t_bd 11 59 = some (0, 301))
                refine ev_loc f_X12_keeps (nx := 171) rfl rfl rfl rfl ?_
                have hX170_36 := hX
                have hIw36 := hI
                refine ev_gvI f_X12_keeps (nx := 174) (w := (gi36 69 59)) rfl (hI.wf.s rfl) rfl rfl rfl rfl ?_
                refine ev_sp f_X12_keeps (nx := 177) (v := 301) rfl (by decide) rfl ?_
                refine ev_if f_X12_keeps (t1 := 205) (t2 := 180) rfl rfl rfl (fun h40 => ?_) (fun h40 => ?_)
                · have l41 : 301 ≤ (gi36 69 59).toInt := t_lel h40 (by decide : (301:Int) ≤ (301:Int32).toInt)
                  refine ev_loc f_X12_keeps (nx := 206) rfl rfl rfl rfl ?_
                  refine ev_gvI f_X12_keeps (nx := 209) (w := (gi36 69 69)) rfl (hI.wf.s rfl) rfl rfl rfl rfl ?_
                  refine ev_ic f_X12_keeps (nx := 210) (v := -1) rfl (by decide) rfl ?_
                  refine ev_if f_X12_keeps (t1 := 213) (t2 := 220) rfl rfl rfl (fun h42 => ?_) (fun h42 => ?_)
                  · have u43 : (gi36 69 69).toInt ≤ (-1) := t_equ h42 (by decide : ((-1):Int32).toInt ≤ ((-1):Int))
                    have l44 : (-1) ≤ (gi36 69 69).toInt := t_eql h42 (by decide : ((-1):Int) ≤ ((-1):Int32).toInt)
                    refine ev_loc f_X12_keeps (nx := 214) rfl rfl rfl rfl ?_
                    refine ev_sp f_X12_keeps (nx := 217) (v := 301) rfl (by decide) rfl ?_
                    refine ev_putIT f_X12_keeps (nx := 220) rfl (hI.wf.s rfl) rfl rfl rfl (hI.put0 (hI.wf.s rfl) rfl rfl) (hX.upI rfl) (fun g45 e45 hI hX => ?_)
                    refine ev_loc f_X12_keeps (nx := 221) rfl rfl rfl rfl ?_
                    refine ev_qN f_X12_keeps (nx := 224) (r := []) rfl rfl rfl rfl rfl rfl rfl (c_y_passesOver hI ) rfl hX rfl (fun gi46 gl46 gr46 hI hX hC46 q46 => ?_)
                    have q46 : (∀ (n : Nat) (Z : Nat → Int), n = t_S g45 → t_YS n Z g45 → t_YS n Z gi46 ∧ (gi46 69 64).toInt = ((s_f1 Z n 0 : Nat) : Int)) := q46
                    exact ev_ret f_X12_keeps rfl rfl rfl ⟨_, _, _, rfl, hI, hX, ⟨rfl, (show (∀ (D : s_D) (R : List (List Int × Int)), t_ME 0 gi D → t_Cb D → s_DB D → (gi 69 46).toInt = -1 → (-1 ≤ ar1.toInt ∧ ar1.toInt ≤ 9999) → t_MQ (gi 70) R → s_crs R → s_TP gi46 (gi46 70 4).toInt (s_PY D ar1.toInt) ∧ t_YR (s_PY D ar1.toInt) (fun F => s_ac F R) gi46) from (fun D R hm hb hd h46 hsd hQ hcr => (by
                                                            obtain ⟨g1, g2, g3, g4⟩ := j36_1 D R hm hb hd h46 hsd hQ hcr
                                                            have b1 := hb.2.1
                                                            have fc := t_F_X hC46
                                                            have hr := ((g3 (by omega)).out (by omega)).fr (g1 := g45) (by rw [e45, x_up2_off (Or.inr (by decide))]) (by rw [e45, x_up2_off (Or.inr (by decide))]) (by rw [e45, x_up2_off (Or.inr (by decide))]) (by rw [e45, x_up2_off (Or.inr (by decide))]) (funext fun j => by rw [e45, x_up2_off (Or.inl (by decide))]) (funext fun j => by rw [e45, x_up2_off (Or.inl (by decide))])
                                                            have T := g1.eq (g1 := g45) (by rw [e45, x_up2_off (Or.inr (by decide))]) (by rw [e45, x_up2_off (Or.inr (by decide))]) (funext fun j => by rw [e45, x_up2_off (Or.inl (by decide))]) (funext fun j => by rw [e45, x_up2_off (Or.inl (by decide))]) (funext fun j => by rw [e45, x_up2_off (Or.inl (by decide))]) (funext fun j => by rw [e45, x_up2_off (Or.inl (by decide))])
                                                            have E70 : g45 70 = gi36 70 := (funext fun j => by rw [e45, x_up2_off (Or.inl (by decide))])
                                                            obtain ⟨Z, h1, h2, h3, h4⟩ := hr
                                                            have hn : ((s_PY D ar1.toInt) 0 0).toNat = t_S g45 := by have h9 := T.1.1; omega
                                                            have E70c : gi46 70 = gi36 70 := (t_F_nc fc rfl (by decide)).trans E70
                                                            refine ⟨by rw [E70c]; exact T.eq (fc 69 44 (by decide) rfl).1 (fc 69 45 (by decide) rfl).1 (t_F_nc fc rfl (by decide)) (t_F_nc fc rfl (by decide)) (t_F_nc fc rfl (by decide)) (t_F_nc fc rfl (by decide)), Z, (q46 ((s_PY D ar1.toInt) 0 0).toNat Z hn h1).1, ?_, ?_, h4⟩
                                                            · rw [(fc 69 66 (by decide) rfl).1, (fc 69 67 (by decide) rfl).1]; exact h2
                                                            · rw [(fc 69 65 (by decide) rfl).1]; exact h3)))⟩⟩
                  · have r47 : (gi36 69 69).toInt ≠ (-1) := fun e => h42 (Int32.toInt_inj.mp (e.trans (by decide : ((-1):Int) = ((-1) : Int32).toInt)))
                    refine ev_loc f_X12_keeps (nx := 221) rfl rfl rfl rfl ?_
                    refine ev_qN f_X12_keeps (nx := 224) (r := []) rfl rfl rfl rfl rfl rfl rfl (c_y_passesOver hI ) rfl hX rfl (fun gi48 gl48 gr48 hI hX hC48 q48 => ?_)
                    have q48 : (∀ (n : Nat) (Z : Nat → Int), n = t_S gi36 → t_YS n Z gi36 → t_YS n Z gi48 ∧ (gi48 69 64).toInt = ((s_f1 Z n 0 : Nat) : Int)) := q48
                    exact ev_ret f_X12_keeps rfl rfl rfl ⟨_, _, _, rfl, hI, hX, ⟨rfl, (show (∀ (D : s_D) (R : List (List Int × Int)), t_ME 0 gi D → t_Cb D → s_DB D → (gi 69 46).toInt = -1 → (-1 ≤ ar1.toInt ∧ ar1.toInt ≤ 9999) → t_MQ (gi 70) R → s_crs R → s_TP gi48 (gi48 70 4).toInt (s_PY D ar1.toInt) ∧ t_YR (s_PY D ar1.toInt) (fun F => s_ac F R) gi48) from (fun D R hm hb hd h46 hsd hQ hcr => (by
                                                            obtain ⟨g1, g2, g3, g4⟩ := j36_1 D R hm hb hd h46 hsd hQ hcr
                                                            have b1 := hb.2.1
                                                            have fc := t_F_X hC48
                                                            have hr := g4 (by omega)
                                                            have T := g1
                                                            have E70 : gi36 70 = gi36 70 := rfl
                                                            obtain ⟨Z, h1, h2, h3, h4⟩ := hr
                                                            have hn : ((s_PY D ar1.toInt) 0 0).toNat = t_S gi36 := by have h9 := T.1.1; omega
                                                            have E70c : gi48 70 = gi36 70 := (t_F_nc fc rfl (by decide)).trans E70
                                                            refine ⟨by rw [E70c]; exact T.eq (fc 69 44 (by decide) rfl).1 (fc 69 45 (by decide) rfl).1 (t_F_nc fc rfl (by decide)) (t_F_nc fc rfl (by decide)) (t_F_nc fc rfl (by decide)) (t_F_nc fc rfl (by decide)), Z, (q48 ((s_PY D ar1.toInt) 0 0).toNat Z hn h1).1, ?_, ?_, h4⟩
                                                            · rw [(fc 69 66 (by decide) rfl).1, (fc 69 67 (by decide) rfl).1]; exact h2
                                                            · rw [(fc 69 65 (by decide) rfl).1]; exact h3)))⟩⟩
                · have u49 : (gi36 69 59).toInt ≤ 300 := t_ltu (t_nle h40) (by decide : (301:Int32).toInt ≤ (301:Int)) rfl
                  refine ev_loc f_X12_keeps (nx := 181) rfl rfl rfl rfl ?_
                  refine ev_gvI f_X12_keeps (nx := 184) (w := (gi36 69 69)) rfl (hI.wf.s rfl) rfl rfl rfl rfl ?_
                  refine ev_ic f_X12_keeps (nx := 185) (v := -1) rfl (by decide) rfl ?_
                  refine ev_if f_X12_keeps (t1 := 188) (t2 := 205) rfl rfl rfl (fun h50 => ?_) (fun h50 => ?_)
                  · have u51 : (gi36 69 69).toInt ≤ (-1) := t_equ h50 (by decide : ((-1):Int32).toInt ≤ ((-1):Int))
                    have l52 : (-1) ≤ (gi36 69 69).toInt := t_eql h50 (by decide : ((-1):Int) ≤ ((-1):Int32).toInt)
                    refine ev_loc f_X12_keeps (nx := 189) rfl rfl rfl rfl ?_
                    refine ev_qN f_X12_keeps (nx := 192) (r := []) rfl rfl rfl rfl rfl rfl rfl (c_y_minuteGoes hI  j36_0) rfl hX rfl (fun gi53 gl53 gr53 hI hX hC53 q53 => ?_)
                    have ff54 : (gi36 70 4).toInt = (gi 70 4).toInt := congrArg Int32.toInt c36_3
                    have q53 : (∀ (P : Nat → Nat → Int) (Z : Nat → Int) (R : List (List Int × Int)), s_TP gi36 (gi36 70 4).toInt P → t_IJ (P 0 0).toNat gi36 → t_YS (P 0 0).toNat Z gi36 → t_MB (gi36 69 59).toInt Z gi36 → s_okz P Z → s_PO P → s_PB P → t_MQ (gi36 70) R → s_crs R → (s_done P (s_en (gi36 69 59).toInt Z) → (gi53 69 69).toInt = (gi36 69 59).toInt ∧ t_YS (P 0 0).toNat (s_en (gi36 69 59).toInt Z) gi53 ∧ t_MZ (gi36 69 59).toInt (s_en (gi36 69 59).toInt Z) gi53) ∧ (¬ s_done P (s_en (gi36 69 59).toInt Z) → gi53 69 69 = gi36 69 69 ∧ t_YS (P 0 0).toNat (s_mn P (fun F => s_ac F R) (gi36 69 59).toInt Z) gi53 ∧ t_MB ((gi36 69 59).toInt + 1) (s_mn P (fun F => s_ac F R) (gi36 69 59).toInt Z) gi53)) := q53
                    refine ev_loc f_X12_keeps (nx := 193) rfl rfl rfl rfl ?_
                    refine ev_alu f_X12_keeps (nx := 194) rfl rfl rfl rfl ?_
                    refine ev_gvI f_X12_keeps (nx := 197) (w := (gi36 69 59)) rfl (hI.wf.s rfl) rfl rfl ((hC53.1 69 59 rfl).1.trans rfl) rfl ?_
                    refine ev_ic f_X12_keeps (nx := 198) (v := 1) rfl (by decide) rfl ?_
                    refine ev_addC f_X12_keeps (nx := 199) (c := 1) (l := 1) (u := 301) rfl (by decide) l38 u49 rfl rfl (by decide) (by decide) rfl (fun z56 e56 l56 u56 => ?_)
                    refine ev_putIT f_X12_keeps (nx := 202) rfl (hI.wf.s rfl) rfl rfl rfl (hI.putB (hI.wf.s rfl) rfl rfl l56 (by decide) u56 (by decide)) (hX.upI rfl) (fun g57 e57 hI hX => ?_)
                    refine ev_jmp f_X12_keeps (nx := 170) rfl rfl rfl ?_
                    refine ev_sub (lo := [(2, .int y20_2), (0, .ref 69), (1, .int ar1)]) rfl (t_sc rfl (t_sc rfl (t_sc rfl t_sn))) ?_
                    have hq36 := ((by rw [e57]; exact x_up2_at _ _ _ _ : g57 69 59 = z56) : g57 69 59 = z56)
                    exact ih36 _ (by rw [hq36]; omega) g57 gl53 gr53  hI hX  ((by rw [e57]; exact x_up2_off (Or.inr (by decide)) : g57 69 46 = gi53 69 46).trans ((hC53.1 69 46 rfl).1.trans c36_0)) ((by rw [e57]; exact x_up2_off (Or.inr (by decide)) : g57 70 1 = gi53 70 1).trans ((hC53.1 70 1 rfl).1.trans c36_1)) ((by rw [e57]; exact x_up2_off (Or.inr (by decide)) : g57 70 2 = gi53 70 2).trans ((hC53.1 70 2 rfl).1.trans c36_2)) ((by rw [e57]; exact x_up2_off (Or.inr (by decide)) : g57 70 4 = gi53 70 4).trans ((hC53.1 70 4 rfl).1.trans c36_3)) (by have hq := ((by rw [e57]; exact x_up2_ne (by decide) : g57 70 = gi53 70).trans ((funext (fun j => (hC53.1 70 j rfl).1) : gi53 70 = gi36 70))); rw [hq]; exact j36_0) (fun D R hm hb hd h46 hsd hQ hcr => (by
                                                            obtain ⟨g1, g2, g3, g4⟩ := j36_1 D R hm hb hd h46 hsd hQ hcr
                                                            have fn := t_F_X hX170_36
                                                            have E70 : gi36 70 = gi 70 := t_F_nc fn rfl (by decide)
                                                            have b59 := hIw36.b (hIw36.wf.s (k := 69) rfl) (t_bdK rfl : t_bd 11 59 = some (0, 301))
                                                            have h69 : (gi36 69 69).toInt = -1 := by omega
                                                            obtain ⟨Z, hZ⟩ := g3 h69
                                                            have hq := q53 (s_PY D ar1.toInt) Z R g1 g2 hZ.1 hZ.2.1 hZ.2.2.1 (s_PY_O hb hd) (s_PY_B hb hd) (by rw [E70]; exact hQ) hcr
                                                            have hs := t_YD.step hZ ⟨by omega, by omega⟩ (s_PY_O hb hd) hq.1 (fun hh => hq.2 hh) h69
                                                            have fc := t_F_X hC53
                                                            have E59 : (g57 69 59).toInt = (gi36 69 59).toInt + 1 := by have m_ := congrArg Int32.toInt (fc 69 59 (by decide) rfl).1; rw [e57, x_up2_at]; omega
                                                            have E69 : g57 69 69 = gi53 69 69 := by rw [e57, x_up2_off (Or.inr (by decide))]
                                                            have E70b : g57 70 = gi36 70 := ((funext fun j => by rw [e57, x_up2_off (Or.inl (by decide))] : g57 70 = gi53 70).trans (t_F_nc fc rfl (by decide)))
                                                            have E90 : g57 90 = gi36 90 := ((funext fun j => by rw [e57, x_up2_off (Or.inl (by decide))] : g57 90 = gi53 90).trans (t_F_nc fc rfl (by decide)))
                                                            refine ⟨by rw [E70b]; exact g1.eq (by rw [e57, x_up2_off (Or.inr (by decide)), (fc 69 44 (by decide) rfl).1]) (by rw [e57, x_up2_off (Or.inr (by decide)), (fc 69 45 (by decide) rfl).1]) E70b ((funext fun j => by rw [e57, x_up2_off (Or.inl (by decide))] : g57 89 = gi53 89).trans (t_F_nc fc rfl (by decide))) E90 ((funext fun j => by rw [e57, x_up2_off (Or.inl (by decide))] : g57 91 = gi53 91).trans (t_F_nc fc rfl (by decide))), g2.eq E90, fun hh => ?_, fun hh => ?_⟩
                                                            · rw [E59]; exact (hs.1 (by rw [← E69]; exact hh)).fr (fun j a b => by rw [e57, x_up2_off (Or.inr (by omega))]) (funext fun j => by rw [e57, x_up2_off (Or.inl (by decide))]) (funext fun j => by rw [e57, x_up2_off (Or.inl (by decide))])
                                                            · exact (hs.2 (by rw [← E69]; exact hh)).fr (by rw [e57, x_up2_off (Or.inr (by decide))]) (by rw [e57, x_up2_off (Or.inr (by decide))]) (by rw [e57, x_up2_off (Or.inr (by decide))]) (by rw [e57, x_up2_off (Or.inr (by decide))]) (funext fun j => by rw [e57, x_up2_off (Or.inl (by decide))]) (funext fun j => by rw [e57, x_up2_off (Or.inl (by decide))]))) rfl
                  · have r58 : (gi36 69 69).toInt ≠ (-1) := fun e => h50 (Int32.toInt_inj.mp (e.trans (by decide : ((-1):Int) = ((-1) : Int32).toInt)))
                    refine ev_loc f_X12_keeps (nx := 206) rfl rfl rfl rfl ?_
                    refine ev_gvI f_X12_keeps (nx := 209) (w := (gi36 69 69)) rfl (hI.wf.s rfl) rfl rfl rfl rfl ?_
                    refine ev_ic f_X12_keeps (nx := 210) (v := -1) rfl (by decide) rfl ?_
                    refine ev_if f_X12_keeps (t1 := 213) (t2 := 220) rfl rfl rfl (fun h59 => ?_) (fun h59 => ?_)
                    · have u60 : (gi36 69 69).toInt ≤ (-1) := t_equ h59 (by decide : ((-1):Int32).toInt ≤ ((-1):Int))
                      have l61 : (-1) ≤ (gi36 69 69).toInt := t_eql h59 (by decide : ((-1):Int) ≤ ((-1):Int32).toInt)
                      refine ev_loc f_X12_keeps (nx := 214) rfl rfl rfl rfl ?_
                      refine ev_sp f_X12_keeps (nx := 217) (v := 301) rfl (by decide) rfl ?_
                      refine ev_putIT f_X12_keeps (nx := 220) rfl (hI.wf.s rfl) rfl rfl rfl (hI.put0 (hI.wf.s rfl) rfl rfl) (hX.upI rfl) (fun g62 e62 hI hX => ?_)
                      refine ev_loc f_X12_keeps (nx := 221) rfl rfl rfl rfl ?_
                      refine ev_qN f_X12_keeps (nx := 224) (r := []) rfl rfl rfl rfl rfl rfl rfl (c_y_passesOver hI ) rfl hX rfl (fun gi63 gl63 gr63 hI hX hC63 q63 => ?_)
                      have q63 : (∀ (n : Nat) (Z : Nat → Int), n = t_S g62 → t_YS n Z g62 → t_YS n Z gi63 ∧ (gi63 69 64).toInt = ((s_f1 Z n 0 : Nat) : Int)) := q63
                      exact ev_ret f_X12_keeps rfl rfl rfl ⟨_, _, _, rfl, hI, hX, ⟨rfl, (show (∀ (D : s_D) (R : List (List Int × Int)), t_ME 0 gi D → t_Cb D → s_DB D → (gi 69 46).toInt = -1 → (-1 ≤ ar1.toInt ∧ ar1.toInt ≤ 9999) → t_MQ (gi 70) R → s_crs R → s_TP gi63 (gi63 70 4).toInt (s_PY D ar1.toInt) ∧ t_YR (s_PY D ar1.toInt) (fun F => s_ac F R) gi63) from (fun D R hm hb hd h46 hsd hQ hcr => (by
                                                            obtain ⟨g1, g2, g3, g4⟩ := j36_1 D R hm hb hd h46 hsd hQ hcr
                                                            have b1 := hb.2.1
                                                            have fc := t_F_X hC63
                                                            have hr := ((g3 (by omega)).out (by omega)).fr (g1 := g62) (by rw [e62, x_up2_off (Or.inr (by decide))]) (by rw [e62, x_up2_off (Or.inr (by decide))]) (by rw [e62, x_up2_off (Or.inr (by decide))]) (by rw [e62, x_up2_off (Or.inr (by decide))]) (funext fun j => by rw [e62, x_up2_off (Or.inl (by decide))]) (funext fun j => by rw [e62, x_up2_off (Or.inl (by decide))])
                                                            have T := g1.eq (g1 := g62) (by rw [e62, x_up2_off (Or.inr (by decide))]) (by rw [e62, x_up2_off (Or.inr (by decide))]) (funext fun j => by rw [e62, x_up2_off (Or.inl (by decide))]) (funext fun j => by rw [e62, x_up2_off (Or.inl (by decide))]) (funext fun j => by rw [e62, x_up2_off (Or.inl (by decide))]) (funext fun j => by rw [e62, x_up2_off (Or.inl (by decide))])
                                                            have E70 : g62 70 = gi36 70 := (funext fun j => by rw [e62, x_up2_off (Or.inl (by decide))])
                                                            obtain ⟨Z, h1, h2, h3, h4⟩ := hr
                                                            have hn : ((s_PY D ar1.toInt) 0 0).toNat = t_S g62 := by have h9 := T.1.1; omega
                                                            have E70c : gi63 70 = gi36 70 := (t_F_nc fc rfl (by decide)).trans E70
                                                            refine ⟨by rw [E70c]; exact T.eq (fc 69 44 (by decide) rfl).1 (fc 69 45 (by decide) rfl).1 (t_F_nc fc rfl (by decide)) (t_F_nc fc rfl (by decide)) (t_F_nc fc rfl (by decide)) (t_F_nc fc rfl (by decide)), Z, (q63 ((s_PY D ar1.toInt) 0 0).toNat Z hn h1).1, ?_, ?_, h4⟩
                                                            · rw [(fc 69 66 (by decide) rfl).1, (fc 69 67 (by decide) rfl).1]; exact h2
                                                            · rw [(fc 69 65 (by decide) rfl).1]; exact h3)))⟩⟩
                    · have r64 : (gi36 69 69).toInt ≠ (-1) := fun e => h59 (Int32.toInt_inj.mp (e.trans (by decide : ((-1):Int) = ((-1) : Int32).toInt)))
                      refine ev_loc f_X12_keeps (nx := 221) rfl rfl rfl rfl ?_
                      refine ev_qN f_X12_keeps (nx := 224) (r := []) rfl rfl rfl rfl rfl rfl rfl (c_y_passesOver hI ) rfl hX rfl (fun gi65 gl65 gr65 hI hX hC65 q65 => ?_)
                      have q65 : (∀ (n : Nat) (Z : Nat → Int), n = t_S gi36 → t_YS n Z gi36 → t_YS n Z gi65 ∧ (gi65 69 64).toInt = ((s_f1 Z n 0 : Nat) : Int)) := q65
                      exact ev_ret f_X12_keeps rfl rfl rfl ⟨_, _, _, rfl, hI, hX, ⟨rfl, (show (∀ (D : s_D) (R : List (List Int × Int)), t_ME 0 gi D → t_Cb D → s_DB D → (gi 69 46).toInt = -1 → (-1 ≤ ar1.toInt ∧ ar1.toInt ≤ 9999) → t_MQ (gi 70) R → s_crs R → s_TP gi65 (gi65 70 4).toInt (s_PY D ar1.toInt) ∧ t_YR (s_PY D ar1.toInt) (fun F => s_ac F R) gi65) from (fun D R hm hb hd h46 hsd hQ hcr => (by
                                                            obtain ⟨g1, g2, g3, g4⟩ := j36_1 D R hm hb hd h46 hsd hQ hcr
                                                            have b1 := hb.2.1
                                                            have fc := t_F_X hC65
                                                            have hr := g4 (by omega)
                                                            have T := g1
                                                            have E70 : gi36 70 = gi36 70 := rfl
                                                            obtain ⟨Z, h1, h2, h3, h4⟩ := hr
                                                            have hn : ((s_PY D ar1.toInt) 0 0).toNat = t_S gi36 := by have h9 := T.1.1; omega
                                                            have E70c : gi65 70 = gi36 70 := (t_F_nc fc rfl (by decide)).trans E70
                                                            refine ⟨by rw [E70c]; exact T.eq (fc 69 44 (by decide) rfl).1 (fc 69 45 (by decide) rfl).1 (t_F_nc fc rfl (by decide)) (t_F_nc fc rfl (by decide)) (t_F_nc fc rfl (by decide)) (t_F_nc fc rfl (by decide)), Z, (q65 ((s_PY D ar1.toInt) 0 0).toNat Z hn h1).1, ?_, ?_, h4⟩
                                                            · rw [(fc 69 66 (by decide) rfl).1, (fc 69 67 (by decide) rfl).1]; exact h2
                                                            · rw [(fc 69 65 (by decide) rfl).1]; exact h3)))⟩⟩
              refine ev_sub (lo := [(2, .int y20_2), (0, .ref 69), (1, .int ar1)]) rfl (t_sc rfl (t_sc rfl (t_sc rfl t_sn))) ?_
              exact L36 _ g35 gl20 gr20  hI hX  ((by rw [e35]; exact x_up2_off (Or.inr (by decide)) : g35 69 46 = g34 69 46).trans ((by rw [e34]; exact x_up2_off (Or.inr (by decide)) : g34 69 46 = g33 69 46).trans ((by rw [e33]; exact x_up2_off (Or.inr (by decide)) : g33 69 46 = g32 69 46).trans ((by rw [e32]; exact x_up2_off (Or.inr (by decide)) : g32 69 46 = g31 69 46).trans ((by rw [e31]; exact x_up2_off (Or.inr (by decide)) : g31 69 46 = g30 69 46).trans ((by rw [e30]; exact x_up2_off (Or.inr (by decide)) : g30 69 46 = g29 69 46).trans ((by rw [e29]; exact x_up2_off (Or.inr (by decide)) : g29 69 46 = g28 69 46).trans ((by rw [e28]; exact x_up2_off (Or.inr (by decide)) : g28 69 46 = g27 69 46).trans ((by rw [e27]; exact x_up2_off (Or.inr (by decide)) : g27 69 46 = g26 69 46).trans ((by rw [e26]; exact x_up2_off (Or.inr (by decide)) : g26 69 46 = g25 69 46).trans ((by rw [e25]; exact x_up2_off (Or.inr (by decide)) : g25 69 46 = g24 69 46).trans ((by rw [e24]; exact x_up2_off (Or.inr (by decide)) : g24 69 46 = gi20 69 46).trans c20_0)))))))))))) ((by rw [e35]; exact x_up2_off (Or.inr (by decide)) : g35 70 1 = g34 70 1).trans ((by rw [e34]; exact x_up2_off (Or.inr (by decide)) : g34 70 1 = g33 70 1).trans ((by rw [e33]; exact x_up2_off (Or.inr (by decide)) : g33 70 1 = g32 70 1).trans ((by rw [e32]; exact x_up2_off (Or.inr (by decide)) : g32 70 1 = g31 70 1).trans ((by rw [e31]; exact x_up2_off (Or.inr (by decide)) : g31 70 1 = g30 70 1).trans ((by rw [e30]; exact x_up2_off (Or.inr (by decide)) : g30 70 1 = g29 70 1).trans ((by rw [e29]; exact x_up2_off (Or.inr (by decide)) : g29 70 1 = g28 70 1).trans ((by rw [e28]; exact x_up2_off (Or.inr (by decide)) : g28 70 1 = g27 70 1).trans ((by rw [e27]; exact x_up2_off (Or.inr (by decide)) : g27 70 1 = g26 70 1).trans ((by rw [e26]; exact x_up2_off (Or.inr (by decide)) : g26 70 1 = g25 70 1).trans ((by rw [e25]; exact x_up2_off (Or.inr (by decide)) : g25 70 1 = g24 70 1).trans ((by rw [e24]; exact x_up2_off (Or.inr (by decide)) : g24 70 1 = gi20 70 1).trans c20_3)))))))))))) ((by rw [e35]; exact x_up2_off (Or.inr (by decide)) : g35 70 2 = g34 70 2).trans ((by rw [e34]; exact x_up2_off (Or.inr (by decide)) : g34 70 2 = g33 70 2).trans ((by rw [e33]; exact x_up2_off (Or.inr (by decide)) : g33 70 2 = g32 70 2).trans ((by rw [e32]; exact x_up2_off (Or.inr (by decide)) : g32 70 2 = g31 70 2).trans ((by rw [e31]; exact x_up2_off (Or.inr (by decide)) : g31 70 2 = g30 70 2).trans ((by rw [e30]; exact x_up2_off (Or.inr (by decide)) : g30 70 2 = g29 70 2).trans ((by rw [e29]; exact x_up2_off (Or.inr (by decide)) : g29 70 2 = g28 70 2).trans ((by rw [e28]; exact x_up2_off (Or.inr (by decide)) : g28 70 2 = g27 70 2).trans ((by rw [e27]; exact x_up2_off (Or.inr (by decide)) : g27 70 2 = g26 70 2).trans ((by rw [e26]; exact x_up2_off (Or.inr (by decide)) : g26 70 2 = g25 70 2).trans ((by rw [e25]; exact x_up2_off (Or.inr (by decide)) : g25 70 2 = g24 70 2).trans ((by rw [e24]; exact x_up2_off (Or.inr (by decide)) : g24 70 2 = gi20 70 2).trans c20_4)))))))))))) ((by rw [e35]; exact x_up2_off (Or.inr (by decide)) : g35 70 4 = g34 70 4).trans ((by rw [e34]; exact x_up2_off (Or.inr (by decide)) : g34 70 4 = g33 70 4).trans ((by rw [e33]; exact x_up2_off (Or.inr (by decide)) : g33 70 4 = g32 70 4).trans ((by rw [e32]; exact x_up2_off (Or.inr (by decide)) : g32 70 4 = g31 70 4).trans ((by rw [e31]; exact x_up2_off (Or.inr (by decide)) : g31 70 4 = g30 70 4).trans ((by rw [e30]; exact x_up2_off (Or.inr (by decide)) : g30 70 4 = g29 70 4).trans ((by rw [e29]; exact x_up2_off (Or.inr (by decide)) : g29 70 4 = g28 70 4).trans ((by rw [e28]; exact x_up2_off (Or.inr (by decide)) : g28 70 4 = g27 70 4).trans ((by rw [e27]; exact x_up2_off (Or.inr (by decide)) : g27 70 4 = g26 70 4).trans ((by rw [e26]; exact x_up2_off (Or.inr (by decide)) : g26 70 4 = g25 70 4).trans ((by rw [e25]; exact x_up2_off (Or.inr (by decide)) : g25 70 4 = g24 70 4).trans ((by rw [e24]; exact x_up2_off (Or.inr (by decide)) : g24 70 4 = gi20 70 4).trans c20_5)))))))))))) (by have hq := ((by rw [e35]; exact x_up2_ne (by decide) : g35 70 = g34 70).trans ((by rw [e34]; exact x_up2_ne (by decide) : g34 70 = g33 70).trans ((by rw [e33]; exact x_up2_ne (by decide) : g33 70 = g32 70).trans ((by rw [e32]; exact x_up2_ne (by decide) : g32 70 = g31 70).trans ((by rw [e31]; exact x_up2_ne (by decide) : g31 70 = g30 70).trans ((by rw [e30]; exact x_up2_ne (by decide) : g30 70 = g29 70).trans ((by rw [e29]; exact x_up2_ne (by decide) : g29 70 = g28 70).trans ((by rw [e28]; exact x_up2_ne (by decide) : g28 70 = g27 70).trans ((by rw [e27]; exact x_up2_ne (by decide) : g27 70 = g26 70).trans ((by rw [e26]; exact x_up2_ne (by decide) : g26 70 = g25 70).trans ((by rw [e25]; exact x_up2_ne (by decide) : g25 70 = g24 70).trans ((by rw [e24]; exact x_up2_ne (by decide) : g24 70 = gi20 70))))))))))))); rw [hq]; exact j20_0) (fun D R hm hb hd h46 hsd hQ hcr => (by
                                                            obtain ⟨g1, g2, g3, g4⟩ := j20_1 D R hm hb hd h46 hsd hQ hcr
                                                            have b1 := hb.2.1
                                                            have b2 := hb.2.2
                                                            have E70 : g35 70 = gi20 70 := (funext fun j => by rw [e35, x_up2_off (Or.inl (by decide)), e34, x_up2_off (Or.inl (by decide)), e33, x_up2_off (Or.inl (by decide)), e32, x_up2_off (Or.inl (by decide)), e31, x_up2_off (Or.inl (by decide)), e30, x_up2_off (Or.inl (by decide)), e29, x_up2_off (Or.inl (by decide)), e28, x_up2_off (Or.inl (by decide)), e27, x_up2_off (Or.inl (by decide)), e26, x_up2_off (Or.inl (by decide)), e25, x_up2_off (Or.inl (by decide)), e24, x_up2_off (Or.inl (by decide))])
                                                            have E90 : g35 90 = gi20 90 := (funext fun j => by rw [e35, x_up2_off (Or.inl (by decide)), e34, x_up2_off (Or.inl (by decide)), e33, x_up2_off (Or.inl (by decide)), e32, x_up2_off (Or.inl (by decide)), e31, x_up2_off (Or.inl (by decide)), e30, x_up2_off (Or.inl (by decide)), e29, x_up2_off (Or.inl (by decide)), e28, x_up2_off (Or.inl (by decide)), e27, x_up2_off (Or.inl (by decide)), e26, x_up2_off (Or.inl (by decide)), e25, x_up2_off (Or.inl (by decide)), e24, x_up2_off (Or.inl (by decide))])
                                                            have E99 : g35 99 = gi20 99 := (funext fun j => by rw [e35, x_up2_off (Or.inl (by decide)), e34, x_up2_off (Or.inl (by decide)), e33, x_up2_off (Or.inl (by decide)), e32, x_up2_off (Or.inl (by decide)), e31, x_up2_off (Or.inl (by decide)), e30, x_up2_off (Or.inl (by decide)), e29, x_up2_off (Or.inl (by decide)), e28, x_up2_off (Or.inl (by decide)), e27, x_up2_off (Or.inl (by decide)), e26, x_up2_off (Or.inl (by decide)), e25, x_up2_off (Or.inl (by decide)), e24, x_up2_off (Or.inl (by decide))])
                                                            refine ⟨by rw [E70]; exact g1.eq (by rw [e35, x_up2_off (Or.inr (by decide)), e34, x_up2_off (Or.inr (by decide)), e33, x_up2_off (Or.inr (by decide)), e32, x_up2_off (Or.inr (by decide)), e31, x_up2_off (Or.inr (by decide)), e30, x_up2_off (Or.inr (by decide)), e29, x_up2_off (Or.inr (by decide)), e28, x_up2_off (Or.inr (by decide)), e27, x_up2_off (Or.inr (by decide)), e26, x_up2_off (Or.inr (by decide)), e25, x_up2_off (Or.inr (by decide)), e24, x_up2_off (Or.inr (by decide))]) (by rw [e35, x_up2_off (Or.inr (by decide)), e34, x_up2_off (Or.inr (by decide)), e33, x_up2_off (Or.inr (by decide)), e32, x_up2_off (Or.inr (by decide)), e31, x_up2_off (Or.inr (by decide)), e30, x_up2_off (Or.inr (by decide)), e29, x_up2_off (Or.inr (by decide)), e28, x_up2_off (Or.inr (by decide)), e27, x_up2_off (Or.inr (by decide)), e26, x_up2_off (Or.inr (by decide)), e25, x_up2_off (Or.inr (by decide)), e24, x_up2_off (Or.inr (by decide))]) E70 (funext fun j => by rw [e35, x_up2_off (Or.inl (by decide)), e34, x_up2_off (Or.inl (by decide)), e33, x_up2_off (Or.inl (by decide)), e32, x_up2_off (Or.inl (by decide)), e31, x_up2_off (Or.inl (by decide)), e30, x_up2_off (Or.inl (by decide)), e29, x_up2_off (Or.inl (by decide)), e28, x_up2_off (Or.inl (by decide)), e27, x_up2_off (Or.inl (by decide)), e26, x_up2_off (Or.inl (by decide)), e25, x_up2_off (Or.inl (by decide)), e24, x_up2_off (Or.inl (by decide))]) E90 (funext fun j => by rw [e35, x_up2_off (Or.inl (by decide)), e34, x_up2_off (Or.inl (by decide)), e33, x_up2_off (Or.inl (by decide)), e32, x_up2_off (Or.inl (by decide)), e31, x_up2_off (Or.inl (by decide)), e30, x_up2_off (Or.inl (by decide)), e29, x_up2_off (Or.inl (by decide)), e28, x_up2_off (Or.inl (by decide)), e27, x_up2_off (Or.inl (by decide)), e26, x_up2_off (Or.inl (by decide)), e25, x_up2_off (Or.inl (by decide)), e24, x_up2_off (Or.inl (by decide))]), g2.eq E90, fun _ => ⟨fun _ => 0, t_YS_0 (by rw [e35, x_up2_off (Or.inr (by decide)), e34, x_up2_off (Or.inr (by decide)), e33, x_up2_off (Or.inr (by decide)), e32, x_up2_off (Or.inr (by decide)), e31, x_up2_off (Or.inr (by decide)), e30, x_up2_off (Or.inr (by decide)), e29, x_up2_off (Or.inr (by decide)), e28, x_up2_at]; rfl) (fun k hk => by unfold t_si; rw [E90]; exact g3 k hk) (fun j hj => by rw [E99]; exact g4 j (by omega)), ?_, s_okz_0 (by show 0 ≤ (((D 2).toNat : Nat) : Int); omega), ?_⟩, fun hh => absurd (by rw [e35, x_up2_off (Or.inr (by decide)), e34, x_up2_at]; rfl) hh⟩
                                                            · rw [show (g35 69 59).toInt = 0 by rw [e35, x_up2_at]; rfl]; exact t_YB_0 (by rw [e35, x_up2_off (Or.inr (by decide)), e34, x_up2_off (Or.inr (by decide)), e33, x_up2_off (Or.inr (by decide)), e32, x_up2_off (Or.inr (by decide)), e31, x_up2_off (Or.inr (by decide)), e30, x_up2_off (Or.inr (by decide)), e29, x_up2_off (Or.inr (by decide)), e28, x_up2_off (Or.inr (by decide)), e27, x_up2_off (Or.inr (by decide)), e26, x_up2_off (Or.inr (by decide)), e25, x_up2_off (Or.inr (by decide)), e24, x_up2_at]; rfl) (by rw [e35, x_up2_off (Or.inr (by decide)), e34, x_up2_off (Or.inr (by decide)), e33, x_up2_off (Or.inr (by decide)), e32, x_up2_off (Or.inr (by decide)), e31, x_up2_off (Or.inr (by decide)), e30, x_up2_off (Or.inr (by decide)), e29, x_up2_off (Or.inr (by decide)), e28, x_up2_off (Or.inr (by decide)), e27, x_up2_off (Or.inr (by decide)), e26, x_up2_off (Or.inr (by decide)), e25, x_up2_at]; rfl) (by rw [e35, x_up2_off (Or.inr (by decide)), e34, x_up2_off (Or.inr (by decide)), e33, x_up2_off (Or.inr (by decide)), e32, x_up2_off (Or.inr (by decide)), e31, x_up2_off (Or.inr (by decide)), e30, x_up2_off (Or.inr (by decide)), e29, x_up2_off (Or.inr (by decide)), e28, x_up2_off (Or.inr (by decide)), e27, x_up2_off (Or.inr (by decide)), e26, x_up2_at]; rfl) (by rw [e35, x_up2_off (Or.inr (by decide)), e34, x_up2_off (Or.inr (by decide)), e33, x_up2_off (Or.inr (by decide)), e32, x_up2_off (Or.inr (by decide)), e31, x_up2_off (Or.inr (by decide)), e30, x_up2_off (Or.inr (by decide)), e29, x_up2_off (Or.inr (by decide)), e28, x_up2_off (Or.inr (by decide)), e27, x_up2_at]; rfl) (by rw [e35, x_up2_off (Or.inr (by decide)), e34, x_up2_off (Or.inr (by decide)), e33, x_up2_off (Or.inr (by decide)), e32, x_up2_off (Or.inr (by decide)), e31, x_up2_off (Or.inr (by decide)), e30, x_up2_off (Or.inr (by decide)), e29, x_up2_at]; rfl) (by rw [e35, x_up2_off (Or.inr (by decide)), e34, x_up2_off (Or.inr (by decide)), e33, x_up2_off (Or.inr (by decide)), e32, x_up2_off (Or.inr (by decide)), e31, x_up2_off (Or.inr (by decide)), e30, x_up2_at]; rfl) (by rw [e35, x_up2_off (Or.inr (by decide)), e34, x_up2_off (Or.inr (by decide)), e33, x_up2_off (Or.inr (by decide)), e32, x_up2_off (Or.inr (by decide)), e31, x_up2_at]; rfl)
                                                            · rw [show (g35 69 59).toInt = 0 by rw [e35, x_up2_at]; rfl]; rfl)) rfl
            · have u66 : y20_2.toInt ≤ 5 := t_ltu (t_nle h22) (by decide : (6:Int32).toInt ≤ (6:Int)) rfl
              refine ev_loc f_X12_keeps (nx := 98) rfl rfl rfl rfl ?_
              refine ev_getR f_X12_keeps (nx := 101) rfl (hI.wf.s rfl) rfl rfl (hI.wf.r rfl) rfl rfl ?_
              refine ev_loc f_X12_keeps (nx := 102) rfl rfl rfl rfl ?_
              refine ev_ic f_X12_keeps (nx := 103) (v := 0) rfl (by decide) rfl ?_
              refine ev_zastE f_X12_keeps (nx := 104) rfl (hI.wf.s rfl) l20_2 (by decide) u66 (by decide) rfl (fun x l u => hI.astL (hI.wf.s rfl) (by decide +kernel : t_abw 99 0 5 0 1 = true) (t_cl1 l20_2 (by decide)) (t_cl2 l20_2 u66 (by decide) (by decide)) l u rfl) (fun x => hX.upI (t_inA_ok rfl)) (fun g67 x67 e67 ex67 hI hX => ?_)
              refine ev_incR f_X12_keeps (nx := 107) (c := 1) (l := 1) (u := 6) rfl rfl (by decide) (by decide) l20_2 u66 rfl rfl (by decide) (by decide) rfl (fun z68 e68 l68 u68 => ?_)
              refine ev_jmp f_X12_keeps (nx := 91) rfl rfl rfl ?_
              refine ev_sub (lo := [(2, .int z68), (0, .ref 69), (1, .int ar1)]) rfl (t_sc rfl (t_sc rfl (t_sc rfl t_sn))) ?_
              exact ih20 _ (by omega) g67 gl20 gr20 (z68) hI hX  (Int.le_trans (by decide : (0:Int) ≤ 1) l68) u68 ((by rw [e67]; exact x_up2_off (Or.inl (by decide)) : g67 69 46 = gi20 69 46).trans c20_0) ((by rw [e67]; exact x_up2_off (Or.inl (by decide)) : g67 69 59 = gi20 69 59).trans c20_1) ((by rw [e67]; exact x_up2_off (Or.inl (by decide)) : g67 69 69 = gi20 69 69).trans c20_2) ((by rw [e67]; exact x_up2_off (Or.inl (by decide)) : g67 70 1 = gi20 70 1).trans c20_3) ((by rw [e67]; exact x_up2_off (Or.inl (by decide)) : g67 70 2 = gi20 70 2).trans c20_4) ((by rw [e67]; exact x_up2_off (Or.inl (by decide)) : g67 70 4 = gi20 70 4).trans c20_5) (by have hq := ((by rw [e67]; exact x_up2_ne (by decide) : g67 70 = gi20 70)); rw [hq]; exact j20_0) (fun D R hm hb hd h46 hsd hQ hcr => (by
                                                            obtain ⟨g1, g2, g3, g4⟩ := j20_1 D R hm hb hd h46 hsd hQ hcr
                                                            have E70 : g67 70 = gi20 70 := (funext fun j => by rw [e67, x_up2_off (Or.inl (by decide))])
                                                            have E90 : g67 90 = gi20 90 := (funext fun j => by rw [e67, x_up2_off (Or.inl (by decide))])
                                                            refine ⟨by rw [E70]; exact g1.eq (by rw [e67, x_up2_off (Or.inl (by decide))]) (by rw [e67, x_up2_off (Or.inl (by decide))]) E70 (funext fun j => by rw [e67, x_up2_off (Or.inl (by decide))]) E90 (funext fun j => by rw [e67, x_up2_off (Or.inl (by decide))]), g2.eq E90, fun k hk => by unfold t_si; rw [E90]; exact g3 k hk, fun j hj => ?_⟩
                                                            have cy := t_clamp (i := y20_2) (by omega)
                                                            by_cases h : j = y20_2.toNatClampNeg
                                                            · rw [e67, h, x_up2_at]; first | rfl | (rw [ex67]; rfl) | (rw [ex67]; decide)
                                                            · rw [e67, x_up2_off (Or.inr h)]; exact g4 j (by omega))) rfl
          refine ev_sub (lo := [(2, .int 0), (0, .ref 69), (1, .int ar1)]) rfl (t_sc rfl (t_sc rfl (t_sc rfl t_sn))) ?_
          exact L20 _ gi18 gl18 gr18 (0) hI hX  (by decide : (0:Int) ≤ (0:Int32).toInt) (Int.le_trans (by decide : (0:Int32).toInt ≤ (0:Int)) (by decide : (0:Int) ≤ 6)) ((hC18.1 69 46 rfl).1.trans c13_0) ((hC18.1 69 59 rfl).1.trans c13_1) ((hC18.1 69 69 rfl).1.trans c13_2) ((hC18.1 70 1 rfl).1.trans c13_3) ((hC18.1 70 2 rfl).1.trans rfl) ((hC18.1 70 4 rfl).1.trans c13_4) (by have hq := ((funext (fun j => (hC18.1 70 j rfl).1) : gi18 70 = gi13 70)); rw [hq]; exact j13_0) (fun D R hm hb hd h46 hsd hQ hcr => (by
                                                            have b1 := hb.2.1
                                                            have b2 := hb.2.2
                                                            have k70 : ∀ j : Nat, (j : Int) < D 1 → (gi 70 (53 + 5 * j)).toInt = s_A D j := fun j hj => by have hh := hm.2.2.1 (53 + 5 * j) (by omega) (by omega); rw [Nat.zero_add] at hh; exact hh
                                                            have c70 : ∀ j : Nat, (j : Int) < D 2 → (gi 70 (82 + 3 * j)).toInt = s_B D j := fun j hj => by have hh := hm.2.2.2 (82 + 3 * j) (by omega) (by omega); rw [Nat.zero_add] at hh; exact hh
                                                            have fn := t_F_X hX47_13
                                                            have E70 : gi13 70 = gi 70 := t_F_nc fn rfl (by decide)
                                                            have d1 : (gi13 70 1).toInt = D 1 := by rw [E70]; exact hm.1.1.2.1
                                                            have d2 : (gi13 70 2).toInt = D 2 := by rw [E70]; exact hm.1.1.2.2
                                                            obtain ⟨g1, g2, g3, g4⟩ := j13_1 D R hm hb hd h46 hsd hQ hcr
                                                            have z0 : (0 : Int32).toInt = 0 := rfl
                                                            have cy := t_clamp (i := y13_2) (by omega)
                                                            have hB : ∀ j : Nat, (j : Int) < D 2 → (gi13 89 (6 + j)).toInt = s_By D ar1.toInt j := fun j hj => by
                                                              rw [g4 j hj]; show _ = s_B D j + s_dl ar1.toInt ((D 1).toNat + j)
                                                              by_cases hs : ar1.toInt = -1
                                                              · rw [s_dl_n hs]; split <;> rfl
                                                              · rw [if_pos (by omega)]
                                                            have hmn : t_ME 0 gi13 D := hm.mv hb (fun j _ _ _ => congrFun E70 (0 + j))
                                                            have m46 : (gi13 69 46).toInt = -1 := by rw [(fn 69 46 (by decide) rfl).1]; exact h46
                                                            have hS := q18.2.2.1 D _ hmn hb g3
                                                            have hC := q18.2.2.2 D _ hmn hb hB
                                                            rw [m46] at hC
                                                            have hSa := s_mk_all (A := s_Ay D ar1.toInt) (D 1).toNat (by omega)
                                                            have hCa := s_ff_all (s_By D ar1.toInt) (s_ck (-1)) (D 2).toNat (fun j _ => s_ck_y (by omega))
                                                            have r1 := s_RO_F _ hSa hS.2
                                                            have r2 := s_RO_F _ hCa hC.2
                                                            have E44 := hS.1
                                                            rw [hSa.1] at E44
                                                            have E45 := hC.1
                                                            rw [hCa.1] at E45
                                                            have E70c : gi18 70 = gi 70 := (funext fun j => q18.1 j).trans E70
                                                            have hmc : t_ME 0 gi18 D := hm.mv hb (fun j _ _ _ => congrFun E70c (0 + j))
                                                            refine ⟨s_TP_Y hb hd (by rw [E70c]; exact hm.1.2.1) hmc (by omega) (by omega) r1 r2 (fun j hj => by rw [q18.2.1]; exact g3 j hj) (fun j hj => by rw [q18.2.1]; exact hB j hj), t_IJ_Y r1, fun k hk => ?_, fun j hj => absurd hj (by omega)⟩
                                                            have hk1 : k < (D 1).toNat := Int.ofNat_lt.mp (show (k : Int) < (((D 1).toNat : Nat) : Int) by have h9 : k < (((D 1).toNat : Nat) : Int).toNat := hk; omega)
                                                            have h9 := s_or_lt (s_Ay D ar1.toInt) _ _ hk1
                                                            have e9 : t_si gi18 k = s_or (s_Ay D ar1.toInt) (D 1).toNat k := by unfold t_si; rw [r1 k hk1]; rfl
                                                            rw [e9]; omega)) rfl
        · have r69 : y13_2.toInt < (gi13 70 2).toInt := Int32.lt_iff_toInt_lt.mp (t_nle h16)
          have u70 : y13_2.toInt ≤ 5 := t_ltu (t_nle h16) u15 rfl
          have l71 : 1 ≤ (gi13 70 2).toInt := t_ltl (t_nle h16) l13_2 rfl
          refine ev_loc f_X12_keeps (nx := 58) rfl rfl rfl rfl ?_
          refine ev_ic f_X12_keeps (nx := 59) (v := -1) rfl (by decide) rfl ?_
          refine ev_if f_X12_keeps (t1 := 84) (t2 := 62) rfl rfl rfl (fun h72 => ?_) (fun h72 => ?_)
          · have u73 : ar1.toInt ≤ (-1) := t_equ h72 (by decide : ((-1):Int32).toInt ≤ ((-1):Int))
            have l74 : (-1) ≤ ar1.toInt := t_eql h72 (by decide : ((-1):Int) ≤ ((-1):Int32).toInt)
            refine ev_loc f_X12_keeps (nx := 85) rfl rfl rfl rfl ?_
            refine ev_ic f_X12_keeps (nx := 86) (v := 0) rfl (by decide) rfl ?_
            refine ev_qN f_X12_keeps (nx := 89) (r := []) rfl rfl rfl rfl rfl rfl rfl (c_n_ordersG hI (0)) rfl hX rfl (fun gi75 gl75 gr75 hI hX hC75 q75 => ?_)
            have ff76 : (gi13 69 46).toInt = (gi 69 46).toInt := congrArg Int32.toInt c13_0
            have q75 : (∀ j, gi75 70 j = gi13 70 j) ∧ (∀ j, gi75 89 j = gi13 89 j) ∧ (∀ (D : s_D) (A : Nat → Int), t_ME 0 gi13 D → t_Cb D → (∀ j : Nat, (j : Int) < D 1 → (gi13 89 j).toInt = A j) → (gi75 69 44).toInt = ((s_fn (s_mk (0 : Int32)) (D 1).toNat : Nat) : Int) ∧ s_RF (s_ff A (s_mk (0 : Int32)) (D 1).toNat) (fun k => (k : Int)) (gi75 90) (s_fn (s_mk (0 : Int32)) (D 1).toNat)) ∧ (∀ (D : s_D) (A : Nat → Int), t_ME 0 gi13 D → t_Cb D → (∀ j : Nat, (j : Int) < D 2 → (gi13 89 (6 + j)).toInt = A j) → (gi75 69 45).toInt = ((s_fn (s_ck (gi13 69 46).toInt) (D 2).toNat : Nat) : Int) ∧ s_RF (s_ff A (s_ck (gi13 69 46).toInt) (D 2).toNat) (fun k => (k : Int)) (gi75 91) (s_fn (s_ck (gi13 69 46).toInt) (D 2).toNat)) := q75
            refine ev_ic f_X12_keeps (nx := 90) (v := 0) rfl (by decide) rfl ?_
            refine ev_loc f_X12_keeps (nx := 91) (lo' := [(2, .int 0), (0, .ref 69), (1, .int ar1)]) rfl rfl rfl rfl ?_
            have L77 : ∀ (m77 : Nat) (gi77 : Nat → Nat → Int32) (gl77 : Nat → Nat → Int64) (gr77 : Nat → Nat → Value) (y77_2 : Int32), t_I sh gi77 gr77 → t_X wl_y_keeps sh gi gl gr gi77 gl77 gr77 → 0 ≤ y77_2.toInt → y77_2.toInt ≤ 6 → gi77 69 46 = (gi 69 46) → gi77 69 59 = (gi 69 59) → gi77 69 69 = (gi 69 69) → gi77 70 1 = (gi8 70 1) → gi77 70 2 = (gi13 70 2) → gi77 70 4 = (gi 70 4) → t_rpn (gi77 70) 0 → (∀ (D : s_D) (R : List (List Int × Int)), t_ME 0 gi D → t_Cb D → s_DB D → (gi 69 46).toInt = -1 → (-1 ≤ ar1.toInt ∧ ar1.toInt ≤ 9999) → t_MQ (gi 70) R → s_crs R → s_TP gi77 (gi77 70 4).toInt (s_PY D ar1.toInt) ∧ t_IJ ((s_PY D ar1.toInt) 0 0).toNat gi77 ∧ (∀ k : Nat, k < ((s_PY D ar1.toInt) 0 0).toNat → t_si gi77 k < 6) ∧ ∀ j : Nat, (j : Int) < y77_2.toInt → (gi77 99 j).toInt = 0) → (6 - y77_2.toInt).toNat = m77 → x_Ev X (d + 6) n_X12_keeps 91 [(2, .int y77_2), (0, .ref 69), (1, .int ar1)] [] (sh, gi77, gl77, gr77) (t_PN wl_y_keeps sh gi gl gr (Q_y_keeps gi gl gr ar1)) := by
              intro m77
              induction m77 using Nat.strongRecOn with
              | _ m77 ih77 =>
              intro gi77 gl77 gr77 y77_2 hI hX l77_2 u77_2 c77_0 c77_1 c77_2 c77_3 c77_4 c77_5 j77_0 j77_1 hm77
              refine ev_loc f_X12_keeps (nx := 92) rfl rfl rfl rfl ?_
              have hX91_77 := hX
              refine ev_bp f_X12_keeps (nx := 94) (v := 6) rfl (by decide) rfl ?_
              refine ev_if f_X12_keeps (t1 := 110) (t2 := 97) rfl rfl rfl (fun h79 => ?_) (fun h79 => ?_)
              · have l80 : 6 ≤ y77_2.toInt := t_lel h79 (by decide : (6:Int) ≤ (6:Int32).toInt)
                refine ev_loc f_X12_keeps (nx := 111) rfl rfl rfl rfl ?_
                refine ev_ic f_X12_keeps (nx := 112) (v := 0) rfl (by decide) rfl ?_
                refine ev_putIT f_X12_keeps (nx := 115) rfl (hI.wf.s rfl) rfl rfl rfl (hI.put0 (hI.wf.s rfl) rfl rfl) (hX.upI rfl) (fun g81 e81 hI hX => ?_)
                refine ev_loc f_X12_keeps (nx := 116) rfl rfl rfl rfl ?_
                refine ev_ic f_X12_keeps (nx := 117) (v := -1) rfl (by decide) rfl ?_
                refine ev_putIT f_X12_keeps (nx := 120) rfl (hI.wf.s rfl) rfl rfl rfl (hI.put0 (hI.wf.s rfl) rfl rfl) (hX.upI rfl) (fun g82 e82 hI hX => ?_)
                refine ev_loc f_X12_keeps (nx := 121) rfl rfl rfl rfl ?_
                refine ev_ic f_X12_keeps (nx := 122) (v := -1) rfl (by decide) rfl ?_
                refine ev_putIT f_X12_keeps (nx := 125) rfl (hI.wf.s rfl) rfl rfl rfl (hI.put0 (hI.wf.s rfl) rfl rfl) (hX.upI rfl) (fun g83 e83 hI hX => ?_)
                refine ev_loc f_X12_keeps (nx := 126) rfl rfl rfl rfl ?_
                refine ev_ic f_X12_keeps (nx := 127) (v := 0) rfl (by decide) rfl ?_
                refine ev_putIT f_X12_keeps (nx := 130) rfl (hI.wf.s rfl) rfl rfl rfl (hI.put0 (hI.wf.s rfl) rfl rfl) (hX.upI rfl) (fun g84 e84 hI hX => ?_)
                refine ev_loc f_X12_keeps (nx := 131) rfl rfl rfl rfl ?_
                refine ev_ic f_X12_keeps (nx := 132) (v := 0) rfl (by decide) rfl ?_
                refine ev_putIT f_X12_keeps (nx := 135) rfl (hI.wf.s rfl) rfl rfl rfl (hI.putB (hI.wf.s rfl) rfl rfl (by decide : (0:Int) ≤ (0:Int32).toInt) (by decide) (by decide : (0:Int32).toInt ≤ (0:Int)) (by decide)) (hX.upI rfl) (fun g85 e85 hI hX => ?_)
                refine ev_loc f_X12_keeps (nx := 136) rfl rfl rfl rfl ?_
                refine ev_ic f_X12_keeps (nx := 137) (v := 0) rfl (by decide) rfl ?_
                refine ev_putIT f_X12_keeps (nx := 140) rfl (hI.wf.s rfl) rfl rfl rfl (hI.putB (hI.wf.s rfl) rfl rfl (by decide : (0:Int) ≤ (0:Int32).toInt) (by decide) (by decide : (0:Int32).toInt ≤ (0:Int)) (by decide)) (hX.upI rfl) (fun g86 e86 hI hX => ?_)
                refine ev_loc f_X12_keeps (nx := 141) rfl rfl rfl rfl ?_
                refine ev_ic f_X12_keeps (nx := 142) (v := 0) rfl (by decide) rfl ?_
                refine ev_putIT f_X12_keeps (nx := 145) rfl (hI.wf.s rfl) rfl rfl rfl (hI.put0 (hI.wf.s rfl) rfl rfl) (hX.upI rfl) (fun g87 e87 hI hX => ?_)
                refine ev_loc f_X12_keeps (nx := 146) rfl rfl rfl rfl ?_
                refine ev_ic f_X12_keeps (nx := 147) (v := 0) rfl (by decide) rfl ?_
                refine ev_putIT f_X12_keeps (nx := 150) rfl (hI.wf.s rfl) rfl rfl rfl (hI.put0 (hI.wf.s rfl) rfl rfl) (hX.upI rfl) (fun g88 e88 hI hX => ?_)
                refine ev_loc f_X12_keeps (nx := 151) rfl rfl rfl rfl ?_
                refine ev_ic f_X12_keeps (nx := 152) (v := 0) rfl (by decide) rfl ?_
                refine ev_putIT f_X12_keeps (nx := 155) rfl (hI.wf.s rfl) rfl rfl rfl (hI.put0 (hI.wf.s rfl) rfl rfl) (hX.upI rfl) (fun g89 e89 hI hX => ?_)
                refine ev_loc f_X12_keeps (nx := 156) rfl rfl rfl rfl ?_
                refine ev_ic f_X12_keeps (nx := 157) (v := 0) rfl (by decide) rfl ?_
                refine ev_putIT f_X12_keeps (nx := 160) rfl (hI.wf.s rfl) rfl rfl rfl (hI.put0 (hI.wf.s rfl) rfl rfl) (hX.upI rfl) (fun g90 e90 hI hX => ?_)
                refine ev_loc f_X12_keeps (nx := 161) rfl rfl rfl rfl ?_
                refine ev_ic f_X12_keeps (nx := 162) (v := -1) rfl (by decide) rfl ?_
                refine ev_putIT f_X12_keeps (nx := 165) rfl (hI.wf.s rfl) rfl rfl rfl (hI.put0 (hI.wf.s rfl) rfl rfl) (hX.upI rfl) (fun g91 e91 hI hX => ?_)
                refine ev_loc f_X12_keeps (nx := 166) rfl rfl rfl rfl ?_
                refine ev_ic f_X12_keeps (nx := 167) (v := 0) rfl (by decide) rfl ?_
                refine ev_putIT f_X12_keeps (nx := 170) rfl (hI.wf.s rfl) rfl rfl rfl (hI.putB (hI.wf.s rfl) rfl rfl (by decide : (0:Int) ≤ (0:Int32).toInt) (by decide) (by decide : (0:Int32).toInt ≤ (0:Int)) (by decide)) (hX.upI rfl) (fun g92 e92 hI hX => ?_)
                have L93 : ∀ (m93 : Nat) (gi93 : Nat → Nat → Int32) (gl93 : Nat → Nat → Int64) (gr93 : Nat → Nat → Value), t_I sh gi93 gr93 → t_X wl_y_keeps sh gi gl gr gi93 gl93 gr93 → gi93 69 46 = (gi 69 46) → gi93 70 1 = (gi8 70 1) → gi93 70 2 = (gi13 70 2) → gi93 70 4 = (gi 70 4) → t_rpn (gi93 70) 0 → (∀ (D : s_D) (R : List (List Int × Int)), t_ME 0 gi D → t_Cb D → s_DB D → (gi 69 46).toInt = -1 → (-1 ≤ ar1.toInt ∧ ar1.toInt ≤ 9999) → t_MQ (gi 70) R → s_crs R → s_TP gi93 (gi93 70 4).toInt (s_PY D ar1.toInt) ∧ t_IJ ((s_PY D ar1.toInt) 0 0).toNat gi93 ∧ ((gi93 69 69).toInt = -1 → t_YD (s_PY D ar1.toInt) (fun F => s_ac F R) (gi93 69 59).toInt gi93) ∧ ((gi93 69 69).toInt ≠ -1 → t_YR (s_PY D ar1.toInt) (fun F => s_ac F R) gi93)) → (301 - (gi93 69 59).toInt).toNat = m93 → x_Ev X (d + 6) n_X12_keeps 170 [(2, .int y77_2), (0, .ref 69), (1, .int ar1)] [] (sh, gi93, gl93, gr93) (t_PN wl_y_keeps sh gi gl gr (Q_y_keeps gi gl gr ar1)) := by
                  intro m93
                  induction m93 using Nat.strongRecOn with
                  | _ m93 ih93 =>
                  intro gi93 gl93 gr93 hI hX c93_0 c93_1 c93_2 c93_3 j93_0 j93_1 hm93
                  obtain ⟨l95, u95⟩ := hI.b (hI.wf.s (k := 69) rfl) (t_bdK rfl : t_bd 11 59 = some (0, 301))
                  refine ev_loc f_X12_keeps (nx := 171) rfl rfl rfl rfl ?_
                  have hX170_93 := hX
                  have hIw93 := hI
                  refine ev_gvI f_X12_keeps (nx := 174) (w := (gi93 69 59)) rfl (hI.wf.s rfl) rfl rfl rfl rfl ?_
                  refine ev_sp f_X12_keeps (nx := 177) (v := 301) rfl (by decide) rfl ?_
                  refine ev_if f_X12_keeps (t1 := 205) (t2 := 180) rfl rfl rfl (fun h97 => ?_) (fun h97 => ?_)
                  · have l98 : 301 ≤ (gi93 69 59).toInt := t_lel h97 (by decide : (301:Int) ≤ (301:Int32).toInt)
                    refine ev_loc f_X12_keeps (nx := 206) rfl rfl rfl rfl ?_
                    refine ev_gvI f_X12_keeps (nx := 209) (w := (gi93 69 69)) rfl (hI.wf.s rfl) rfl rfl rfl rfl ?_
                    refine ev_ic f_X12_keeps (nx := 210) (v := -1) rfl (by decide) rfl ?_
                    refine ev_if f_X12_keeps (t1 := 213) (t2 := 220) rfl rfl rfl (fun h99 => ?_) (fun h99 => ?_)
                    · have u100 : (gi93 69 69).toInt ≤ (-1) := t_equ h99 (by decide : ((-1):Int32).toInt ≤ ((-1):Int))
                      have l101 : (-1) ≤ (gi93 69 69).toInt := t_eql h99 (by decide : ((-1):Int) ≤ ((-1):Int32).toInt)
                      refine ev_loc f_X12_keeps (nx := 214) rfl rfl rfl rfl ?_
                      refine ev_sp f_X12_keeps (nx := 217) (v := 301) rfl (by decide) rfl ?_
                      refine ev_putIT f_X12_keeps (nx := 220) rfl (hI.wf.s rfl) rfl rfl rfl (hI.put0 (hI.wf.s rfl) rfl rfl) (hX.upI rfl) (fun g102 e102 hI hX => ?_)
                      refine ev_loc f_X12_keeps (nx := 221) rfl rfl rfl rfl ?_
                      refine ev_qN f_X12_keeps (nx := 224) (r := []) rfl rfl rfl rfl rfl rfl rfl (c_y_passesOver hI ) rfl hX rfl (fun gi103 gl103 gr103 hI hX hC103 q103 => ?_)
                      have q103 : (∀ (n : Nat) (Z : Nat → Int), n = t_S g102 → t_YS n Z g102 → t_YS n Z gi103 ∧ (gi103 69 64).toInt = ((s_f1 Z n 0 : Nat) : Int)) := q103
                      exact ev_ret f_X12_keeps rfl rfl rfl ⟨_, _, _, rfl, hI, hX, ⟨rfl, (show (∀ (D : s_D) (R : List (List Int × Int)), t_ME 0 gi D → t_Cb D → s_DB D → (gi 69 46).toInt = -1 → (-1 ≤ ar1.toInt ∧ ar1.toInt ≤ 9999) → t_MQ (gi 70) R → s_crs R → s_TP gi103 (gi103 70 4).toInt (s_PY D ar1.toInt) ∧ t_YR (s_PY D ar1.toInt) (fun F => s_ac F R) gi103) from (fun D R hm hb hd h46 hsd hQ hcr => (by
                                                            obtain ⟨g1, g2, g3, g4⟩ := j93_1 D R hm hb hd h46 hsd hQ hcr
                                                            have b1 := hb.2.1
                                                            have fc := t_F_X hC103
                                                            have hr := ((g3 (by omega)).out (by omega)).fr (g1 := g102) (by rw [e102, x_up2_off (Or.inr (by decide))]) (by rw [e102, x_up2_off (Or.inr (by decide))]) (by rw [e102, x_up2_off (Or.inr (by decide))]) (by rw [e102, x_up2_off (Or.inr (by decide))]) (funext fun j => by rw [e102, x_up2_off (Or.inl (by decide))]) (funext fun j => by rw [e102, x_up2_off (Or.inl (by decide))])
                                                            have T := g1.eq (g1 := g102) (by rw [e102, x_up2_off (Or.inr (by decide))]) (by rw [e102, x_up2_off (Or.inr (by decide))]) (funext fun j => by rw [e102, x_up2_off (Or.inl (by decide))]) (funext fun j => by rw [e102, x_up2_off (Or.inl (by decide))]) (funext fun j => by rw [e102, x_up2_off (Or.inl (by decide))]) (funext fun j => by rw [e102, x_up2_off (Or.inl (by decide))])
                                                            have E70 : g102 70 = gi93 70 := (funext fun j => by rw [e102, x_up2_off (Or.inl (by decide))])
                                                            obtain ⟨Z, h1, h2, h3, h4⟩ := hr
                                                            have hn : ((s_PY D ar1.toInt) 0 0).toNat = t_S g102 := by have h9 := T.1.1; omega
                                                            have E70c : gi103 70 = gi93 70 := (t_F_nc fc rfl (by decide)).trans E70
                                                            refine ⟨by rw [E70c]; exact T.eq (fc 69 44 (by decide) rfl).1 (fc 69 45 (by decide) rfl).1 (t_F_nc fc rfl (by decide)) (t_F_nc fc rfl (by decide)) (t_F_nc fc rfl (by decide)) (t_F_nc fc rfl (by decide)), Z, (q103 ((s_PY D ar1.toInt) 0 0).toNat Z hn h1).1, ?_, ?_, h4⟩
                                                            · rw [(fc 69 66 (by decide) rfl).1, (fc 69 67 (by decide) rfl).1]; exact h2
                                                            · rw [(fc 69 65 (by decide) rfl).1]; exact h3)))⟩⟩
                    · have r104 : (gi93 69 69).toInt ≠ (-1) := fun e => h99 (Int32.toInt_inj.mp (e.trans (by decide : ((-1):Int) = ((-1) : Int32).toInt)))
                      refine ev_loc f_X12_keeps (nx := 221) rfl rfl rfl rfl ?_
                      refine ev_qN f_X12_keeps (nx := 224) (r := []) rfl rfl rfl rfl rfl rfl rfl (c_y_passesOver hI ) rfl hX rfl (fun gi105 gl105 gr105 hI hX hC105 q105 => ?_)
                      have q105 : (∀ (n : Nat) (Z : Nat → Int), n = t_S gi93 → t_YS n Z gi93 → t_YS n Z gi105 ∧ (gi105 69 64).toInt = ((s_f1 Z n 0 : Nat) : Int)) := q105
                      exact ev_ret f_X12_keeps rfl rfl rfl ⟨_, _, _, rfl, hI, hX, ⟨rfl, (show (∀ (D : s_D) (R : List (List Int × Int)), t_ME 0 gi D → t_Cb D → s_DB D → (gi 69 46).toInt = -1 → (-1 ≤ ar1.toInt ∧ ar1.toInt ≤ 9999) → t_MQ (gi 70) R → s_crs R → s_TP gi105 (gi105 70 4).toInt (s_PY D ar1.toInt) ∧ t_YR (s_PY D ar1.toInt) (fun F => s_ac F R) gi105) from (fun D R hm hb hd h46 hsd hQ hcr => (by
                                                            obtain ⟨g1, g2, g3, g4⟩ := j93_1 D R hm hb hd h46 hsd hQ hcr
                                                            have b1 := hb.2.1
                                                            have fc := t_F_X hC105
                                                            have hr := g4 (by omega)
                                                            have T := g1
                                                            have E70 : gi93 70 = gi93 70 := rfl
                                                            obtain ⟨Z, h1, h2, h3, h4⟩ := hr
                                                            have hn : ((s_PY D ar1.toInt) 0 0).toNat = t_S gi93 := by have h9 := T.1.1; omega
                                                            have E70c : gi105 70 = gi93 70 := (t_F_nc fc rfl (by decide)).trans E70
                                                            refine ⟨by rw [E70c]; exact T.eq (fc 69 44 (by decide) rfl).1 (fc 69 45 (by decide) rfl).1 (t_F_nc fc rfl (by decide)) (t_F_nc fc rfl (by decide)) (t_F_nc fc rfl (by decide)) (t_F_nc fc rfl (by decide)), Z, (q105 ((s_PY D ar1.toInt) 0 0).toNat Z hn h1).1, ?_, ?_, h4⟩
                                                            · rw [(fc 69 66 (by decide) rfl).1, (fc 69 67 (by decide) rfl).1]; exact h2
                                                            · rw [(fc 69 65 (by decide) rfl).1]; exact h3)))⟩⟩
                  · have u106 : (gi93 69 59).toInt ≤ 300 := t_ltu (t_nle h97) (by decide : (301:Int32).toInt ≤ (301:Int)) rfl
                    refine ev_loc f_X12_keeps (nx := 181) rfl rfl rfl rfl ?_
                    refine ev_gvI f_X12_keeps (nx := 184) (w := (gi93 69 69)) rfl (hI.wf.s rfl) rfl rfl rfl rfl ?_
                    refine ev_ic f_X12_keeps (nx := 185) (v := -1) rfl (by decide) rfl ?_
                    refine ev_if f_X12_keeps (t1 := 188) (t2 := 205) rfl rfl rfl (fun h107 => ?_) (fun h107 => ?_)
                    · have u108 : (gi93 69 69).toInt ≤ (-1) := t_equ h107 (by decide : ((-1):Int32).toInt ≤ ((-1):Int))
                      have l109 : (-1) ≤ (gi93 69 69).toInt := t_eql h107 (by decide : ((-1):Int) ≤ ((-1):Int32).toInt)
                      refine ev_loc f_X12_keeps (nx := 189) rfl rfl rfl rfl ?_
                      refine ev_qN f_X12_keeps (nx := 192) (r := []) rfl rfl rfl rfl rfl rfl rfl (c_y_minuteGoes hI  j93_0) rfl hX rfl (fun gi110 gl110 gr110 hI hX hC110 q110 => ?_)
                      have ff111 : (gi93 70 4).toInt = (gi 70 4).toInt := congrArg Int32.toInt c93_3
                      have q110 : (∀ (P : Nat → Nat → Int) (Z : Nat → Int) (R : List (List Int × Int)), s_TP gi93 (gi93 70 4).toInt P → t_IJ (P 0 0).toNat gi93 → t_YS (P 0 0).toNat Z gi93 → t_MB (gi93 69 59).toInt Z gi93 → s_okz P Z → s_PO P → s_PB P → t_MQ (gi93 70) R → s_crs R → (s_done P (s_en (gi93 69 59).toInt Z) → (gi110 69 69).toInt = (gi93 69 59).toInt ∧ t_YS (P 0 0).toNat (s_en (gi93 69 59).toInt Z) gi110 ∧ t_MZ (gi93 69 59).toInt (s_en (gi93 69 59).toInt Z) gi110) ∧ (¬ s_done P (s_en (gi93 69 59).toInt Z) → gi110 69 69 = gi93 69 69 ∧ t_YS (P 0 0).toNat (s_mn P (fun F => s_ac F R) (gi93 69 59).toInt Z) gi110 ∧ t_MB ((gi93 69 59).toInt + 1) (s_mn P (fun F => s_ac F R) (gi93 69 59).toInt Z) gi110)) := q110
                      refine ev_loc f_X12_keeps (nx := 193) rfl rfl rfl rfl ?_
                      refine ev_alu f_X12_keeps (nx := 194) rfl rfl rfl rfl ?_
                      refine ev_gvI f_X12_keeps (nx := 197) (w := (gi93 69 59)) rfl (hI.wf.s rfl) rfl rfl ((hC110.1 69 59 rfl).1.trans rfl) rfl ?_
                      refine ev_ic f_X12_keeps (nx := 198) (v := 1) rfl (by decide) rfl ?_
                      refine ev_addC f_X12_keeps (nx := 199) (c := 1) (l := 1) (u := 301) rfl (by decide) l95 u106 rfl rfl (by decide) (by decide) rfl (fun z113 e113 l113 u113 => ?_)
                      refine ev_putIT f_X12_keeps (nx := 202) rfl (hI.wf.s rfl) rfl rfl rfl (hI.putB (hI.wf.s rfl) rfl rfl l113 (by decide) u113 (by decide)) (hX.upI rfl) (fun g114 e114 hI hX => ?_)
                      refine ev_jmp f_X12_keeps (nx := 170) rfl rfl rfl ?_
                      refine ev_sub (lo := [(2, .int y77_2), (0, .ref 69), (1, .int ar1)]) rfl (t_sc rfl (t_sc rfl (t_sc rfl t_sn))) ?_
                      have hq93 := ((by rw [e114]; exact x_up2_at _ _ _ _ : g114 69 59 = z113) : g114 69 59 = z113)
                      exact ih93 _ (by rw [hq93]; omega) g114 gl110 gr110  hI hX  ((by rw [e114]; exact x_up2_off (Or.inr (by decide)) : g114 69 46 = gi110 69 46).trans ((hC110.1 69 46 rfl).1.trans c93_0)) ((by rw [e114]; exact x_up2_off (Or.inr (by decide)) : g114 70 1 = gi110 70 1).trans ((hC110.1 70 1 rfl).1.trans c93_1)) ((by rw [e114]; exact x_up2_off (Or.inr (by decide)) : g114 70 2 = gi110 70 2).trans ((hC110.1 70 2 rfl).1.trans c93_2)) ((by rw [e114]; exact x_up2_off (Or.inr (by decide)) : g114 70 4 = gi110 70 4).trans ((hC110.1 70 4 rfl).1.trans c93_3)) (by have hq := ((by rw [e114]; exact x_up2_ne (by decide) : g114 70 = gi110 70).trans ((funext (fun j => (hC110.1 70 j rfl).1) : gi110 70 = gi93 70))); rw [hq]; exact j93_0) (fun D R hm hb hd h46 hsd hQ hcr => (by
                                                            obtain ⟨g1, g2, g3, g4⟩ := j93_1 D R hm hb hd h46 hsd hQ hcr
                                                            have fn := t_F_X hX170_93
                                                            have E70 : gi93 70 = gi 70 := t_F_nc fn rfl (by decide)
                                                            have b59 := hIw93.b (hIw93.wf.s (k := 69) rfl) (t_bdK rfl : t_bd 11 59 = some (0, 301))
                                                            have h69 : (gi93 69 69).toInt = -1 := by omega
                                                            obtain ⟨Z, hZ⟩ := g3 h69
                                                            have hq := q110 (s_PY D ar1.toInt) Z R g1 g2 hZ.1 hZ.2.1 hZ.2.2.1 (s_PY_O hb hd) (s_PY_B hb hd) (by rw [E70]; exact hQ) hcr
                                                            have hs := t_YD.step hZ ⟨by omega, by omega⟩ (s_PY_O hb hd) hq.1 (fun hh => hq.2 hh) h69
                                                            have fc := t_F_X hC110
                                                            have E59 : (g114 69 59).toInt = (gi93 69 59).toInt + 1 := by have m_ := congrArg Int32.toInt (fc 69 59 (by decide) rfl).1; rw [e114, x_up2_at]; omega
                                                            have E69 : g114 69 69 = gi110 69 69 := by rw [e114, x_up2_off (Or.inr (by decide))]
                                                            have E70b : g114 70 = gi93 70 := ((funext fun j => by rw [e114, x_up2_off (Or.inl (by decide))] : g114 70 = gi110 70).trans (t_F_nc fc rfl (by decide)))
                                                            have E90 : g114 90 = gi93 90 := ((funext fun j => by rw [e114, x_up2_off (Or.inl (by decide))] : g114 90 = gi110 90).trans (t_F_nc fc rfl (by decide)))
                                                            refine ⟨by rw [E70b]; exact g1.eq (by rw [e114, x_up2_off (Or.inr (by decide)), (fc 69 44 (by decide) rfl).1]) (by rw [e114, x_up2_off (Or.inr (by decide)), (fc 69 45 (by decide) rfl).1]) E70b ((funext fun j => by rw [e114, x_up2_off (Or.inl (by decide))] : g114 89 = gi110 89).trans (t_F_nc fc rfl (by decide))) E90 ((funext fun j => by rw [e114, x_up2_off (Or.inl (by decide))] : g114 91 = gi110 91).trans (t_F_nc fc rfl (by decide))), g2.eq E90, fun hh => ?_, fun hh => ?_⟩
                                                            · rw [E59]; exact (hs.1 (by rw [← E69]; exact hh)).fr (fun j a b => by rw [e114, x_up2_off (Or.inr (by omega))]) (funext fun j => by rw [e114, x_up2_off (Or.inl (by decide))]) (funext fun j => by rw [e114, x_up2_off (Or.inl (by decide))])
                                                            · exact (hs.2 (by rw [← E69]; exact hh)).fr (by rw [e114, x_up2_off (Or.inr (by decide))]) (by rw [e114, x_up2_off (Or.inr (by decide))]) (by rw [e114, x_up2_off (Or.inr (by decide))]) (by rw [e114, x_up2_off (Or.inr (by decide))]) (funext fun j => by rw [e114, x_up2_off (Or.inl (by decide))]) (funext fun j => by rw [e114, x_up2_off (Or.inl (by decide))]))) rfl
                    · have r115 : (gi93 69 69).toInt ≠ (-1) := fun e => h107 (Int32.toInt_inj.mp (e.trans (by decide : ((-1):Int) = ((-1) : Int32).toInt)))
                      refine ev_loc f_X12_keeps (nx := 206) rfl rfl rfl rfl ?_
                      refine ev_gvI f_X12_keeps (nx := 209) (w := (gi93 69 69)) rfl (hI.wf.s rfl) rfl rfl rfl rfl ?_
                      refine ev_ic f_X12_keeps (nx := 210) (v := -1) rfl (by decide) rfl ?_
                      refine ev_if f_X12_keeps (t1 := 213) (t2 := 220) rfl rfl rfl (fun h116 => ?_) (fun h116 => ?_)
                      · have u117 : (gi93 69 69).toInt ≤ (-1) := t_equ h116 (by decide : ((-1):Int32).toInt ≤ ((-1):Int))
                        have l118 : (-1) ≤ (gi93 69 69).toInt := t_eql h116 (by decide : ((-1):Int) ≤ ((-1):Int32).toInt)
                        refine ev_loc f_X12_keeps (nx := 214) rfl rfl rfl rfl ?_
                        refine ev_sp f_X12_keeps (nx := 217) (v := 301) rfl (by decide) rfl ?_
                        refine ev_putIT f_X12_keeps (nx := 220) rfl (hI.wf.s rfl) rfl rfl rfl (hI.put0 (hI.wf.s rfl) rfl rfl) (hX.upI rfl) (fun g119 e119 hI hX => ?_)
                        refine ev_loc f_X12_keeps (nx := 221) rfl rfl rfl rfl ?_
                        refine ev_qN f_X12_keeps (nx := 224) (r := []) rfl rfl rfl rfl rfl rfl rfl (c_y_passesOver hI ) rfl hX rfl (fun gi120 gl120 gr120 hI hX hC120 q120 => ?_)
                        have q120 : (∀ (n : Nat) (Z : Nat → Int), n = t_S g119 → t_YS n Z g119 → t_YS n Z gi120 ∧ (gi120 69 64).toInt = ((s_f1 Z n 0 : Nat) : Int)) := q120
                        exact ev_ret f_X12_keeps rfl rfl rfl ⟨_, _, _, rfl, hI, hX, ⟨rfl, (show (∀ (D : s_D) (R : List (List Int × Int)), t_ME 0 gi D → t_Cb D → s_DB D → (gi 69 46).toInt = -1 → (-1 ≤ ar1.toInt ∧ ar1.toInt ≤ 9999) → t_MQ (gi 70) R → s_crs R → s_TP gi120 (gi120 70 4).toInt (s_PY D ar1.toInt) ∧ t_YR (s_PY D ar1.toInt) (fun F => s_ac F R) gi120) from (fun D R hm hb hd h46 hsd hQ hcr => (by
                                                            obtain ⟨g1, g2, g3, g4⟩ := j93_1 D R hm hb hd h46 hsd hQ hcr
                                                            have b1 := hb.2.1
                                                            have fc := t_F_X hC120
                                                            have hr := ((g3 (by omega)).out (by omega)).fr (g1 := g119) (by rw [e119, x_up2_off (Or.inr (by decide))]) (by rw [e119, x_up2_off (Or.inr (by decide))]) (by rw [e119, x_up2_off (Or.inr (by decide))]) (by rw [e119, x_up2_off (Or.inr (by decide))]) (funext fun j => by rw [e119, x_up2_off (Or.inl (by decide))]) (funext fun j => by rw [e119, x_up2_off (Or.inl (by decide))])
                                                            have T := g1.eq (g1 := g119) (by rw [e119, x_up2_off (Or.inr (by decide))]) (by rw [e119, x_up2_off (Or.inr (by decide))]) (funext fun j => by rw [e119, x_up2_off (Or.inl (by decide))]) (funext fun j => by rw [e119, x_up2_off (Or.inl (by decide))]) (funext fun j => by rw [e119, x_up2_off (Or.inl (by decide))]) (funext fun j => by rw [e119, x_up2_off (Or.inl (by decide))])
                                                            have E70 : g119 70 = gi93 70 := (funext fun j => by rw [e119, x_up2_off (Or.inl (by decide))])
                                                            obtain ⟨Z, h1, h2, h3, h4⟩ := hr
                                                            have hn : ((s_PY D ar1.toInt) 0 0).toNat = t_S g119 := by have h9 := T.1.1; omega
                                                            have E70c : gi120 70 = gi93 70 := (t_F_nc fc rfl (by decide)).trans E70
                                                            refine ⟨by rw [E70c]; exact T.eq (fc 69 44 (by decide) rfl).1 (fc 69 45 (by decide) rfl).1 (t_F_nc fc rfl (by decide)) (t_F_nc fc rfl (by decide)) (t_F_nc fc rfl (by decide)) (t_F_nc fc rfl (by decide)), Z, (q120 ((s_PY D ar1.toInt) 0 0).toNat Z hn h1).1, ?_, ?_, h4⟩
                                                            · rw [(fc 69 66 (by decide) rfl).1, (fc 69 67 (by decide) rfl).1]; exact h2
                                                            · rw [(fc 69 65 (by decide) rfl).1]; exact h3)))⟩⟩
                      · have r121 : (gi93 69 69).toInt ≠ (-1) := fun e => h116 (Int32.toInt_inj.mp (e.trans (by decide : ((-1):Int) = ((-1) : Int32).toInt)))
                        refine ev_loc f_X12_keeps (nx := 221) rfl rfl rfl rfl ?_
                        refine ev_qN f_X12_keeps (nx := 224) (r := []) rfl rfl rfl rfl rfl rfl rfl (c_y_passesOver hI ) rfl hX rfl (fun gi122 gl122 gr122 hI hX hC122 q122 => ?_)
                        have q122 : (∀ (n : Nat) (Z : Nat → Int), n = t_S gi93 → t_YS n Z gi93 → t_YS n Z gi122 ∧ (gi122 69 64).toInt = ((s_f1 Z n 0 : Nat) : Int)) := q122
                        exact ev_ret f_X12_keeps rfl rfl rfl ⟨_, _, _, rfl, hI, hX, ⟨rfl, (show (∀ (D : s_D) (R : List (List Int × Int)), t_ME 0 gi D → t_Cb D → s_DB D → (gi 69 46).toInt = -1 → (-1 ≤ ar1.toInt ∧ ar1.toInt ≤ 9999) → t_MQ (gi 70) R → s_crs R → s_TP gi122 (gi122 70 4).toInt (s_PY D ar1.toInt) ∧ t_YR (s_PY D ar1.toInt) (fun F => s_ac F R) gi122) from (fun D R hm hb hd h46 hsd hQ hcr => (by
                                                            obtain ⟨g1, g2, g3, g4⟩ := j93_1 D R hm hb hd h46 hsd hQ hcr
                                                            have b1 := hb.2.1
                                                            have fc := t_F_X hC122
                                                            have hr := g4 (by omega)
                                                            have T := g1
                                                            have E70 : gi93 70 = gi93 70 := rfl
                                                            obtain ⟨Z, h1, h2, h3, h4⟩ := hr
                                                            have hn : ((s_PY D ar1.toInt) 0 0).toNat = t_S gi93 := by have h9 := T.1.1; omega
                                                            have E70c : gi122 70 = gi93 70 := (t_F_nc fc rfl (by decide)).trans E70
                                                            refine ⟨by rw [E70c]; exact T.eq (fc 69 44 (by decide) rfl).1 (fc 69 45 (by decide) rfl).1 (t_F_nc fc rfl (by decide)) (t_F_nc fc rfl (by decide)) (t_F_nc fc rfl (by decide)) (t_F_nc fc rfl (by decide)), Z, (q122 ((s_PY D ar1.toInt) 0 0).toNat Z hn h1).1, ?_, ?_, h4⟩
                                                            · rw [(fc 69 66 (by decide) rfl).1, (fc 69 67 (by decide) rfl).1]; exact h2
                                                            · rw [(fc 69 65 (by decide) rfl).1]; exact h3)))⟩⟩
                refine ev_sub (lo := [(2, .int y77_2), (0, .ref 69), (1, .int ar1)]) rfl (t_sc rfl (t_sc rfl (t_sc rfl t_sn))) ?_
                exact L93 _ g92 gl77 gr77  hI hX  ((by rw [e92]; exact x_up2_off (Or.inr (by decide)) : g92 69 46 = g91 69 46).trans ((by rw [e91]; exact x_up2_off (Or.inr (by decide)) : g91 69 46 = g90 69 46).trans ((by rw [e90]; exact x_up2_off (Or.inr (by decide)) : g90 69 46 = g89 69 46).trans ((by rw [e89]; exact x_up2_off (Or.inr (by decide)) : g89 69 46 = g88 69 46).trans ((by rw [e88]; exact x_up2_off (Or.inr (by decide)) : g88 69 46 = g87 69 46).trans ((by rw [e87]; exact x_up2_off (Or.inr (by decide)) : g87 69 46 = g86 69 46).trans ((by rw [e86]; exact x_up2_off (Or.inr (by decide)) : g86 69 46 = g85 69 46).trans ((by rw [e85]; exact x_up2_off (Or.inr (by decide)) : g85 69 46 = g84 69 46).trans ((by rw [e84]; exact x_up2_off (Or.inr (by decide)) : g84 69 46 = g83 69 46).trans ((by rw [e83]; exact x_up2_off (Or.inr (by decide)) : g83 69 46 = g82 69 46).trans ((by rw [e82]; exact x_up2_off (Or.inr (by decide)) : g82 69 46 = g81 69 46).trans ((by rw [e81]; exact x_up2_off (Or.inr (by decide)) : g81 69 46 = gi77 69 46).trans c77_0)))))))))))) ((by rw [e92]; exact x_up2_off (Or.inr (by decide)) : g92 70 1 = g91 70 1).trans ((by rw [e91]; exact x_up2_off (Or.inr (by decide)) : g91 70 1 = g90 70 1).trans ((by rw [e90]; exact x_up2_off (Or.inr (by decide)) : g90 70 1 = g89 70 1).trans ((by rw [e89]; exact x_up2_off (Or.inr (by decide)) : g89 70 1 = g88 70 1).trans ((by rw [e88]; exact x_up2_off (Or.inr (by decide)) : g88 70 1 = g87 70 1).trans ((by rw [e87]; exact x_up2_off (Or.inr (by decide)) : g87 70 1 = g86 70 1).trans ((by rw [e86]; exact x_up2_off (Or.inr (by decide)) : g86 70 1 = g85 70 1).trans ((by rw [e85]; exact x_up2_off (Or.inr (by decide)) : g85 70 1 = g84 70 1).trans ((by rw [e84]; exact x_up2_off (Or.inr (by decide)) : g84 70 1 = g83 70 1).trans ((by rw [e83]; exact x_up2_off (Or.inr (by decide)) : g83 70 1 = g82 70 1).trans ((by rw [e82]; exact x_up2_off (Or.inr (by decide)) : g82 70 1 = g81 70 1).trans ((by rw [e81]; exact x_up2_off (Or.inr (by decide)) : g81 70 1 = gi77 70 1).trans c77_3)))))))))))) ((by rw [e92]; exact x_up2_off (Or.inr (by decide)) : g92 70 2 = g91 70 2).trans ((by rw [e91]; exact x_up2_off (Or.inr (by decide)) : g91 70 2 = g90 70 2).trans ((by rw [e90]; exact x_up2_off (Or.inr (by decide)) : g90 70 2 = g89 70 2).trans ((by rw [e89]; exact x_up2_off (Or.inr (by decide)) : g89 70 2 = g88 70 2).trans ((by rw [e88]; exact x_up2_off (Or.inr (by decide)) : g88 70 2 = g87 70 2).trans ((by rw [e87]; exact x_up2_off (Or.inr (by decide)) : g87 70 2 = g86 70 2).trans ((by rw [e86]; exact x_up2_off (Or.inr (by decide)) : g86 70 2 = g85 70 2).trans ((by rw [e85]; exact x_up2_off (Or.inr (by decide)) : g85 70 2 = g84 70 2).trans ((by rw [e84]; exact x_up2_off (Or.inr (by decide)) : g84 70 2 = g83 70 2).trans ((by rw [e83]; exact x_up2_off (Or.inr (by decide)) : g83 70 2 = g82 70 2).trans ((by rw [e82]; exact x_up2_off (Or.inr (by decide)) : g82 70 2 = g81 70 2).trans ((by rw [e81]; exact x_up2_off (Or.inr (by decide)) : g81 70 2 = gi77 70 2).trans c77_4)))))))))))) ((by rw [e92]; exact x_up2_off (Or.inr (by decide)) : g92 70 4 = g91 70 4).trans ((by rw [e91]; exact x_up2_off (Or.inr (by decide)) : g91 70 4 = g90 70 4).trans ((by rw [e90]; exact x_up2_off (Or.inr (by decide)) : g90 70 4 = g89 70 4).trans ((by rw [e89]; exact x_up2_off (Or.inr (by decide)) : g89 70 4 = g88 70 4).trans ((by rw [e88]; exact x_up2_off (Or.inr (by decide)) : g88 70 4 = g87 70 4).trans ((by rw [e87]; exact x_up2_off (Or.inr (by decide)) : g87 70 4 = g86 70 4).trans ((by rw [e86]; exact x_up2_off (Or.inr (by decide)) : g86 70 4 = g85 70 4).trans ((by rw [e85]; exact x_up2_off (Or.inr (by decide)) : g85 70 4 = g84 70 4).trans ((by rw [e84]; exact x_up2_off (Or.inr (by decide)) : g84 70 4 = g83 70 4).trans ((by rw [e83]; exact x_up2_off (Or.inr (by decide)) : g83 70 4 = g82 70 4).trans ((by rw [e82]; exact x_up2_off (Or.inr (by decide)) : g82 70 4 = g81 70 4).trans ((by rw [e81]; exact x_up2_off (Or.inr (by decide)) : g81 70 4 = gi77 70 4).trans c77_5)))))))))))) (by have hq := ((by rw [e92]; exact x_up2_ne (by decide) : g92 70 = g91 70).trans ((by rw [e91]; exact x_up2_ne (by decide) : g91 70 = g90 70).trans ((by rw [e90]; exact x_up2_ne (by decide) : g90 70 = g89 70).trans ((by rw [e89]; exact x_up2_ne (by decide) : g89 70 = g88 70).trans ((by rw [e88]; exact x_up2_ne (by decide) : g88 70 = g87 70).trans ((by rw [e87]; exact x_up2_ne (by decide) : g87 70 = g86 70).trans ((by rw [e86]; exact x_up2_ne (by decide) : g86 70 = g85 70).trans ((by rw [e85]; exact x_up2_ne (by decide) : g85 70 = g84 70).trans ((by rw [e84]; exact x_up2_ne (by decide) : g84 70 = g83 70).trans ((by rw [e83]; exact x_up2_ne (by decide) : g83 70 = g82 70).trans ((by rw [e82]; exact x_up2_ne (by decide) : g82 70 = g81 70).trans ((by rw [e81]; exact x_up2_ne (by decide) : g81 70 = gi77 70))))))))))))); rw [hq]; exact j77_0) (fun D R hm hb hd h46 hsd hQ hcr => (by
                                                            obtain ⟨g1, g2, g3, g4⟩ := j77_1 D R hm hb hd h46 hsd hQ hcr
                                                            have b1 := hb.2.1
                                                            have b2 := hb.2.2
                                                            have E70 : g92 70 = gi77 70 := (funext fun j => by rw [e92, x_up2_off (Or.inl (by decide)), e91, x_up2_off (Or.inl (by decide)), e90, x_up2_off (Or.inl (by decide)), e89, x_up2_off (Or.inl (by decide)), e88, x_up2_off (Or.inl (by decide)), e87, x_up2_off (Or.inl (by decide)), e86, x_up2_off (Or.inl (by decide)), e85, x_up2_off (Or.inl (by decide)), e84, x_up2_off (Or.inl (by decide)), e83, x_up2_off (Or.inl (by decide)), e82, x_up2_off (Or.inl (by decide)), e81, x_up2_off (Or.inl (by decide))])
                                                            have E90 : g92 90 = gi77 90 := (funext fun j => by rw [e92, x_up2_off (Or.inl (by decide)), e91, x_up2_off (Or.inl (by decide)), e90, x_up2_off (Or.inl (by decide)), e89, x_up2_off (Or.inl (by decide)), e88, x_up2_off (Or.inl (by decide)), e87, x_up2_off (Or.inl (by decide)), e86, x_up2_off (Or.inl (by decide)), e85, x_up2_off (Or.inl (by decide)), e84, x_up2_off (Or.inl (by decide)), e83, x_up2_off (Or.inl (by decide)), e82, x_up2_off (Or.inl (by decide)), e81, x_up2_off (Or.inl (by decide))])
                                                            have E99 : g92 99 = gi77 99 := (funext fun j => by rw [e92, x_up2_off (Or.inl (by decide)), e91, x_up2_off (Or.inl (by decide)), e90, x_up2_off (Or.inl (by decide)), e89, x_up2_off (Or.inl (by decide)), e88, x_up2_off (Or.inl (by decide)), e87, x_up2_off (Or.inl (by decide)), e86, x_up2_off (Or.inl (by decide)), e85, x_up2_off (Or.inl (by decide)), e84, x_up2_off (Or.inl (by decide)), e83, x_up2_off (Or.inl (by decide)), e82, x_up2_off (Or.inl (by decide)), e81, x_up2_off (Or.inl (by decide))])
                                                            refine ⟨by rw [E70]; exact g1.eq (by rw [e92, x_up2_off (Or.inr (by decide)), e91, x_up2_off (Or.inr (by decide)), e90, x_up2_off (Or.inr (by decide)), e89, x_up2_off (Or.inr (by decide)), e88, x_up2_off (Or.inr (by decide)), e87, x_up2_off (Or.inr (by decide)), e86, x_up2_off (Or.inr (by decide)), e85, x_up2_off (Or.inr (by decide)), e84, x_up2_off (Or.inr (by decide)), e83, x_up2_off (Or.inr (by decide)), e82, x_up2_off (Or.inr (by decide)), e81, x_up2_off (Or.inr (by decide))]) (by rw [e92, x_up2_off (Or.inr (by decide)), e91, x_up2_off (Or.inr (by decide)), e90, x_up2_off (Or.inr (by decide)), e89, x_up2_off (Or.inr (by decide)), e88, x_up2_off (Or.inr (by decide)), e87, x_up2_off (Or.inr (by decide)), e86, x_up2_off (Or.inr (by decide)), e85, x_up2_off (Or.inr (by decide)), e84, x_up2_off (Or.inr (by decide)), e83, x_up2_off (Or.inr (by decide)), e82, x_up2_off (Or.inr (by decide)), e81, x_up2_off (Or.inr (by decide))]) E70 (funext fun j => by rw [e92, x_up2_off (Or.inl (by decide)), e91, x_up2_off (Or.inl (by decide)), e90, x_up2_off (Or.inl (by decide)), e89, x_up2_off (Or.inl (by decide)), e88, x_up2_off (Or.inl (by decide)), e87, x_up2_off (Or.inl (by decide)), e86, x_up2_off (Or.inl (by decide)), e85, x_up2_off (Or.inl (by decide)), e84, x_up2_off (Or.inl (by decide)), e83, x_up2_off (Or.inl (by decide)), e82, x_up2_off (Or.inl (by decide)), e81, x_up2_off (Or.inl (by decide))]) E90 (funext fun j => by rw [e92, x_up2_off (Or.inl (by decide)), e91, x_up2_off (Or.inl (by decide)), e90, x_up2_off (Or.inl (by decide)), e89, x_up2_off (Or.inl (by decide)), e88, x_up2_off (Or.inl (by decide)), e87, x_up2_off (Or.inl (by decide)), e86, x_up2_off (Or.inl (by decide)), e85, x_up2_off (Or.inl (by decide)), e84, x_up2_off (Or.inl (by decide)), e83, x_up2_off (Or.inl (by decide)), e82, x_up2_off (Or.inl (by decide)), e81, x_up2_off (Or.inl (by decide))]), g2.eq E90, fun _ => ⟨fun _ => 0, t_YS_0 (by rw [e92, x_up2_off (Or.inr (by decide)), e91, x_up2_off (Or.inr (by decide)), e90, x_up2_off (Or.inr (by decide)), e89, x_up2_off (Or.inr (by decide)), e88, x_up2_off (Or.inr (by decide)), e87, x_up2_off (Or.inr (by decide)), e86, x_up2_off (Or.inr (by decide)), e85, x_up2_at]; rfl) (fun k hk => by unfold t_si; rw [E90]; exact g3 k hk) (fun j hj => by rw [E99]; exact g4 j (by omega)), ?_, s_okz_0 (by show 0 ≤ (((D 2).toNat : Nat) : Int); omega), ?_⟩, fun hh => absurd (by rw [e92, x_up2_off (Or.inr (by decide)), e91, x_up2_at]; rfl) hh⟩
                                                            · rw [show (g92 69 59).toInt = 0 by rw [e92, x_up2_at]; rfl]; exact t_YB_0 (by rw [e92, x_up2_off (Or.inr (by decide)), e91, x_up2_off (Or.inr (by decide)), e90, x_up2_off (Or.inr (by decide)), e89, x_up2_off (Or.inr (by decide)), e88, x_up2_off (Or.inr (by decide)), e87, x_up2_off (Or.inr (by decide)), e86, x_up2_off (Or.inr (by decide)), e85, x_up2_off (Or.inr (by decide)), e84, x_up2_off (Or.inr (by decide)), e83, x_up2_off (Or.inr (by decide)), e82, x_up2_off (Or.inr (by decide)), e81, x_up2_at]; rfl) (by rw [e92, x_up2_off (Or.inr (by decide)), e91, x_up2_off (Or.inr (by decide)), e90, x_up2_off (Or.inr (by decide)), e89, x_up2_off (Or.inr (by decide)), e88, x_up2_off (Or.inr (by decide)), e87, x_up2_off (Or.inr (by decide)), e86, x_up2_off (Or.inr (by decide)), e85, x_up2_off (Or.inr (by decide)), e84, x_up2_off (Or.inr (by decide)), e83, x_up2_off (Or.inr (by decide)), e82, x_up2_at]; rfl) (by rw [e92, x_up2_off (Or.inr (by decide)), e91, x_up2_off (Or.inr (by decide)), e90, x_up2_off (Or.inr (by decide)), e89, x_up2_off (Or.inr (by decide)), e88, x_up2_off (Or.inr (by decide)), e87, x_up2_off (Or.inr (by decide)), e86, x_up2_off (Or.inr (by decide)), e85, x_up2_off (Or.inr (by decide)), e84, x_up2_off (Or.inr (by decide)), e83, x_up2_at]; rfl) (by rw [e92, x_up2_off (Or.inr (by decide)), e91, x_up2_off (Or.inr (by decide)), e90, x_up2_off (Or.inr (by decide)), e89, x_up2_off (Or.inr (by decide)), e88, x_up2_off (Or.inr (by decide)), e87, x_up2_off (Or.inr (by decide)), e86, x_up2_off (Or.inr (by decide)), e85, x_up2_off (Or.inr (by decide)), e84, x_up2_at]; rfl) (by rw [e92, x_up2_off (Or.inr (by decide)), e91, x_up2_off (Or.inr (by decide)), e90, x_up2_off (Or.inr (by decide)), e89, x_up2_off (Or.inr (by decide)), e88, x_up2_off (Or.inr (by decide)), e87, x_up2_off (Or.inr (by decide)), e86, x_up2_at]; rfl) (by rw [e92, x_up2_off (Or.inr (by decide)), e91, x_up2_off (Or.inr (by decide)), e90, x_up2_off (Or.inr (by decide)), e89, x_up2_off (Or.inr (by decide)), e88, x_up2_off (Or.inr (by decide)), e87, x_up2_at]; rfl) (by rw [e92, x_up2_off (Or.inr (by decide)), e91, x_up2_off (Or.inr (by decide)), e90, x_up2_off (Or.inr (by decide)), e89, x_up2_off (Or.inr (by decide)), e88, x_up2_at]; rfl)
                                                            · rw [show (g92 69 59).toInt = 0 by rw [e92, x_up2_at]; rfl]; rfl)) rfl
              · have u123 : y77_2.toInt ≤ 5 := t_ltu (t_nle h79) (by decide : (6:Int32).toInt ≤ (6:Int)) rfl
                refine ev_loc f_X12_keeps (nx := 98) rfl rfl rfl rfl ?_
                refine ev_getR f_X12_keeps (nx := 101) rfl (hI.wf.s rfl) rfl rfl (hI.wf.r rfl) rfl rfl ?_
                refine ev_loc f_X12_keeps (nx := 102) rfl rfl rfl rfl ?_
                refine ev_ic f_X12_keeps (nx := 103) (v := 0) rfl (by decide) rfl ?_
                refine ev_zastE f_X12_keeps (nx := 104) rfl (hI.wf.s rfl) l77_2 (by decide) u123 (by decide) rfl (fun x l u => hI.astL (hI.wf.s rfl) (by decide +kernel : t_abw 99 0 5 0 1 = true) (t_cl1 l77_2 (by decide)) (t_cl2 l77_2 u123 (by decide) (by decide)) l u rfl) (fun x => hX.upI (t_inA_ok rfl)) (fun g124 x124 e124 ex124 hI hX => ?_)
                refine ev_incR f_X12_keeps (nx := 107) (c := 1) (l := 1) (u := 6) rfl rfl (by decide) (by decide) l77_2 u123 rfl rfl (by decide) (by decide) rfl (fun z125 e125 l125 u125 => ?_)
                refine ev_jmp f_X12_keeps (nx := 91) rfl rfl rfl ?_
                refine ev_sub (lo := [(2, .int z125), (0, .ref 69), (1, .int ar1)]) rfl (t_sc rfl (t_sc rfl (t_sc rfl t_sn))) ?_
                exact ih77 _ (by omega) g124 gl77 gr77 (z125) hI hX  (Int.le_trans (by decide : (0:Int) ≤ 1) l125) u125 ((by rw [e124]; exact x_up2_off (Or.inl (by decide)) : g124 69 46 = gi77 69 46).trans c77_0) ((by rw [e124]; exact x_up2_off (Or.inl (by decide)) : g124 69 59 = gi77 69 59).trans c77_1) ((by rw [e124]; exact x_up2_off (Or.inl (by decide)) : g124 69 69 = gi77 69 69).trans c77_2) ((by rw [e124]; exact x_up2_off (Or.inl (by decide)) : g124 70 1 = gi77 70 1).trans c77_3) ((by rw [e124]; exact x_up2_off (Or.inl (by decide)) : g124 70 2 = gi77 70 2).trans c77_4) ((by rw [e124]; exact x_up2_off (Or.inl (by decide)) : g124 70 4 = gi77 70 4).trans c77_5) (by have hq := ((by rw [e124]; exact x_up2_ne (by decide) : g124 70 = gi77 70)); rw [hq]; exact j77_0) (fun D R hm hb hd h46 hsd hQ hcr => (by
                                                            obtain ⟨g1, g2, g3, g4⟩ := j77_1 D R hm hb hd h46 hsd hQ hcr
                                                            have E70 : g124 70 = gi77 70 := (funext fun j => by rw [e124, x_up2_off (Or.inl (by decide))])
                                                            have E90 : g124 90 = gi77 90 := (funext fun j => by rw [e124, x_up2_off (Or.inl (by decide))])
                                                            refine ⟨by rw [E70]; exact g1.eq (by rw [e124, x_up2_off (Or.inl (by decide))]) (by rw [e124, x_up2_off (Or.inl (by decide))]) E70 (funext fun j => by rw [e124, x_up2_off (Or.inl (by decide))]) E90 (funext fun j => by rw [e124, x_up2_off (Or.inl (by decide))]), g2.eq E90, fun k hk => by unfold t_si; rw [E90]; exact g3 k hk, fun j hj => ?_⟩
                                                            have cy := t_clamp (i := y77_2) (by omega)
                                                            by_cases h : j = y77_2.toNatClampNeg
                                                            · rw [e124, h, x_up2_at]; first | rfl | (rw [ex124]; rfl) | (rw [ex124]; decide)
                                                            · rw [e124, x_up2_off (Or.inr h)]; exact g4 j (by omega))) rfl
            refine ev_sub (lo := [(2, .int 0), (0, .ref 69), (1, .int ar1)]) rfl (t_sc rfl (t_sc rfl (t_sc rfl t_sn))) ?_
            exact L77 _ gi75 gl75 gr75 (0) hI hX  (by decide : (0:Int) ≤ (0:Int32).toInt) (Int.le_trans (by decide : (0:Int32).toInt ≤ (0:Int)) (by decide : (0:Int) ≤ 6)) ((hC75.1 69 46 rfl).1.trans c13_0) ((hC75.1 69 59 rfl).1.trans c13_1) ((hC75.1 69 69 rfl).1.trans c13_2) ((hC75.1 70 1 rfl).1.trans c13_3) ((hC75.1 70 2 rfl).1.trans rfl) ((hC75.1 70 4 rfl).1.trans c13_4) (by have hq := ((funext (fun j => (hC75.1 70 j rfl).1) : gi75 70 = gi13 70)); rw [hq]; exact j13_0) (fun D R hm hb hd h46 hsd hQ hcr => (by
                                                            have b1 := hb.2.1
                                                            have b2 := hb.2.2
                                                            have k70 : ∀ j : Nat, (j : Int) < D 1 → (gi 70 (53 + 5 * j)).toInt = s_A D j := fun j hj => by have hh := hm.2.2.1 (53 + 5 * j) (by omega) (by omega); rw [Nat.zero_add] at hh; exact hh
                                                            have c70 : ∀ j : Nat, (j : Int) < D 2 → (gi 70 (82 + 3 * j)).toInt = s_B D j := fun j hj => by have hh := hm.2.2.2 (82 + 3 * j) (by omega) (by omega); rw [Nat.zero_add] at hh; exact hh
                                                            have fn := t_F_X hX47_13
                                                            have E70 : gi13 70 = gi 70 := t_F_nc fn rfl (by decide)
                                                            have d1 : (gi13 70 1).toInt = D 1 := by rw [E70]; exact hm.1.1.2.1
                                                            have d2 : (gi13 70 2).toInt = D 2 := by rw [E70]; exact hm.1.1.2.2
                                                            obtain ⟨g1, g2, g3, g4⟩ := j13_1 D R hm hb hd h46 hsd hQ hcr
                                                            have z0 : (0 : Int32).toInt = 0 := rfl
                                                            have cy := t_clamp (i := y13_2) (by omega)
                                                            have hB : ∀ j : Nat, (j : Int) < D 2 → (gi13 89 (6 + j)).toInt = s_By D ar1.toInt j := fun j hj => by
                                                              rw [g4 j hj]; show _ = s_B D j + s_dl ar1.toInt ((D 1).toNat + j)
                                                              by_cases hs : ar1.toInt = -1
                                                              · rw [s_dl_n hs]; split <;> rfl
                                                              · rw [if_pos (by omega)]
                                                            have hmn : t_ME 0 gi13 D := hm.mv hb (fun j _ _ _ => congrFun E70 (0 + j))
                                                            have m46 : (gi13 69 46).toInt = -1 := by rw [(fn 69 46 (by decide) rfl).1]; exact h46
                                                            have hS := q75.2.2.1 D _ hmn hb g3
                                                            have hC := q75.2.2.2 D _ hmn hb hB
                                                            rw [m46] at hC
                                                            have hSa := s_mk_all (A := s_Ay D ar1.toInt) (D 1).toNat (by omega)
                                                            have hCa := s_ff_all (s_By D ar1.toInt) (s_ck (-1)) (D 2).toNat (fun j _ => s_ck_y (by omega))
                                                            have r1 := s_RO_F _ hSa hS.2
                                                            have r2 := s_RO_F _ hCa hC.2
                                                            have E44 := hS.1
                                                            rw [hSa.1] at E44
                                                            have E45 := hC.1
                                                            rw [hCa.1] at E45
                                                            have E70c : gi75 70 = gi 70 := (funext fun j => q75.1 j).trans E70
                                                            have hmc : t_ME 0 gi75 D := hm.mv hb (fun j _ _ _ => congrFun E70c (0 + j))
                                                            refine ⟨s_TP_Y hb hd (by rw [E70c]; exact hm.1.2.1) hmc (by omega) (by omega) r1 r2 (fun j hj => by rw [q75.2.1]; exact g3 j hj) (fun j hj => by rw [q75.2.1]; exact hB j hj), t_IJ_Y r1, fun k hk => ?_, fun j hj => absurd hj (by omega)⟩
                                                            have hk1 : k < (D 1).toNat := Int.ofNat_lt.mp (show (k : Int) < (((D 1).toNat : Nat) : Int) by have h9 : k < (((D 1).toNat : Nat) : Int).toNat := hk; omega)
                                                            have h9 := s_or_lt (s_Ay D ar1.toInt) _ _ hk1
                                                            have e9 : t_si gi75 k = s_or (s_Ay D ar1.toInt) (D 1).toNat k := by unfold t_si; rw [r1 k hk1]; rfl
                                                            rw [e9]; omega)) rfl
          · have r126 : ar1.toInt ≠ (-1) := fun e => h72 (Int32.toInt_inj.mp (e.trans (by decide : ((-1):Int) = ((-1) : Int32).toInt)))
            refine ev_loc f_X12_keeps (nx := 63) rfl rfl rfl rfl ?_
            refine ev_getR f_X12_keeps (nx := 66) rfl (hI.wf.s rfl) rfl rfl (hI.wf.r rfl) rfl rfl ?_
            refine ev_bp f_X12_keeps (nx := 68) (v := 6) rfl (by decide) rfl ?_
            refine ev_loc f_X12_keeps (nx := 69) rfl rfl rfl rfl ?_
            refine ev_addK f_X12_keeps (nx := 70) (c := 6) (l := 6) (u := 11) rfl (by decide) l13_2 u70 rfl rfl (by decide) (by decide) rfl (fun z127 e127 l127 u127 => ?_)
            refine ev_alu f_X12_keeps (nx := 71) rfl rfl rfl rfl ?_
            refine ev_ialdT f_X12_keeps (nx := 72) rfl (hI.wf.s rfl) l127 (by decide) u127 (by decide) rfl (fun w128 e128 => ?_)
            refine ev_loc f_X12_keeps (nx := 73) rfl rfl rfl rfl ?_
            refine ev_qI f_X12_keeps (nx := 76) (r := [.int w128, .int z127, .ref 89]) rfl rfl rfl rfl rfl rfl rfl (c_y_draw hI ) rfl hX rfl (fun w129 gi129 gl129 gr129 l129 u129 hI hX hC129 q129 => ?_)
            have q129 : (∀ a : Int, (gi13 69 58).toInt = a → 0 ≤ a → a < 65536 → (gi129 69 58).toInt = s_dr1 a ∧ w129.toInt = s_dr1 a / 8 % 8) := q129
            refine ev_anyIE f_X12_keeps (nx := 77) rfl rfl rfl rfl (fun z131 e131 => ?_)
            refine ev_iastT f_X12_keeps (nx := 78) rfl (hI.wf.s rfl) l127 (by decide) u127 (by decide) rfl (hI.astG (hI.wf.s rfl) (fun lo hi e => absurd e (t_nob (by decide +kernel) _)) (fun k hk e => by have := hk.2.1; omega)) (hX.upI (t_inR (p := 6) (m := 11) rfl l127 (by decide) u127 (by decide) (by decide))) (fun g132 e132 hI hX => ?_)
            refine ev_incR f_X12_keeps (nx := 81) (c := 1) (l := 1) (u := 6) rfl rfl (by decide) (by decide) l13_2 u70 rfl rfl (by decide) (by decide) rfl (fun z133 e133 l133 u133 => ?_)
            refine ev_jmp f_X12_keeps (nx := 47) rfl rfl rfl ?_
            refine ev_sub (lo := [(2, .int z133), (0, .ref 69), (1, .int ar1)]) rfl (t_sc rfl (t_sc rfl (t_sc rfl t_sn))) ?_
            exact ih13 _ (by omega) g132 gl129 gr129 (z133) hI hX  (Int.le_trans (by decide : (0:Int) ≤ 1) l133) u133 ((by rw [e132]; exact x_up2_off (Or.inl (by decide)) : g132 69 46 = gi129 69 46).trans ((hC129.1 69 46 rfl).1.trans c13_0)) ((by rw [e132]; exact x_up2_off (Or.inl (by decide)) : g132 69 59 = gi129 69 59).trans ((hC129.1 69 59 rfl).1.trans c13_1)) ((by rw [e132]; exact x_up2_off (Or.inl (by decide)) : g132 69 69 = gi129 69 69).trans ((hC129.1 69 69 rfl).1.trans c13_2)) ((by rw [e132]; exact x_up2_off (Or.inl (by decide)) : g132 70 1 = gi129 70 1).trans ((hC129.1 70 1 rfl).1.trans c13_3)) ((by rw [e132]; exact x_up2_off (Or.inl (by decide)) : g132 70 4 = gi129 70 4).trans ((hC129.1 70 4 rfl).1.trans c13_4)) (by have hq := ((by rw [e132]; exact x_up2_ne (by decide) : g132 70 = gi129 70).trans ((funext (fun j => (hC129.1 70 j rfl).1) : gi129 70 = gi13 70))); rw [hq]; exact j13_0) (fun D R hm hb hd h46 hsd hQ hcr => (by
                                                            have b1 := hb.2.1
                                                            have b2 := hb.2.2
                                                            have k70 : ∀ j : Nat, (j : Int) < D 1 → (gi 70 (53 + 5 * j)).toInt = s_A D j := fun j hj => by have hh := hm.2.2.1 (53 + 5 * j) (by omega) (by omega); rw [Nat.zero_add] at hh; exact hh
                                                            have c70 : ∀ j : Nat, (j : Int) < D 2 → (gi 70 (82 + 3 * j)).toInt = s_B D j := fun j hj => by have hh := hm.2.2.2 (82 + 3 * j) (by omega) (by omega); rw [Nat.zero_add] at hh; exact hh
                                                            have fn := t_F_X hX47_13
                                                            have E70 : gi13 70 = gi 70 := t_F_nc fn rfl (by decide)
                                                            have d1 : (gi13 70 1).toInt = D 1 := by rw [E70]; exact hm.1.1.2.1
                                                            have d2 : (gi13 70 2).toInt = D 2 := by rw [E70]; exact hm.1.1.2.2
                                                            obtain ⟨g1, g2, g3, g4⟩ := j13_1 D R hm hb hd h46 hsd hQ hcr
                                                            have hs1 : ar1.toInt ≠ -1 := by omega
                                                            have g1 := g1.resolve_left hs1
                                                            have cy := t_clamp (i := y13_2) (by omega)
                                                            have hdb := s_drw_b (v := ar1.toInt) (by omega) (by omega) ((D 1).toNat + y13_2.toNatClampNeg)
                                                            obtain ⟨w1, w2⟩ := q129 _ g1 hdb.1 hdb.2
                                                            have hdl : w129.toInt = s_dl ar1.toInt ((D 1).toNat + y13_2.toNatClampNeg) := by rw [s_dl_y hs1]; exact w2
                                                            have hlb := s_dl_b (seed := ar1.toInt) (n := ((D 1).toNat + y13_2.toNatClampNeg))
                                                            have hAb := hd.2.1 y13_2.toNatClampNeg (by omega)
                                                            have hA5 : 0 ≤ s_B D y13_2.toNatClampNeg ∧ s_B D y13_2.toNatClampNeg ≤ 500 := hAb.1
                                                            have hold := g4 y13_2.toNatClampNeg (by omega)
                                                            rw [if_neg (by omega)] at hold
                                                            have ci := t_clamp (i := z127) (by omega)
                                                            have hw : w128.toInt = s_B D y13_2.toNatClampNeg := by rw [e128, show z127.toNatClampNeg = 6 + y13_2.toNatClampNeg by omega]; omega
                                                            have hz : z131.toInt = s_By D ar1.toInt y13_2.toNatClampNeg := s_add e131 hw hdl (by omega)
                                                            have csi := t_clamp (i := z127) (by omega)
                                                            have hat : z127.toNatClampNeg = (6 + y13_2.toNatClampNeg) := by omega
                                                            have hst : ∀ j, g132 89 j = if j = (6 + y13_2.toNatClampNeg) then z131 else gi129 89 j := fun j => by rw [e132, hat]; by_cases hj : j = (6 + y13_2.toNatClampNeg); (rw [if_pos hj, hj, x_up2_at]); (rw [if_neg hj, x_up2_off (Or.inr hj)])
                                                            have E89 : gi129 89 = gi13 89 := t_F_nc (t_F_X hC129) rfl (by decide)
                                                            have ex : z133.toNatClampNeg = y13_2.toNatClampNeg + 1 := by have := t_clamp (i := z133) (by omega); omega
                                                            have E58 : (g132 69 58).toInt = s_drw ar1.toInt (((D 1).toNat + y13_2.toNatClampNeg) + 1) := by rw [e132, x_up2_off (Or.inl (by decide))]; exact w1
                                                            have hif : ∀ (j : Nat) (v : Int), j ≠ y13_2.toNatClampNeg → (if (j : Int) < z133.toInt then v else 0) = (if (j : Int) < y13_2.toInt then v else 0) := fun j v hj => by by_cases h2 : (j : Int) < y13_2.toInt; (rw [if_pos h2, if_pos (by omega)]); (rw [if_neg h2, if_neg (by omega)])
                                                            refine ⟨Or.inr (by rw [ex]; exact E58), by omega, fun j hj => by rw [hst, if_neg (by omega), E89]; exact g3 j hj, fun j hj => ?_⟩
                                                            rw [hst (6 + j)]
                                                            by_cases h : j = y13_2.toNatClampNeg
                                                            · rw [h, if_pos rfl, hz, if_pos (by omega)]; rfl
                                                            · rw [if_neg (by omega), E89, g4 j hj, hif j _ h])) rfl
      refine ev_sub (lo := [(2, .int 0), (0, .ref 69), (1, .int ar1)]) rfl (t_sc rfl (t_sc rfl (t_sc rfl t_sn))) ?_
      exact L13 _ gi8 gl8 gr8 (0) hI hX  (by decide : (0:Int) ≤ (0:Int32).toInt) (Int.le_trans (by decide : (0:Int32).toInt ≤ (0:Int)) (by decide : (0:Int) ≤ 6)) c8_0 c8_1 c8_2 rfl c8_3 j8_0 (fun D R hm hb hd h46 hsd hQ hcr => (by
                                                            have b1 := hb.2.1
                                                            have b2 := hb.2.2
                                                            have k70 : ∀ j : Nat, (j : Int) < D 1 → (gi 70 (53 + 5 * j)).toInt = s_A D j := fun j hj => by have hh := hm.2.2.1 (53 + 5 * j) (by omega) (by omega); rw [Nat.zero_add] at hh; exact hh
                                                            have c70 : ∀ j : Nat, (j : Int) < D 2 → (gi 70 (82 + 3 * j)).toInt = s_B D j := fun j hj => by have hh := hm.2.2.2 (82 + 3 * j) (by omega) (by omega); rw [Nat.zero_add] at hh; exact hh
                                                            have fn := t_F_X hX11_8
                                                            have E70 : gi8 70 = gi 70 := t_F_nc fn rfl (by decide)
                                                            have d1 : (gi8 70 1).toInt = D 1 := by rw [E70]; exact hm.1.1.2.1
                                                            have d2 : (gi8 70 2).toInt = D 2 := by rw [E70]; exact hm.1.1.2.2
                                                            obtain ⟨g1, g2, g3, g4⟩ := j8_1 D R hm hb hd h46 hsd hQ hcr
                                                            have z0 : (0 : Int32).toInt = 0 := rfl
                                                            have cy := t_clamp (i := y8_2) (by omega)
                                                            refine ⟨?_, by omega, fun j hj => ?_, fun j hj => by rw [if_neg (by omega), g4 j hj]; omega⟩
                                                            · by_cases hs : ar1.toInt = -1
                                                              · exact Or.inl hs
                                                              · right; rw [g1, show y8_2.toNatClampNeg = (D 1).toNat by omega]; rfl
                                                            · rw [g3 j hj]; show _ = s_A D j + s_dl ar1.toInt j
                                                              by_cases hs : ar1.toInt = -1
                                                              · rw [s_dl_n hs]; split <;> rfl
                                                              · rw [if_pos (by omega)])) rfl
    · have r134 : y8_2.toInt < (gi8 70 1).toInt := Int32.lt_iff_toInt_lt.mp (t_nle h11)
      have u135 : y8_2.toInt ≤ 5 := t_ltu (t_nle h11) u10 rfl
      have l136 : 1 ≤ (gi8 70 1).toInt := t_ltl (t_nle h11) l8_2 rfl
      refine ev_loc f_X12_keeps (nx := 22) rfl rfl rfl rfl ?_
      refine ev_ic f_X12_keeps (nx := 23) (v := -1) rfl (by decide) rfl ?_
      refine ev_if f_X12_keeps (t1 := 45) (t2 := 26) rfl rfl rfl (fun h137 => ?_) (fun h137 => ?_)
      · have u138 : ar1.toInt ≤ (-1) := t_equ h137 (by decide : ((-1):Int32).toInt ≤ ((-1):Int))
        have l139 : (-1) ≤ ar1.toInt := t_eql h137 (by decide : ((-1):Int) ≤ ((-1):Int32).toInt)
        refine ev_ic f_X12_keeps (nx := 46) (v := 0) rfl (by decide) rfl ?_
        refine ev_loc f_X12_keeps (nx := 47) (lo' := [(2, .int 0), (0, .ref 69), (1, .int ar1)]) rfl rfl rfl rfl ?_
        have L140 : ∀ (m140 : Nat) (gi140 : Nat → Nat → Int32) (gl140 : Nat → Nat → Int64) (gr140 : Nat → Nat → Value) (y140_2 : Int32), t_I sh gi140 gr140 → t_X wl_y_keeps sh gi gl gr gi140 gl140 gr140 → 0 ≤ y140_2.toInt → y140_2.toInt ≤ 6 → gi140 69 46 = (gi 69 46) → gi140 69 59 = (gi 69 59) → gi140 69 69 = (gi 69 69) → gi140 70 1 = (gi8 70 1) → gi140 70 4 = (gi 70 4) → t_rpn (gi140 70) 0 → (∀ (D : s_D) (R : List (List Int × Int)), t_ME 0 gi D → t_Cb D → s_DB D → (gi 69 46).toInt = -1 → (-1 ≤ ar1.toInt ∧ ar1.toInt ≤ 9999) → t_MQ (gi 70) R → s_crs R → (ar1.toInt = -1 ∨ (gi140 69 58).toInt = s_drw ar1.toInt ((D 1).toNat + y140_2.toNatClampNeg)) ∧ y140_2.toInt ≤ D 2 ∧ (∀ j : Nat, (j : Int) < D 1 → (gi140 89 j).toInt = s_Ay D ar1.toInt j) ∧ ∀ j : Nat, (j : Int) < D 2 → (gi140 89 (6 + j)).toInt = s_B D j + (if (j : Int) < y140_2.toInt then s_dl ar1.toInt ((D 1).toNat + j) else 0)) → (6 - y140_2.toInt).toNat = m140 → x_Ev X (d + 6) n_X12_keeps 47 [(2, .int y140_2), (0, .ref 69), (1, .int ar1)] [] (sh, gi140, gl140, gr140) (t_PN wl_y_keeps sh gi gl gr (Q_y_keeps gi gl gr ar1)) := by
          intro m140
          induction m140 using Nat.strongRecOn with
          | _ m140 ih140 =>
          intro gi140 gl140 gr140 y140_2 hI hX l140_2 u140_2 c140_0 c140_1 c140_2 c140_3 c140_4 j140_0 j140_1 hm140
          refine ev_loc f_X12_keeps (nx := 48) rfl rfl rfl rfl ?_
          have hX47_140 := hX
          refine ev_loc f_X12_keeps (nx := 49) rfl rfl rfl rfl ?_
          refine ev_getR f_X12_keeps (nx := 52) rfl (hI.wf.s rfl) rfl rfl (hI.wf.r rfl) rfl rfl ?_
          refine ev_ic f_X12_keeps (nx := 53) (v := 2) rfl (by decide) rfl ?_
          obtain ⟨l142, u142⟩ := hI.ab (by decide +kernel : t_abr 70 2 2 0 6 = true) (Nat.le_refl _) (Nat.le_refl _)
          refine ev_ialdv f_X12_keeps (nx := 54) (w := (gi140 70 2)) rfl (hI.wf.s rfl) (by decide) (rfl : (2 : Int32).toNatClampNeg = 2) (by decide) rfl rfl ?_
          refine ev_if f_X12_keeps (t1 := 84) (t2 := 57) rfl rfl rfl (fun h143 => ?_) (fun h143 => ?_)
          · have r144 : (gi140 70 2).toInt ≤ y140_2.toInt := Int32.le_iff_toInt_le.mp h143
            refine ev_loc f_X12_keeps (nx := 85) rfl rfl rfl rfl ?_
            refine ev_ic f_X12_keeps (nx := 86) (v := 0) rfl (by decide) rfl ?_
            refine ev_qN f_X12_keeps (nx := 89) (r := []) rfl rfl rfl rfl rfl rfl rfl (c_n_ordersG hI (0)) rfl hX rfl (fun gi145 gl145 gr145 hI hX hC145 q145 => ?_)
            have ff146 : (gi140 69 46).toInt = (gi 69 46).toInt := congrArg Int32.toInt c140_0
            have q145 : (∀ j, gi145 70 j = gi140 70 j) ∧ (∀ j, gi145 89 j = gi140 89 j) ∧ (∀ (D : s_D) (A : Nat → Int), t_ME 0 gi140 D → t_Cb D → (∀ j : Nat, (j : Int) < D 1 → (gi140 89 j).toInt = A j) → (gi145 69 44).toInt = ((s_fn (s_mk (0 : Int32)) (D 1).toNat : Nat) : Int) ∧ s_RF (s_ff A (s_mk (0 : Int32)) (D 1).toNat) (fun k => (k : Int)) (gi145 90) (s_fn (s_mk (0 : Int32)) (D 1).toNat)) ∧ (∀ (D : s_D) (A : Nat → Int), t_ME 0 gi140 D → t_Cb D → (∀ j : Nat, (j : Int) < D 2 → (gi140 89 (6 + j)).toInt = A j) → (gi145 69 45).toInt = ((s_fn (s_ck (gi140 69 46).toInt) (D 2).toNat : Nat) : Int) ∧ s_RF (s_ff A (s_ck (gi140 69 46).toInt) (D 2).toNat) (fun k => (k : Int)) (gi145 91) (s_fn (s_ck (gi140 69 46).toInt) (D 2).toNat)) := q145
            refine ev_ic f_X12_keeps (nx := 90) (v := 0) rfl (by decide) rfl ?_
            refine ev_loc f_X12_keeps (nx := 91) (lo' := [(2, .int 0), (0, .ref 69), (1, .int ar1)]) rfl rfl rfl rfl ?_
            have L147 : ∀ (m147 : Nat) (gi147 : Nat → Nat → Int32) (gl147 : Nat → Nat → Int64) (gr147 : Nat → Nat → Value) (y147_2 : Int32), t_I sh gi147 gr147 → t_X wl_y_keeps sh gi gl gr gi147 gl147 gr147 → 0 ≤ y147_2.toInt → y147_2.toInt ≤ 6 → gi147 69 46 = (gi 69 46) → gi147 69 59 = (gi 69 59) → gi147 69 69 = (gi 69 69) → gi147 70 1 = (gi8 70 1) → gi147 70 2 = (gi140 70 2) → gi147 70 4 = (gi 70 4) → t_rpn (gi147 70) 0 → (∀ (D : s_D) (R : List (List Int × Int)), t_ME 0 gi D → t_Cb D → s_DB D → (gi 69 46).toInt = -1 → (-1 ≤ ar1.toInt ∧ ar1.toInt ≤ 9999) → t_MQ (gi 70) R → s_crs R → s_TP gi147 (gi147 70 4).toInt (s_PY D ar1.toInt) ∧ t_IJ ((s_PY D ar1.toInt) 0 0).toNat gi147 ∧ (∀ k : Nat, k < ((s_PY D ar1.toInt) 0 0).toNat → t_si gi147 k < 6) ∧ ∀ j : Nat, (j : Int) < y147_2.toInt → (gi147 99 j).toInt = 0) → (6 - y147_2.toInt).toNat = m147 → x_Ev X (d + 6) n_X12_keeps 91 [(2, .int y147_2), (0, .ref 69), (1, .int ar1)] [] (sh, gi147, gl147, gr147) (t_PN wl_y_keeps sh gi gl gr (Q_y_keeps gi gl gr ar1)) := by
              intro m147
              induction m147 using Nat.strongRecOn with
              | _ m147 ih147 =>
              intro gi147 gl147 gr147 y147_2 hI hX l147_2 u147_2 c147_0 c147_1 c147_2 c147_3 c147_4 c147_5 j147_0 j147_1 hm147
              refine ev_loc f_X12_keeps (nx := 92) rfl rfl rfl rfl ?_
              have hX91_147 := hX
              refine ev_bp f_X12_keeps (nx := 94) (v := 6) rfl (by decide) rfl ?_
              refine ev_if f_X12_keeps (t1 := 110) (t2 := 97) rfl rfl rfl (fun h149 => ?_) (fun h149 => ?_)
              · have l150 : 6 ≤ y147_2.toInt := t_lel h149 (by decide : (6:Int) ≤ (6:Int32).toInt)
                refine ev_loc f_X12_keeps (nx := 111) rfl rfl rfl rfl ?_
                refine ev_ic f_X12_keeps (nx := 112) (v := 0) rfl (by decide) rfl ?_
                refine ev_putIT f_X12_keeps (nx := 115) rfl (hI.wf.s rfl) rfl rfl rfl (hI.put0 (hI.wf.s rfl) rfl rfl) (hX.upI rfl) (fun g151 e151 hI hX => ?_)
                refine ev_loc f_X12_keeps (nx := 116) rfl rfl rfl rfl ?_
                refine ev_ic f_X12_keeps (nx := 117) (v := -1) rfl (by decide) rfl ?_
                refine ev_putIT f_X12_keeps (nx := 120) rfl (hI.wf.s rfl) rfl rfl rfl (hI.put0 (hI.wf.s rfl) rfl rfl) (hX.upI rfl) (fun g152 e152 hI hX => ?_)
                refine ev_loc f_X12_keeps (nx := 121) rfl rfl rfl rfl ?_
                refine ev_ic f_X12_keeps (nx := 122) (v := -1) rfl (by decide) rfl ?_
                refine ev_putIT f_X12_keeps (nx := 125) rfl (hI.wf.s rfl) rfl rfl rfl (hI.put0 (hI.wf.s rfl) rfl rfl) (hX.upI rfl) (fun g153 e153 hI hX => ?_)
                refine ev_loc f_X12_keeps (nx := 126) rfl rfl rfl rfl ?_
                refine ev_ic f_X12_keeps (nx := 127) (v := 0) rfl (by decide) rfl ?_
                refine ev_putIT f_X12_keeps (nx := 130) rfl (hI.wf.s rfl) rfl rfl rfl (hI.put0 (hI.wf.s rfl) rfl rfl) (hX.upI rfl) (fun g154 e154 hI hX => ?_)
                refine ev_loc f_X12_keeps (nx := 131) rfl rfl rfl rfl ?_
                refine ev_ic f_X12_keeps (nx := 132) (v := 0) rfl (by decide) rfl ?_
                refine ev_putIT f_X12_keeps (nx := 135) rfl (hI.wf.s rfl) rfl rfl rfl (hI.putB (hI.wf.s rfl) rfl rfl (by decide : (0:Int) ≤ (0:Int32).toInt) (by decide) (by decide : (0:Int32).toInt ≤ (0:Int)) (by decide)) (hX.upI rfl) (fun g155 e155 hI hX => ?_)
                refine ev_loc f_X12_keeps (nx := 136) rfl rfl rfl rfl ?_
                refine ev_ic f_X12_keeps (nx := 137) (v := 0) rfl (by decide) rfl ?_
                refine ev_putIT f_X12_keeps (nx := 140) rfl (hI.wf.s rfl) rfl rfl rfl (hI.putB (hI.wf.s rfl) rfl rfl (by decide : (0:Int) ≤ (0:Int32).toInt) (by decide) (by decide : (0:Int32).toInt ≤ (0:Int)) (by decide)) (hX.upI rfl) (fun g156 e156 hI hX => ?_)
                refine ev_loc f_X12_keeps (nx := 141) rfl rfl rfl rfl ?_
                refine ev_ic f_X12_keeps (nx := 142) (v := 0) rfl (by decide) rfl ?_
                refine ev_putIT f_X12_keeps (nx := 145) rfl (hI.wf.s rfl) rfl rfl rfl (hI.put0 (hI.wf.s rfl) rfl rfl) (hX.upI rfl) (fun g157 e157 hI hX => ?_)
                refine ev_loc f_X12_keeps (nx := 146) rfl rfl rfl rfl ?_
                refine ev_ic f_X12_keeps (nx := 147) (v := 0) rfl (by decide) rfl ?_
                refine ev_putIT f_X12_keeps (nx := 150) rfl (hI.wf.s rfl) rfl rfl rfl (hI.put0 (hI.wf.s rfl) rfl rfl) (hX.upI rfl) (fun g158 e158 hI hX => ?_)
                refine ev_loc f_X12_keeps (nx := 151) rfl rfl rfl rfl ?_
                refine ev_ic f_X12_keeps (nx := 152) (v := 0) rfl (by decide) rfl ?_
                refine ev_putIT f_X12_keeps (nx := 155) rfl (hI.wf.s rfl) rfl rfl rfl (hI.put0 (hI.wf.s rfl) rfl rfl) (hX.upI rfl) (fun g159 e159 hI hX => ?_)
                refine ev_loc f_X12_keeps (nx := 156) rfl rfl rfl rfl ?_
                refine ev_ic f_X12_keeps (nx := 157) (v := 0) rfl (by decide) rfl ?_
                refine ev_putIT f_X12_keeps (nx := 160) rfl (hI.wf.s rfl) rfl rfl rfl (hI.put0 (hI.wf.s rfl) rfl rfl) (hX.upI rfl) (fun g160 e160 hI hX => ?_)
                refine ev_loc f_X12_keeps (nx := 161) rfl rfl rfl rfl ?_
                refine ev_ic f_X12_keeps (nx := 162) (v := -1) rfl (by decide) rfl ?_
                refine ev_putIT f_X12_keeps (nx := 165) rfl (hI.wf.s rfl) rfl rfl rfl (hI.put0 (hI.wf.s rfl) rfl rfl) (hX.upI rfl) (fun g161 e161 hI hX => ?_)
                refine ev_loc f_X12_keeps (nx := 166) rfl rfl rfl rfl ?_
                refine ev_ic f_X12_keeps (nx := 167) (v := 0) rfl (by decide) rfl ?_
                refine ev_putIT f_X12_keeps (nx := 170) rfl (hI.wf.s rfl) rfl rfl rfl (hI.putB (hI.wf.s rfl) rfl rfl (by decide : (0:Int) ≤ (0:Int32).toInt) (by decide) (by decide : (0:Int32).toInt ≤ (0:Int)) (by decide)) (hX.upI rfl) (fun g162 e162 hI hX => ?_)
                have L163 : ∀ (m163 : Nat) (gi163 : Nat → Nat → Int32) (gl163 : Nat → Nat → Int64) (gr163 : Nat → Nat → Value), t_I sh gi163 gr163 → t_X wl_y_keeps sh gi gl gr gi163 gl163 gr163 → gi163 69 46 = (gi 69 46) → gi163 70 1 = (gi8 70 1) → gi163 70 2 = (gi140 70 2) → gi163 70 4 = (gi 70 4) → t_rpn (gi163 70) 0 → (∀ (D : s_D) (R : List (List Int × Int)), t_ME 0 gi D → t_Cb D → s_DB D → (gi 69 46).toInt = -1 → (-1 ≤ ar1.toInt ∧ ar1.toInt ≤ 9999) → t_MQ (gi 70) R → s_crs R → s_TP gi163 (gi163 70 4).toInt (s_PY D ar1.toInt) ∧ t_IJ ((s_PY D ar1.toInt) 0 0).toNat gi163 ∧ ((gi163 69 69).toInt = -1 → t_YD (s_PY D ar1.toInt) (fun F => s_ac F R) (gi163 69 59).toInt gi163) ∧ ((gi163 69 69).toInt ≠ -1 → t_YR (s_PY D ar1.toInt) (fun F => s_ac F R) gi163)) → (301 - (gi163 69 59).toInt).toNat = m163 → x_Ev X (d + 6) n_X12_keeps 170 [(2, .int y147_2), (0, .ref 69), (1, .int ar1)] [] (sh, gi163, gl163, gr163) (t_PN wl_y_keeps sh gi gl gr (Q_y_keeps gi gl gr ar1)) := by
                  intro m163
                  induction m163 using Nat.strongRecOn with
                  | _ m163 ih163 =>
                  intro gi163 gl163 gr163 hI hX c163_0 c163_1 c163_2 c163_3 j163_0 j163_1 hm163
                  obtain ⟨l165, u165⟩ := hI.b (hI.wf.s (k := 69) rfl) (t_bdK rfl : t_bd 11 59 = some (0, 301))
                  refine ev_loc f_X12_keeps (nx := 171) rfl rfl rfl rfl ?_
                  have hX170_163 := hX
                  have hIw163 := hI
                  refine ev_gvI f_X12_keeps (nx := 174) (w := (gi163 69 59)) rfl (hI.wf.s rfl) rfl rfl rfl rfl ?_
                  refine ev_sp f_X12_keeps (nx := 177) (v := 301) rfl (by decide) rfl ?_
                  refine ev_if f_X12_keeps (t1 := 205) (t2 := 180) rfl rfl rfl (fun h167 => ?_) (fun h167 => ?_)
                  · have l168 : 301 ≤ (gi163 69 59).toInt := t_lel h167 (by decide : (301:Int) ≤ (301:Int32).toInt)
                    refine ev_loc f_X12_keeps (nx := 206) rfl rfl rfl rfl ?_
                    refine ev_gvI f_X12_keeps (nx := 209) (w := (gi163 69 69)) rfl (hI.wf.s rfl) rfl rfl rfl rfl ?_
                    refine ev_ic f_X12_keeps (nx := 210) (v := -1) rfl (by decide) rfl ?_
                    refine ev_if f_X12_keeps (t1 := 213) (t2 := 220) rfl rfl rfl (fun h169 => ?_) (fun h169 => ?_)
                    · have u170 : (gi163 69 69).toInt ≤ (-1) := t_equ h169 (by decide : ((-1):Int32).toInt ≤ ((-1):Int))
                      have l171 : (-1) ≤ (gi163 69 69).toInt := t_eql h169 (by decide : ((-1):Int) ≤ ((-1):Int32).toInt)
                      refine ev_loc f_X12_keeps (nx := 214) rfl rfl rfl rfl ?_
                      refine ev_sp f_X12_keeps (nx := 217) (v := 301) rfl (by decide) rfl ?_
                      refine ev_putIT f_X12_keeps (nx := 220) rfl (hI.wf.s rfl) rfl rfl rfl (hI.put0 (hI.wf.s rfl) rfl rfl) (hX.upI rfl) (fun g172 e172 hI hX => ?_)
                      refine ev_loc f_X12_keeps (nx := 221) rfl rfl rfl rfl ?_
                      refine ev_qN f_X12_keeps (nx := 224) (r := []) rfl rfl rfl rfl rfl rfl rfl (c_y_passesOver hI ) rfl hX rfl (fun gi173 gl173 gr173 hI hX hC173 q173 => ?_)
                      have q173 : (∀ (n : Nat) (Z : Nat → Int), n = t_S g172 → t_YS n Z g172 → t_YS n Z gi173 ∧ (gi173 69 64).toInt = ((s_f1 Z n 0 : Nat) : Int)) := q173
                      exact ev_ret f_X12_keeps rfl rfl rfl ⟨_, _, _, rfl, hI, hX, ⟨rfl, (show (∀ (D : s_D) (R : List (List Int × Int)), t_ME 0 gi D → t_Cb D → s_DB D → (gi 69 46).toInt = -1 → (-1 ≤ ar1.toInt ∧ ar1.toInt ≤ 9999) → t_MQ (gi 70) R → s_crs R → s_TP gi173 (gi173 70 4).toInt (s_PY D ar1.toInt) ∧ t_YR (s_PY D ar1.toInt) (fun F => s_ac F R) gi173) from (fun D R hm hb hd h46 hsd hQ hcr => (by
                                                            obtain ⟨g1, g2, g3, g4⟩ := j163_1 D R hm hb hd h46 hsd hQ hcr
                                                            have b1 := hb.2.1
                                                            have fc := t_F_X hC173
                                                            have hr := ((g3 (by omega)).out (by omega)).fr (g1 := g172) (by rw [e172, x_up2_off (Or.inr (by decide))]) (by rw [e172, x_up2_off (Or.inr (by decide))]) (by rw [e172, x_up2_off (Or.inr (by decide))]) (by rw [e172, x_up2_off (Or.inr (by decide))]) (funext fun j => by rw [e172, x_up2_off (Or.inl (by decide))]) (funext fun j => by rw [e172, x_up2_off (Or.inl (by decide))])
                                                            have T := g1.eq (g1 := g172) (by rw [e172, x_up2_off (Or.inr (by decide))]) (by rw [e172, x_up2_off (Or.inr (by decide))]) (funext fun j => by rw [e172, x_up2_off (Or.inl (by decide))]) (funext fun j => by rw [e172, x_up2_off (Or.inl (by decide))]) (funext fun j => by rw [e172, x_up2_off (Or.inl (by decide))]) (funext fun j => by rw [e172, x_up2_off (Or.inl (by decide))])
                                                            have E70 : g172 70 = gi163 70 := (funext fun j => by rw [e172, x_up2_off (Or.inl (by decide))])
                                                            obtain ⟨Z, h1, h2, h3, h4⟩ := hr
                                                            have hn : ((s_PY D ar1.toInt) 0 0).toNat = t_S g172 := by have h9 := T.1.1; omega
                                                            have E70c : gi173 70 = gi163 70 := (t_F_nc fc rfl (by decide)).trans E70
                                                            refine ⟨by rw [E70c]; exact T.eq (fc 69 44 (by decide) rfl).1 (fc 69 45 (by decide) rfl).1 (t_F_nc fc rfl (by decide)) (t_F_nc fc rfl (by decide)) (t_F_nc fc rfl (by decide)) (t_F_nc fc rfl (by decide)), Z, (q173 ((s_PY D ar1.toInt) 0 0).toNat Z hn h1).1, ?_, ?_, h4⟩
                                                            · rw [(fc 69 66 (by decide) rfl).1, (fc 69 67 (by decide) rfl).1]; exact h2
                                                            · rw [(fc 69 65 (by decide) rfl).1]; exact h3)))⟩⟩
                    · have r174 : (gi163 69 69).toInt ≠ (-1) := fun e => h169 (Int32.toInt_inj.mp (e.trans (by decide : ((-1):Int) = ((-1) : Int32).toInt)))
                      refine ev_loc f_X12_keeps (nx := 221) rfl rfl rfl rfl ?_
                      refine ev_qN f_X12_keeps (nx := 224) (r := []) rfl rfl rfl rfl rfl rfl rfl (c_y_passesOver hI ) rfl hX rfl (fun gi175 gl175 gr175 hI hX hC175 q175 => ?_)
                      have q175 : (∀ (n : Nat) (Z : Nat → Int), n = t_S gi163 → t_YS n Z gi163 → t_YS n Z gi175 ∧ (gi175 69 64).toInt = ((s_f1 Z n 0 : Nat) : Int)) := q175
                      exact ev_ret f_X12_keeps rfl rfl rfl ⟨_, _, _, rfl, hI, hX, ⟨rfl, (show (∀ (D : s_D) (R : List (List Int × Int)), t_ME 0 gi D → t_Cb D → s_DB D → (gi 69 46).toInt = -1 → (-1 ≤ ar1.toInt ∧ ar1.toInt ≤ 9999) → t_MQ (gi 70) R → s_crs R → s_TP gi175 (gi175 70 4).toInt (s_PY D ar1.toInt) ∧ t_YR (s_PY D ar1.toInt) (fun F => s_ac F R) gi175) from (fun D R hm hb hd h46 hsd hQ hcr => (by
                                                            obtain ⟨g1, g2, g3, g4⟩ := j163_1 D R hm hb hd h46 hsd hQ hcr
                                                            have b1 := hb.2.1
                                                            have fc := t_F_X hC175
                                                            have hr := g4 (by omega)
                                                            have T := g1
                                                            have E70 : gi163 70 = gi163 70 := rfl
                                                            obtain ⟨Z, h1, h2, h3, h4⟩ := hr
                                                            have hn : ((s_PY D ar1.toInt) 0 0).toNat = t_S gi163 := by have h9 := T.1.1; omega
                                                            have E70c : gi175 70 = gi163 70 := (t_F_nc fc rfl (by decide)).trans E70
                                                            refine ⟨by rw [E70c]; exact T.eq (fc 69 44 (by decide) rfl).1 (fc 69 45 (by decide) rfl).1 (t_F_nc fc rfl (by decide)) (t_F_nc fc rfl (by decide)) (t_F_nc fc rfl (by decide)) (t_F_nc fc rfl (by decide)), Z, (q175 ((s_PY D ar1.toInt) 0 0).toNat Z hn h1).1, ?_, ?_, h4⟩
                                                            · rw [(fc 69 66 (by decide) rfl).1, (fc 69 67 (by decide) rfl).1]; exact h2
                                                            · rw [(fc 69 65 (by decide) rfl).1]; exact h3)))⟩⟩
                  · have u176 : (gi163 69 59).toInt ≤ 300 := t_ltu (t_nle h167) (by decide : (301:Int32).toInt ≤ (301:Int)) rfl
                    refine ev_loc f_X12_keeps (nx := 181) rfl rfl rfl rfl ?_
                    refine ev_gvI f_X12_keeps (nx := 184) (w := (gi163 69 69)) rfl (hI.wf.s rfl) rfl rfl rfl rfl ?_
                    refine ev_ic f_X12_keeps (nx := 185) (v := -1) rfl (by decide) rfl ?_
                    refine ev_if f_X12_keeps (t1 := 188) (t2 := 205) rfl rfl rfl (fun h177 => ?_) (fun h177 => ?_)
                    · have u178 : (gi163 69 69).toInt ≤ (-1) := t_equ h177 (by decide : ((-1):Int32).toInt ≤ ((-1):Int))
                      have l179 : (-1) ≤ (gi163 69 69).toInt := t_eql h177 (by decide : ((-1):Int) ≤ ((-1):Int32).toInt)
                      refine ev_loc f_X12_keeps (nx := 189) rfl rfl rfl rfl ?_
                      refine ev_qN f_X12_keeps (nx := 192) (r := []) rfl rfl rfl rfl rfl rfl rfl (c_y_minuteGoes hI  j163_0) rfl hX rfl (fun gi180 gl180 gr180 hI hX hC180 q180 => ?_)
                      have ff181 : (gi163 70 4).toInt = (gi 70 4).toInt := congrArg Int32.toInt c163_3
                      have q180 : (∀ (P : Nat → Nat → Int) (Z : Nat → Int) (R : List (List Int × Int)), s_TP gi163 (gi163 70 4).toInt P → t_IJ (P 0 0).toNat gi163 → t_YS (P 0 0).toNat Z gi163 → t_MB (gi163 69 59).toInt Z gi163 → s_okz P Z → s_PO P → s_PB P → t_MQ (gi163 70) R → s_crs R → (s_done P (s_en (gi163 69 59).toInt Z) → (gi180 69 69).toInt = (gi163 69 59).toInt ∧ t_YS (P 0 0).toNat (s_en (gi163 69 59).toInt Z) gi180 ∧ t_MZ (gi163 69 59).toInt (s_en (gi163 69 59).toInt Z) gi180) ∧ (¬ s_done P (s_en (gi163 69 59).toInt Z) → gi180 69 69 = gi163 69 69 ∧ t_YS (P 0 0).toNat (s_mn P (fun F => s_ac F R) (gi163 69 59).toInt Z) gi180 ∧ t_MB ((gi163 69 59).toInt + 1) (s_mn P (fun F => s_ac F R) (gi163 69 59).toInt Z) gi180)) := q180
                      refine ev_loc f_X12_keeps (nx := 193) rfl rfl rfl rfl ?_
                      refine ev_alu f_X12_keeps (nx := 194) rfl rfl rfl rfl ?_
                      refine ev_gvI f_X12_keeps (nx := 197) (w := (gi163 69 59)) rfl (hI.wf.s rfl) rfl rfl ((hC180.1 69 59 rfl).1.trans rfl) rfl ?_
                      refine ev_ic f_X12_keeps (nx := 198) (v := 1) rfl (by decide) rfl ?_
                      refine ev_addC f_X12_keeps (nx := 199) (c := 1) (l := 1) (u := 301) rfl (by decide) l165 u176 rfl rfl (by decide) (by decide) rfl (fun z183 e183 l183 u183 => ?_)
                      refine ev_putIT f_X12_keeps (nx := 202) rfl (hI.wf.s rfl) rfl rfl rfl (hI.putB (hI.wf.s rfl) rfl rfl l183 (by decide) u183 (by decide)) (hX.upI rfl) (fun g184 e184 hI hX => ?_)
                      refine ev_jmp f_X12_keeps (nx := 170) rfl rfl rfl ?_
                      refine ev_sub (lo := [(2, .int y147_2), (0, .ref 69), (1, .int ar1)]) rfl (t_sc rfl (t_sc rfl (t_sc rfl t_sn))) ?_
                      have hq163 := ((by rw [e184]; exact x_up2_at _ _ _ _ : g184 69 59 = z183) : g184 69 59 = z183)
                      exact ih163 _ (by rw [hq163]; omega) g184 gl180 gr180  hI hX  ((by rw [e184]; exact x_up2_off (Or.inr (by decide)) : g184 69 46 = gi180 69 46).trans ((hC180.1 69 46 rfl).1.trans c163_0)) ((by rw [e184]; exact x_up2_off (Or.inr (by decide)) : g184 70 1 = gi180 70 1).trans ((hC180.1 70 1 rfl).1.trans c163_1)) ((by rw [e184]; exact x_up2_off (Or.inr (by decide)) : g184 70 2 = gi180 70 2).trans ((hC180.1 70 2 rfl).1.trans c163_2)) ((by rw [e184]; exact x_up2_off (Or.inr (by decide)) : g184 70 4 = gi180 70 4).trans ((hC180.1 70 4 rfl).1.trans c163_3)) (by have hq := ((by rw [e184]; exact x_up2_ne (by decide) : g184 70 = gi180 70).trans ((funext (fun j => (hC180.1 70 j rfl).1) : gi180 70 = gi163 70))); rw [hq]; exact j163_0) (fun D R hm hb hd h46 hsd hQ hcr => (by
                                                            obtain ⟨g1, g2, g3, g4⟩ := j163_1 D R hm hb hd h46 hsd hQ hcr
                                                            have fn := t_F_X hX170_163
                                                            have E70 : gi163 70 = gi 70 := t_F_nc fn rfl (by decide)
                                                            have b59 := hIw163.b (hIw163.wf.s (k := 69) rfl) (t_bdK rfl : t_bd 11 59 = some (0, 301))
                                                            have h69 : (gi163 69 69).toInt = -1 := by omega
                                                            obtain ⟨Z, hZ⟩ := g3 h69
                                                            have hq := q180 (s_PY D ar1.toInt) Z R g1 g2 hZ.1 hZ.2.1 hZ.2.2.1 (s_PY_O hb hd) (s_PY_B hb hd) (by rw [E70]; exact hQ) hcr
                                                            have hs := t_YD.step hZ ⟨by omega, by omega⟩ (s_PY_O hb hd) hq.1 (fun hh => hq.2 hh) h69
                                                            have fc := t_F_X hC180
                                                            have E59 : (g184 69 59).toInt = (gi163 69 59).toInt + 1 := by have m_ := congrArg Int32.toInt (fc 69 59 (by decide) rfl).1; rw [e184, x_up2_at]; omega
                                                            have E69 : g184 69 69 = gi180 69 69 := by rw [e184, x_up2_off (Or.inr (by decide))]
                                                            have E70b : g184 70 = gi163 70 := ((funext fun j => by rw [e184, x_up2_off (Or.inl (by decide))] : g184 70 = gi180 70).trans (t_F_nc fc rfl (by decide)))
                                                            have E90 : g184 90 = gi163 90 := ((funext fun j => by rw [e184, x_up2_off (Or.inl (by decide))] : g184 90 = gi180 90).trans (t_F_nc fc rfl (by decide)))
                                                            refine ⟨by rw [E70b]; exact g1.eq (by rw [e184, x_up2_off (Or.inr (by decide)), (fc 69 44 (by decide) rfl).1]) (by rw [e184, x_up2_off (Or.inr (by decide)), (fc 69 45 (by decide) rfl).1]) E70b ((funext fun j => by rw [e184, x_up2_off (Or.inl (by decide))] : g184 89 = gi180 89).trans (t_F_nc fc rfl (by decide))) E90 ((funext fun j => by rw [e184, x_up2_off (Or.inl (by decide))] : g184 91 = gi180 91).trans (t_F_nc fc rfl (by decide))), g2.eq E90, fun hh => ?_, fun hh => ?_⟩
                                                            · rw [E59]; exact (hs.1 (by rw [← E69]; exact hh)).fr (fun j a b => by rw [e184, x_up2_off (Or.inr (by omega))]) (funext fun j => by rw [e184, x_up2_off (Or.inl (by decide))]) (funext fun j => by rw [e184, x_up2_off (Or.inl (by decide))])
                                                            · exact (hs.2 (by rw [← E69]; exact hh)).fr (by rw [e184, x_up2_off (Or.inr (by decide))]) (by rw [e184, x_up2_off (Or.inr (by decide))]) (by rw [e184, x_up2_off (Or.inr (by decide))]) (by rw [e184, x_up2_off (Or.inr (by decide))]) (funext fun j => by rw [e184, x_up2_off (Or.inl (by decide))]) (funext fun j => by rw [e184, x_up2_off (Or.inl (by decide))]))) rfl
                    · have r185 : (gi163 69 69).toInt ≠ (-1) := fun e => h177 (Int32.toInt_inj.mp (e.trans (by decide : ((-1):Int) = ((-1) : Int32).toInt)))
                      refine ev_loc f_X12_keeps (nx := 206) rfl rfl rfl rfl ?_
                      refine ev_gvI f_X12_keeps (nx := 209) (w := (gi163 69 69)) rfl (hI.wf.s rfl) rfl rfl rfl rfl ?_
                      refine ev_ic f_X12_keeps (nx := 210) (v := -1) rfl (by decide) rfl ?_
                      refine ev_if f_X12_keeps (t1 := 213) (t2 := 220) rfl rfl rfl (fun h186 => ?_) (fun h186 => ?_)
                      · have u187 : (gi163 69 69).toInt ≤ (-1) := t_equ h186 (by decide : ((-1):Int32).toInt ≤ ((-1):Int))
                        have l188 : (-1) ≤ (gi163 69 69).toInt := t_eql h186 (by decide : ((-1):Int) ≤ ((-1):Int32).toInt)
                        refine ev_loc f_X12_keeps (nx := 214) rfl rfl rfl rfl ?_
                        refine ev_sp f_X12_keeps (nx := 217) (v := 301) rfl (by decide) rfl ?_
                        refine ev_putIT f_X12_keeps (nx := 220) rfl (hI.wf.s rfl) rfl rfl rfl (hI.put0 (hI.wf.s rfl) rfl rfl) (hX.upI rfl) (fun g189 e189 hI hX => ?_)
                        refine ev_loc f_X12_keeps (nx := 221) rfl rfl rfl rfl ?_
                        refine ev_qN f_X12_keeps (nx := 224) (r := []) rfl rfl rfl rfl rfl rfl rfl (c_y_passesOver hI ) rfl hX rfl (fun gi190 gl190 gr190 hI hX hC190 q190 => ?_)
                        have q190 : (∀ (n : Nat) (Z : Nat → Int), n = t_S g189 → t_YS n Z g189 → t_YS n Z gi190 ∧ (gi190 69 64).toInt = ((s_f1 Z n 0 : Nat) : Int)) := q190
                        exact ev_ret f_X12_keeps rfl rfl rfl ⟨_, _, _, rfl, hI, hX, ⟨rfl, (show (∀ (D : s_D) (R : List (List Int × Int)), t_ME 0 gi D → t_Cb D → s_DB D → (gi 69 46).toInt = -1 → (-1 ≤ ar1.toInt ∧ ar1.toInt ≤ 9999) → t_MQ (gi 70) R → s_crs R → s_TP gi190 (gi190 70 4).toInt (s_PY D ar1.toInt) ∧ t_YR (s_PY D ar1.toInt) (fun F => s_ac F R) gi190) from (fun D R hm hb hd h46 hsd hQ hcr => (by
                                                            obtain ⟨g1, g2, g3, g4⟩ := j163_1 D R hm hb hd h46 hsd hQ hcr
                                                            have b1 := hb.2.1
                                                            have fc := t_F_X hC190
                                                            have hr := ((g3 (by omega)).out (by omega)).fr (g1 := g189) (by rw [e189, x_up2_off (Or.inr (by decide))]) (by rw [e189, x_up2_off (Or.inr (by decide))]) (by rw [e189, x_up2_off (Or.inr (by decide))]) (by rw [e189, x_up2_off (Or.inr (by decide))]) (funext fun j => by rw [e189, x_up2_off (Or.inl (by decide))]) (funext fun j => by rw [e189, x_up2_off (Or.inl (by decide))])
                                                            have T := g1.eq (g1 := g189) (by rw [e189, x_up2_off (Or.inr (by decide))]) (by rw [e189, x_up2_off (Or.inr (by decide))]) (funext fun j => by rw [e189, x_up2_off (Or.inl (by decide))]) (funext fun j => by rw [e189, x_up2_off (Or.inl (by decide))]) (funext fun j => by rw [e189, x_up2_off (Or.inl (by decide))]) (funext fun j => by rw [e189, x_up2_off (Or.inl (by decide))])
                                                            have E70 : g189 70 = gi163 70 := (funext fun j => by rw [e189, x_up2_off (Or.inl (by decide))])
                                                            obtain ⟨Z, h1, h2, h3, h4⟩ := hr
                                                            have hn : ((s_PY D ar1.toInt) 0 0).toNat = t_S g189 := by have h9 := T.1.1; omega
                                                            have E70c : gi190 70 = gi163 70 := (t_F_nc fc rfl (by decide)).trans E70
                                                            refine ⟨by rw [E70c]; exact T.eq (fc 69 44 (by decide) rfl).1 (fc 69 45 (by decide) rfl).1 (t_F_nc fc rfl (by decide)) (t_F_nc fc rfl (by decide)) (t_F_nc fc rfl (by decide)) (t_F_nc fc rfl (by decide)), Z, (q190 ((s_PY D ar1.toInt) 0 0).toNat Z hn h1).1, ?_, ?_, h4⟩
                                                            · rw [(fc 69 66 (by decide) rfl).1, (fc 69 67 (by decide) rfl).1]; exact h2
                                                            · rw [(fc 69 65 (by decide) rfl).1]; exact h3)))⟩⟩
                      · have r191 : (gi163 69 69).toInt ≠ (-1) := fun e => h186 (Int32.toInt_inj.mp (e.trans (by decide : ((-1):Int) = ((-1) : Int32).toInt)))
                        refine ev_loc f_X12_keeps (nx := 221) rfl rfl rfl rfl ?_
                        refine ev_qN f_X12_keeps (nx := 224) (r := []) rfl rfl rfl rfl rfl rfl rfl (c_y_passesOver hI ) rfl hX rfl (fun gi192 gl192 gr192 hI hX hC192 q192 => ?_)
                        have q192 : (∀ (n : Nat) (Z : Nat → Int), n = t_S gi163 → t_YS n Z gi163 → t_YS n Z gi192 ∧ (gi192 69 64).toInt = ((s_f1 Z n 0 : Nat) : Int)) := q192
                        exact ev_ret f_X12_keeps rfl rfl rfl ⟨_, _, _, rfl, hI, hX, ⟨rfl, (show (∀ (D : s_D) (R : List (List Int × Int)), t_ME 0 gi D → t_Cb D → s_DB D → (gi 69 46).toInt = -1 → (-1 ≤ ar1.toInt ∧ ar1.toInt ≤ 9999) → t_MQ (gi 70) R → s_crs R → s_TP gi192 (gi192 70 4).toInt (s_PY D ar1.toInt) ∧ t_YR (s_PY D ar1.toInt) (fun F => s_ac F R) gi192) from (fun D R hm hb hd h46 hsd hQ hcr => (by
                                                            obtain ⟨g1, g2, g3, g4⟩ := j163_1 D R hm hb hd h46 hsd hQ hcr
                                                            have b1 := hb.2.1
                                                            have fc := t_F_X hC192
                                                            have hr := g4 (by omega)
                                                            have T := g1
                                                            have E70 : gi163 70 = gi163 70 := rfl
                                                            obtain ⟨Z, h1, h2, h3, h4⟩ := hr
                                                            have hn : ((s_PY D ar1.toInt) 0 0).toNat = t_S gi163 := by have h9 := T.1.1; omega
                                                            have E70c : gi192 70 = gi163 70 := (t_F_nc fc rfl (by decide)).trans E70
                                                            refine ⟨by rw [E70c]; exact T.eq (fc 69 44 (by decide) rfl).1 (fc 69 45 (by decide) rfl).1 (t_F_nc fc rfl (by decide)) (t_F_nc fc rfl (by decide)) (t_F_nc fc rfl (by decide)) (t_F_nc fc rfl (by decide)), Z, (q192 ((s_PY D ar1.toInt) 0 0).toNat Z hn h1).1, ?_, ?_, h4⟩
                                                            · rw [(fc 69 66 (by decide) rfl).1, (fc 69 67 (by decide) rfl).1]; exact h2
                                                            · rw [(fc 69 65 (by decide) rfl).1]; exact h3)))⟩⟩
                refine ev_sub (lo := [(2, .int y147_2), (0, .ref 69), (1, .int ar1)]) rfl (t_sc rfl (t_sc rfl (t_sc rfl t_sn))) ?_
                exact L163 _ g162 gl147 gr147  hI hX  ((by rw [e162]; exact x_up2_off (Or.inr (by decide)) : g162 69 46 = g161 69 46).trans ((by rw [e161]; exact x_up2_off (Or.inr (by decide)) : g161 69 46 = g160 69 46).trans ((by rw [e160]; exact x_up2_off (Or.inr (by decide)) : g160 69 46 = g159 69 46).trans ((by rw [e159]; exact x_up2_off (Or.inr (by decide)) : g159 69 46 = g158 69 46).trans ((by rw [e158]; exact x_up2_off (Or.inr (by decide)) : g158 69 46 = g157 69 46).trans ((by rw [e157]; exact x_up2_off (Or.inr (by decide)) : g157 69 46 = g156 69 46).trans ((by rw [e156]; exact x_up2_off (Or.inr (by decide)) : g156 69 46 = g155 69 46).trans ((by rw [e155]; exact x_up2_off (Or.inr (by decide)) : g155 69 46 = g154 69 46).trans ((by rw [e154]; exact x_up2_off (Or.inr (by decide)) : g154 69 46 = g153 69 46).trans ((by rw [e153]; exact x_up2_off (Or.inr (by decide)) : g153 69 46 = g152 69 46).trans ((by rw [e152]; exact x_up2_off (Or.inr (by decide)) : g152 69 46 = g151 69 46).trans ((by rw [e151]; exact x_up2_off (Or.inr (by decide)) : g151 69 46 = gi147 69 46).trans c147_0)))))))))))) ((by rw [e162]; exact x_up2_off (Or.inr (by decide)) : g162 70 1 = g161 70 1).trans ((by rw [e161]; exact x_up2_off (Or.inr (by decide)) : g161 70 1 = g160 70 1).trans ((by rw [e160]; exact x_up2_off (Or.inr (by decide)) : g160 70 1 = g159 70 1).trans ((by rw [e159]; exact x_up2_off (Or.inr (by decide)) : g159 70 1 = g158 70 1).trans ((by rw [e158]; exact x_up2_off (Or.inr (by decide)) : g158 70 1 = g157 70 1).trans ((by rw [e157]; exact x_up2_off (Or.inr (by decide)) : g157 70 1 = g156 70 1).trans ((by rw [e156]; exact x_up2_off (Or.inr (by decide)) : g156 70 1 = g155 70 1).trans ((by rw [e155]; exact x_up2_off (Or.inr (by decide)) : g155 70 1 = g154 70 1).trans ((by rw [e154]; exact x_up2_off (Or.inr (by decide)) : g154 70 1 = g153 70 1).trans ((by rw [e153]; exact x_up2_off (Or.inr (by decide)) : g153 70 1 = g152 70 1).trans ((by rw [e152]; exact x_up2_off (Or.inr (by decide)) : g152 70 1 = g151 70 1).trans ((by rw [e151]; exact x_up2_off (Or.inr (by decide)) : g151 70 1 = gi147 70 1).trans c147_3)))))))))))) ((by rw [e162]; exact x_up2_off (Or.inr (by decide)) : g162 70 2 = g161 70 2).trans ((by rw [e161]; exact x_up2_off (Or.inr (by decide)) : g161 70 2 = g160 70 2).trans ((by rw [e160]; exact x_up2_off (Or.inr (by decide)) : g160 70 2 = g159 70 2).trans ((by rw [e159]; exact x_up2_off (Or.inr (by decide)) : g159 70 2 = g158 70 2).trans ((by rw [e158]; exact x_up2_off (Or.inr (by decide)) : g158 70 2 = g157 70 2).trans ((by rw [e157]; exact x_up2_off (Or.inr (by decide)) : g157 70 2 = g156 70 2).trans ((by rw [e156]; exact x_up2_off (Or.inr (by decide)) : g156 70 2 = g155 70 2).trans ((by rw [e155]; exact x_up2_off (Or.inr (by decide)) : g155 70 2 = g154 70 2).trans ((by rw [e154]; exact x_up2_off (Or.inr (by decide)) : g154 70 2 = g153 70 2).trans ((by rw [e153]; exact x_up2_off (Or.inr (by decide)) : g153 70 2 = g152 70 2).trans ((by rw [e152]; exact x_up2_off (Or.inr (by decide)) : g152 70 2 = g151 70 2).trans ((by rw [e151]; exact x_up2_off (Or.inr (by decide)) : g151 70 2 = gi147 70 2).trans c147_4)))))))))))) ((by rw [e162]; exact x_up2_off (Or.inr (by decide)) : g162 70 4 = g161 70 4).trans ((by rw [e161]; exact x_up2_off (Or.inr (by decide)) : g161 70 4 = g160 70 4).trans ((by rw [e160]; exact x_up2_off (Or.inr (by decide)) : g160 70 4 = g159 70 4).trans ((by rw [e159]; exact x_up2_off (Or.inr (by decide)) : g159 70 4 = g158 70 4).trans ((by rw [e158]; exact x_up2_off (Or.inr (by decide)) : g158 70 4 = g157 70 4).trans ((by rw [e157]; exact x_up2_off (Or.inr (by decide)) : g157 70 4 = g156 70 4).trans ((by rw [e156]; exact x_up2_off (Or.inr (by decide)) : g156 70 4 = g155 70 4).trans ((by rw [e155]; exact x_up2_off (Or.inr (by decide)) : g155 70 4 = g154 70 4).trans ((by rw [e154]; exact x_up2_off (Or.inr (by decide)) : g154 70 4 = g153 70 4).trans ((by rw [e153]; exact x_up2_off (Or.inr (by decide)) : g153 70 4 = g152 70 4).trans ((by rw [e152]; exact x_up2_off (Or.inr (by decide)) : g152 70 4 = g151 70 4).trans ((by rw [e151]; exact x_up2_off (Or.inr (by decide)) : g151 70 4 = gi147 70 4).trans c147_5)))))))))))) (by have hq := ((by rw [e162]; exact x_up2_ne (by decide) : g162 70 = g161 70).trans ((by rw [e161]; exact x_up2_ne (by decide) : g161 70 = g160 70).trans ((by rw [e160]; exact x_up2_ne (by decide) : g160 70 = g159 70).trans ((by rw [e159]; exact x_up2_ne (by decide) : g159 70 = g158 70).trans ((by rw [e158]; exact x_up2_ne (by decide) : g158 70 = g157 70).trans ((by rw [e157]; exact x_up2_ne (by decide) : g157 70 = g156 70).trans ((by rw [e156]; exact x_up2_ne (by decide) : g156 70 = g155 70).trans ((by rw [e155]; exact x_up2_ne (by decide) : g155 70 = g154 70).trans ((by rw [e154]; exact x_up2_ne (by decide) : g154 70 = g153 70).trans ((by rw [e153]; exact x_up2_ne (by decide) : g153 70 = g152 70).trans ((by rw [e152]; exact x_up2_ne (by decide) : g152 70 = g151 70).trans ((by rw [e151]; exact x_up2_ne (by decide) : g151 70 = gi147 70))))))))))))); rw [hq]; exact j147_0) (fun D R hm hb hd h46 hsd hQ hcr => (by
                                                            obtain ⟨g1, g2, g3, g4⟩ := j147_1 D R hm hb hd h46 hsd hQ hcr
                                                            have b1 := hb.2.1
                                                            have b2 := hb.2.2
                                                            have E70 : g162 70 = gi147 70 := (funext fun j => by rw [e162, x_up2_off (Or.inl (by decide)), e161, x_up2_off (Or.inl (by decide)), e160, x_up2_off (Or.inl (by decide)), e159, x_up2_off (Or.inl (by decide)), e158, x_up2_off (Or.inl (by decide)), e157, x_up2_off (Or.inl (by decide)), e156, x_up2_off (Or.inl (by decide)), e155, x_up2_off (Or.inl (by decide)), e154, x_up2_off (Or.inl (by decide)), e153, x_up2_off (Or.inl (by decide)), e152, x_up2_off (Or.inl (by decide)), e151, x_up2_off (Or.inl (by decide))])
                                                            have E90 : g162 90 = gi147 90 := (funext fun j => by rw [e162, x_up2_off (Or.inl (by decide)), e161, x_up2_off (Or.inl (by decide)), e160, x_up2_off (Or.inl (by decide)), e159, x_up2_off (Or.inl (by decide)), e158, x_up2_off (Or.inl (by decide)), e157, x_up2_off (Or.inl (by decide)), e156, x_up2_off (Or.inl (by decide)), e155, x_up2_off (Or.inl (by decide)), e154, x_up2_off (Or.inl (by decide)), e153, x_up2_off (Or.inl (by decide)), e152, x_up2_off (Or.inl (by decide)), e151, x_up2_off (Or.inl (by decide))])
                                                            have E99 : g162 99 = gi147 99 := (funext fun j => by rw [e162, x_up2_off (Or.inl (by decide)), e161, x_up2_off (Or.inl (by decide)), e160, x_up2_off (Or.inl (by decide)), e159, x_up2_off (Or.inl (by decide)), e158, x_up2_off (Or.inl (by decide)), e157, x_up2_off (Or.inl (by decide)), e156, x_up2_off (Or.inl (by decide)), e155, x_up2_off (Or.inl (by decide)), e154, x_up2_off (Or.inl (by decide)), e153, x_up2_off (Or.inl (by decide)), e152, x_up2_off (Or.inl (by decide)), e151, x_up2_off (Or.inl (by decide))])
                                                            refine ⟨by rw [E70]; exact g1.eq (by rw [e162, x_up2_off (Or.inr (by decide)), e161, x_up2_off (Or.inr (by decide)), e160, x_up2_off (Or.inr (by decide)), e159, x_up2_off (Or.inr (by decide)), e158, x_up2_off (Or.inr (by decide)), e157, x_up2_off (Or.inr (by decide)), e156, x_up2_off (Or.inr (by decide)), e155, x_up2_off (Or.inr (by decide)), e154, x_up2_off (Or.inr (by decide)), e153, x_up2_off (Or.inr (by decide)), e152, x_up2_off (Or.inr (by decide)), e151, x_up2_off (Or.inr (by decide))]) (by rw [e162, x_up2_off (Or.inr (by decide)), e161, x_up2_off (Or.inr (by decide)), e160, x_up2_off (Or.inr (by decide)), e159, x_up2_off (Or.inr (by decide)), e158, x_up2_off (Or.inr (by decide)), e157, x_up2_off (Or.inr (by decide)), e156, x_up2_off (Or.inr (by decide)), e155, x_up2_off (Or.inr (by decide)), e154, x_up2_off (Or.inr (by decide)), e153, x_up2_off (Or.inr (by decide)), e152, x_up2_off (Or.inr (by decide)), e151, x_up2_off (Or.inr (by decide))]) E70 (funext fun j => by rw [e162, x_up2_off (Or.inl (by decide)), e161, x_up2_off (Or.inl (by decide)), e160, x_up2_off (Or.inl (by decide)), e159, x_up2_off (Or.inl (by decide)), e158, x_up2_off (Or.inl (by decide)), e157, x_up2_off (Or.inl (by decide)), e156, x_up2_off (Or.inl (by decide)), e155, x_up2_off (Or.inl (by decide)), e154, x_up2_off (Or.inl (by decide)), e153, x_up2_off (Or.inl (by decide)), e152, x_up2_off (Or.inl (by decide)), e151, x_up2_off (Or.inl (by decide))]) E90 (funext fun j => by rw [e162, x_up2_off (Or.inl (by decide)), e161, x_up2_off (Or.inl (by decide)), e160, x_up2_off (Or.inl (by decide)), e159, x_up2_off (Or.inl (by decide)), e158, x_up2_off (Or.inl (by decide)), e157, x_up2_off (Or.inl (by decide)), e156, x_up2_off (Or.inl (by decide)), e155, x_up2_off (Or.inl (by decide)), e154, x_up2_off (Or.inl (by decide)), e153, x_up2_off (Or.inl (by decide)), e152, x_up2_off (Or.inl (by decide)), e151, x_up2_off (Or.inl (by decide))]), g2.eq E90, fun _ => ⟨fun _ => 0, t_YS_0 (by rw [e162, x_up2_off (Or.inr (by decide)), e161, x_up2_off (Or.inr (by decide)), e160, x_up2_off (Or.inr (by decide)), e159, x_up2_off (Or.inr (by decide)), e158, x_up2_off (Or.inr (by decide)), e157, x_up2_off (Or.inr (by decide)), e156, x_up2_off (Or.inr (by decide)), e155, x_up2_at]; rfl) (fun k hk => by unfold t_si; rw [E90]; exact g3 k hk) (fun j hj => by rw [E99]; exact g4 j (by omega)), ?_, s_okz_0 (by show 0 ≤ (((D 2).toNat : Nat) : Int); omega), ?_⟩, fun hh => absurd (by rw [e162, x_up2_off (Or.inr (by decide)), e161, x_up2_at]; rfl) hh⟩
                                                            · rw [show (g162 69 59).toInt = 0 by rw [e162, x_up2_at]; rfl]; exact t_YB_0 (by rw [e162, x_up2_off (Or.inr (by decide)), e161, x_up2_off (Or.inr (by decide)), e160, x_up2_off (Or.inr (by decide)), e159, x_up2_off (Or.inr (by decide)), e158, x_up2_off (Or.inr (by decide)), e157, x_up2_off (Or.inr (by decide)), e156, x_up2_off (Or.inr (by decide)), e155, x_up2_off (Or.inr (by decide)), e154, x_up2_off (Or.inr (by decide)), e153, x_up2_off (Or.inr (by decide)), e152, x_up2_off (Or.inr (by decide)), e151, x_up2_at]; rfl) (by rw [e162, x_up2_off (Or.inr (by decide)), e161, x_up2_off (Or.inr (by decide)), e160, x_up2_off (Or.inr (by decide)), e159, x_up2_off (Or.inr (by decide)), e158, x_up2_off (Or.inr (by decide)), e157, x_up2_off (Or.inr (by decide)), e156, x_up2_off (Or.inr (by decide)), e155, x_up2_off (Or.inr (by decide)), e154, x_up2_off (Or.inr (by decide)), e153, x_up2_off (Or.inr (by decide)), e152, x_up2_at]; rfl) (by rw [e162, x_up2_off (Or.inr (by decide)), e161, x_up2_off (Or.inr (by decide)), e160, x_up2_off (Or.inr (by decide)), e159, x_up2_off (Or.inr (by decide)), e158, x_up2_off (Or.inr (by decide)), e157, x_up2_off (Or.inr (by decide)), e156, x_up2_off (Or.inr (by decide)), e155, x_up2_off (Or.inr (by decide)), e154, x_up2_off (Or.inr (by decide)), e153, x_up2_at]; rfl) (by rw [e162, x_up2_off (Or.inr (by decide)), e161, x_up2_off (Or.inr (by decide)), e160, x_up2_off (Or.inr (by decide)), e159, x_up2_off (Or.inr (by decide)), e158, x_up2_off (Or.inr (by decide)), e157, x_up2_off (Or.inr (by decide)), e156, x_up2_off (Or.inr (by decide)), e155, x_up2_off (Or.inr (by decide)), e154, x_up2_at]; rfl) (by rw [e162, x_up2_off (Or.inr (by decide)), e161, x_up2_off (Or.inr (by decide)), e160, x_up2_off (Or.inr (by decide)), e159, x_up2_off (Or.inr (by decide)), e158, x_up2_off (Or.inr (by decide)), e157, x_up2_off (Or.inr (by decide)), e156, x_up2_at]; rfl) (by rw [e162, x_up2_off (Or.inr (by decide)), e161, x_up2_off (Or.inr (by decide)), e160, x_up2_off (Or.inr (by decide)), e159, x_up2_off (Or.inr (by decide)), e158, x_up2_off (Or.inr (by decide)), e157, x_up2_at]; rfl) (by rw [e162, x_up2_off (Or.inr (by decide)), e161, x_up2_off (Or.inr (by decide)), e160, x_up2_off (Or.inr (by decide)), e159, x_up2_off (Or.inr (by decide)), e158, x_up2_at]; rfl)
                                                            · rw [show (g162 69 59).toInt = 0 by rw [e162, x_up2_at]; rfl]; rfl)) rfl
              · have u193 : y147_2.toInt ≤ 5 := t_ltu (t_nle h149) (by decide : (6:Int32).toInt ≤ (6:Int)) rfl
                refine ev_loc f_X12_keeps (nx := 98) rfl rfl rfl rfl ?_
                refine ev_getR f_X12_keeps (nx := 101) rfl (hI.wf.s rfl) rfl rfl (hI.wf.r rfl) rfl rfl ?_
                refine ev_loc f_X12_keeps (nx := 102) rfl rfl rfl rfl ?_
                refine ev_ic f_X12_keeps (nx := 103) (v := 0) rfl (by decide) rfl ?_
                refine ev_zastE f_X12_keeps (nx := 104) rfl (hI.wf.s rfl) l147_2 (by decide) u193 (by decide) rfl (fun x l u => hI.astL (hI.wf.s rfl) (by decide +kernel : t_abw 99 0 5 0 1 = true) (t_cl1 l147_2 (by decide)) (t_cl2 l147_2 u193 (by decide) (by decide)) l u rfl) (fun x => hX.upI (t_inA_ok rfl)) (fun g194 x194 e194 ex194 hI hX => ?_)
                refine ev_incR f_X12_keeps (nx := 107) (c := 1) (l := 1) (u := 6) rfl rfl (by decide) (by decide) l147_2 u193 rfl rfl (by decide) (by decide) rfl (fun z195 e195 l195 u195 => ?_)
                refine ev_jmp f_X12_keeps (nx := 91) rfl rfl rfl ?_
                refine ev_sub (lo := [(2, .int z195), (0, .ref 69), (1, .int ar1)]) rfl (t_sc rfl (t_sc rfl (t_sc rfl t_sn))) ?_
                exact ih147 _ (by omega) g194 gl147 gr147 (z195) hI hX  (Int.le_trans (by decide : (0:Int) ≤ 1) l195) u195 ((by rw [e194]; exact x_up2_off (Or.inl (by decide)) : g194 69 46 = gi147 69 46).trans c147_0) ((by rw [e194]; exact x_up2_off (Or.inl (by decide)) : g194 69 59 = gi147 69 59).trans c147_1) ((by rw [e194]; exact x_up2_off (Or.inl (by decide)) : g194 69 69 = gi147 69 69).trans c147_2) ((by rw [e194]; exact x_up2_off (Or.inl (by decide)) : g194 70 1 = gi147 70 1).trans c147_3) ((by rw [e194]; exact x_up2_off (Or.inl (by decide)) : g194 70 2 = gi147 70 2).trans c147_4) ((by rw [e194]; exact x_up2_off (Or.inl (by decide)) : g194 70 4 = gi147 70 4).trans c147_5) (by have hq := ((by rw [e194]; exact x_up2_ne (by decide) : g194 70 = gi147 70)); rw [hq]; exact j147_0) (fun D R hm hb hd h46 hsd hQ hcr => (by
                                                            obtain ⟨g1, g2, g3, g4⟩ := j147_1 D R hm hb hd h46 hsd hQ hcr
                                                            have E70 : g194 70 = gi147 70 := (funext fun j => by rw [e194, x_up2_off (Or.inl (by decide))])
                                                            have E90 : g194 90 = gi147 90 := (funext fun j => by rw [e194, x_up2_off (Or.inl (by decide))])
                                                            refine ⟨by rw [E70]; exact g1.eq (by rw [e194, x_up2_off (Or.inl (by decide))]) (by rw [e194, x_up2_off (Or.inl (by decide))]) E70 (funext fun j => by rw [e194, x_up2_off (Or.inl (by decide))]) E90 (funext fun j => by rw [e194, x_up2_off (Or.inl (by decide))]), g2.eq E90, fun k hk => by unfold t_si; rw [E90]; exact g3 k hk, fun j hj => ?_⟩
                                                            have cy := t_clamp (i := y147_2) (by omega)
                                                            by_cases h : j = y147_2.toNatClampNeg
                                                            · rw [e194, h, x_up2_at]; first | rfl | (rw [ex194]; rfl) | (rw [ex194]; decide)
                                                            · rw [e194, x_up2_off (Or.inr h)]; exact g4 j (by omega))) rfl
            refine ev_sub (lo := [(2, .int 0), (0, .ref 69), (1, .int ar1)]) rfl (t_sc rfl (t_sc rfl (t_sc rfl t_sn))) ?_
            exact L147 _ gi145 gl145 gr145 (0) hI hX  (by decide : (0:Int) ≤ (0:Int32).toInt) (Int.le_trans (by decide : (0:Int32).toInt ≤ (0:Int)) (by decide : (0:Int) ≤ 6)) ((hC145.1 69 46 rfl).1.trans c140_0) ((hC145.1 69 59 rfl).1.trans c140_1) ((hC145.1 69 69 rfl).1.trans c140_2) ((hC145.1 70 1 rfl).1.trans c140_3) ((hC145.1 70 2 rfl).1.trans rfl) ((hC145.1 70 4 rfl).1.trans c140_4) (by have hq := ((funext (fun j => (hC145.1 70 j rfl).1) : gi145 70 = gi140 70)); rw [hq]; exact j140_0) (fun D R hm hb hd h46 hsd hQ hcr => (by
                                                            have b1 := hb.2.1
                                                            have b2 := hb.2.2
                                                            have k70 : ∀ j : Nat, (j : Int) < D 1 → (gi 70 (53 + 5 * j)).toInt = s_A D j := fun j hj => by have hh := hm.2.2.1 (53 + 5 * j) (by omega) (by omega); rw [Nat.zero_add] at hh; exact hh
                                                            have c70 : ∀ j : Nat, (j : Int) < D 2 → (gi 70 (82 + 3 * j)).toInt = s_B D j := fun j hj => by have hh := hm.2.2.2 (82 + 3 * j) (by omega) (by omega); rw [Nat.zero_add] at hh; exact hh
                                                            have fn := t_F_X hX47_140
                                                            have E70 : gi140 70 = gi 70 := t_F_nc fn rfl (by decide)
                                                            have d1 : (gi140 70 1).toInt = D 1 := by rw [E70]; exact hm.1.1.2.1
                                                            have d2 : (gi140 70 2).toInt = D 2 := by rw [E70]; exact hm.1.1.2.2
                                                            obtain ⟨g1, g2, g3, g4⟩ := j140_1 D R hm hb hd h46 hsd hQ hcr
                                                            have z0 : (0 : Int32).toInt = 0 := rfl
                                                            have cy := t_clamp (i := y140_2) (by omega)
                                                            have hB : ∀ j : Nat, (j : Int) < D 2 → (gi140 89 (6 + j)).toInt = s_By D ar1.toInt j := fun j hj => by
                                                              rw [g4 j hj]; show _ = s_B D j + s_dl ar1.toInt ((D 1).toNat + j)
                                                              by_cases hs : ar1.toInt = -1
                                                              · rw [s_dl_n hs]; split <;> rfl
                                                              · rw [if_pos (by omega)]
                                                            have hmn : t_ME 0 gi140 D := hm.mv hb (fun j _ _ _ => congrFun E70 (0 + j))
                                                            have m46 : (gi140 69 46).toInt = -1 := by rw [(fn 69 46 (by decide) rfl).1]; exact h46
                                                            have hS := q145.2.2.1 D _ hmn hb g3
                                                            have hC := q145.2.2.2 D _ hmn hb hB
                                                            rw [m46] at hC
                                                            have hSa := s_mk_all (A := s_Ay D ar1.toInt) (D 1).toNat (by omega)
                                                            have hCa := s_ff_all (s_By D ar1.toInt) (s_ck (-1)) (D 2).toNat (fun j _ => s_ck_y (by omega))
                                                            have r1 := s_RO_F _ hSa hS.2
                                                            have r2 := s_RO_F _ hCa hC.2
                                                            have E44 := hS.1
                                                            rw [hSa.1] at E44
                                                            have E45 := hC.1
                                                            rw [hCa.1] at E45
                                                            have E70c : gi145 70 = gi 70 := (funext fun j => q145.1 j).trans E70
                                                            have hmc : t_ME 0 gi145 D := hm.mv hb (fun j _ _ _ => congrFun E70c (0 + j))
                                                            refine ⟨s_TP_Y hb hd (by rw [E70c]; exact hm.1.2.1) hmc (by omega) (by omega) r1 r2 (fun j hj => by rw [q145.2.1]; exact g3 j hj) (fun j hj => by rw [q145.2.1]; exact hB j hj), t_IJ_Y r1, fun k hk => ?_, fun j hj => absurd hj (by omega)⟩
                                                            have hk1 : k < (D 1).toNat := Int.ofNat_lt.mp (show (k : Int) < (((D 1).toNat : Nat) : Int) by have h9 : k < (((D 1).toNat : Nat) : Int).toNat := hk; omega)
                                                            have h9 := s_or_lt (s_Ay D ar1.toInt) _ _ hk1
                                                            have e9 : t_si gi145 k = s_or (s_Ay D ar1.toInt) (D 1).toNat k := by unfold t_si; rw [r1 k hk1]; rfl
                                                            rw [e9]; omega)) rfl
          · have r196 : y140_2.toInt < (gi140 70 2).toInt := Int32.lt_iff_toInt_lt.mp (t_nle h143)
            have u197 : y140_2.toInt ≤ 5 := t_ltu (t_nle h143) u142 rfl
            have l198 : 1 ≤ (gi140 70 2).toInt := t_ltl (t_nle h143) l140_2 rfl
            refine ev_loc f_X12_keeps (nx := 58) rfl rfl rfl rfl ?_
            refine ev_ic f_X12_keeps (nx := 59) (v := -1) rfl (by decide) rfl ?_
            refine ev_t f_X12_keeps (t1 := 84) (t2 := 62) rfl rfl rfl (t_eqT u138 l139 (by decide : ((-1):Int32).toInt ≤ ((-1):Int)) (by decide : ((-1):Int) ≤ ((-1):Int32).toInt)) ?_
            refine ev_loc f_X12_keeps (nx := 85) rfl rfl rfl rfl ?_
            refine ev_ic f_X12_keeps (nx := 86) (v := 0) rfl (by decide) rfl ?_
            refine ev_qN f_X12_keeps (nx := 89) (r := []) rfl rfl rfl rfl rfl rfl rfl (c_n_ordersG hI (0)) rfl hX rfl (fun gi199 gl199 gr199 hI hX hC199 q199 => ?_)
            have ff200 : (gi140 69 46).toInt = (gi 69 46).toInt := congrArg Int32.toInt c140_0
            have q199 : (∀ j, gi199 70 j = gi140 70 j) ∧ (∀ j, gi199 89 j = gi140 89 j) ∧ (∀ (D : s_D) (A : Nat → Int), t_ME 0 gi140 D → t_Cb D → (∀ j : Nat, (j : Int) < D 1 → (gi140 89 j).toInt = A j) → (gi199 69 44).toInt = ((s_fn (s_mk (0 : Int32)) (D 1).toNat : Nat) : Int) ∧ s_RF (s_ff A (s_mk (0 : Int32)) (D 1).toNat) (fun k => (k : Int)) (gi199 90) (s_fn (s_mk (0 : Int32)) (D 1).toNat)) ∧ (∀ (D : s_D) (A : Nat → Int), t_ME 0 gi140 D → t_Cb D → (∀ j : Nat, (j : Int) < D 2 → (gi140 89 (6 + j)).toInt = A j) → (gi199 69 45).toInt = ((s_fn (s_ck (gi140 69 46).toInt) (D 2).toNat : Nat) : Int) ∧ s_RF (s_ff A (s_ck (gi140 69 46).toInt) (D 2).toNat) (fun k => (k : Int)) (gi199 91) (s_fn (s_ck (gi140 69 46).toInt) (D 2).toNat)) := q199
            refine ev_ic f_X12_keeps (nx := 90) (v := 0) rfl (by decide) rfl ?_
            refine ev_loc f_X12_keeps (nx := 91) (lo' := [(2, .int 0), (0, .ref 69), (1, .int ar1)]) rfl rfl rfl rfl ?_
            have L201 : ∀ (m201 : Nat) (gi201 : Nat → Nat → Int32) (gl201 : Nat → Nat → Int64) (gr201 : Nat → Nat → Value) (y201_2 : Int32), t_I sh gi201 gr201 → t_X wl_y_keeps sh gi gl gr gi201 gl201 gr201 → 0 ≤ y201_2.toInt → y201_2.toInt ≤ 6 → gi201 69 46 = (gi 69 46) → gi201 69 59 = (gi 69 59) → gi201 69 69 = (gi 69 69) → gi201 70 1 = (gi8 70 1) → gi201 70 2 = (gi140 70 2) → gi201 70 4 = (gi 70 4) → t_rpn (gi201 70) 0 → (∀ (D : s_D) (R : List (List Int × Int)), t_ME 0 gi D → t_Cb D → s_DB D → (gi 69 46).toInt = -1 → (-1 ≤ ar1.toInt ∧ ar1.toInt ≤ 9999) → t_MQ (gi 70) R → s_crs R → s_TP gi201 (gi201 70 4).toInt (s_PY D ar1.toInt) ∧ t_IJ ((s_PY D ar1.toInt) 0 0).toNat gi201 ∧ (∀ k : Nat, k < ((s_PY D ar1.toInt) 0 0).toNat → t_si gi201 k < 6) ∧ ∀ j : Nat, (j : Int) < y201_2.toInt → (gi201 99 j).toInt = 0) → (6 - y201_2.toInt).toNat = m201 → x_Ev X (d + 6) n_X12_keeps 91 [(2, .int y201_2), (0, .ref 69), (1, .int ar1)] [] (sh, gi201, gl201, gr201) (t_PN wl_y_keeps sh gi gl gr (Q_y_keeps gi gl gr ar1)) := by
              intro m201
              induction m201 using Nat.strongRecOn with
              | _ m201 ih201 =>
              intro gi201 gl201 gr201 y201_2 hI hX l201_2 u201_2 c201_0 c201_1 c201_2 c201_3 c201_4 c201_5 j201_0 j201_1 hm201
              refine ev_loc f_X12_keeps (nx := 92) rfl rfl rfl rfl ?_
              have hX91_201 := hX
              refine ev_bp f_X12_keeps (nx := 94) (v := 6) rfl (by decide) rfl ?_
              refine ev_if f_X12_keeps (t1 := 110) (t2 := 97) rfl rfl rfl (fun h203 => ?_) (fun h203 => ?_)
              · have l204 : 6 ≤ y201_2.toInt := t_lel h203 (by decide : (6:Int) ≤ (6:Int32).toInt)
                refine ev_loc f_X12_keeps (nx := 111) rfl rfl rfl rfl ?_
                refine ev_ic f_X12_keeps (nx := 112) (v := 0) rfl (by decide) rfl ?_
                refine ev_putIT f_X12_keeps (nx := 115) rfl (hI.wf.s rfl) rfl rfl rfl (hI.put0 (hI.wf.s rfl) rfl rfl) (hX.upI rfl) (fun g205 e205 hI hX => ?_)
                refine ev_loc f_X12_keeps (nx := 116) rfl rfl rfl rfl ?_
                refine ev_ic f_X12_keeps (nx := 117) (v := -1) rfl (by decide) rfl ?_
                refine ev_putIT f_X12_keeps (nx := 120) rfl (hI.wf.s rfl) rfl rfl rfl (hI.put0 (hI.wf.s rfl) rfl rfl) (hX.upI rfl) (fun g206 e206 hI hX => ?_)
                refine ev_loc f_X12_keeps (nx := 121) rfl rfl rfl rfl ?_
                refine ev_ic f_X12_keeps (nx := 122) (v := -1) rfl (by decide) rfl ?_
                refine ev_putIT f_X12_keeps (nx := 125) rfl (hI.wf.s rfl) rfl rfl rfl (hI.put0 (hI.wf.s rfl) rfl rfl) (hX.upI rfl) (fun g207 e207 hI hX => ?_)
                refine ev_loc f_X12_keeps (nx := 126) rfl rfl rfl rfl ?_
                refine ev_ic f_X12_keeps (nx := 127) (v := 0) rfl (by decide) rfl ?_
                refine ev_putIT f_X12_keeps (nx := 130) rfl (hI.wf.s rfl) rfl rfl rfl (hI.put0 (hI.wf.s rfl) rfl rfl) (hX.upI rfl) (fun g208 e208 hI hX => ?_)
                refine ev_loc f_X12_keeps (nx := 131) rfl rfl rfl rfl ?_
                refine ev_ic f_X12_keeps (nx := 132) (v := 0) rfl (by decide) rfl ?_
                refine ev_putIT f_X12_keeps (nx := 135) rfl (hI.wf.s rfl) rfl rfl rfl (hI.putB (hI.wf.s rfl) rfl rfl (by decide : (0:Int) ≤ (0:Int32).toInt) (by decide) (by decide : (0:Int32).toInt ≤ (0:Int)) (by decide)) (hX.upI rfl) (fun g209 e209 hI hX => ?_)
                refine ev_loc f_X12_keeps (nx := 136) rfl rfl rfl rfl ?_
                refine ev_ic f_X12_keeps (nx := 137) (v := 0) rfl (by decide) rfl ?_
                refine ev_putIT f_X12_keeps (nx := 140) rfl (hI.wf.s rfl) rfl rfl rfl (hI.putB (hI.wf.s rfl) rfl rfl (by decide : (0:Int) ≤ (0:Int32).toInt) (by decide) (by decide : (0:Int32).toInt ≤ (0:Int)) (by decide)) (hX.upI rfl) (fun g210 e210 hI hX => ?_)
                refine ev_loc f_X12_keeps (nx := 141) rfl rfl rfl rfl ?_
                refine ev_ic f_X12_keeps (nx := 142) (v := 0) rfl (by decide) rfl ?_
                refine ev_putIT f_X12_keeps (nx := 145) rfl (hI.wf.s rfl) rfl rfl rfl (hI.put0 (hI.wf.s rfl) rfl rfl) (hX.upI rfl) (fun g211 e211 hI hX => ?_)
                refine ev_loc f_X12_keeps (nx := 146) rfl rfl rfl rfl ?_
                refine ev_ic f_X12_keeps (nx := 147) (v := 0) rfl (by decide) rfl ?_
                refine ev_putIT f_X12_keeps (nx := 150) rfl (hI.wf.s rfl) rfl rfl rfl (hI.put0 (hI.wf.s rfl) rfl rfl) (hX.upI rfl) (fun g212 e212 hI hX => ?_)
                refine ev_loc f_X12_keeps (nx := 151) rfl rfl rfl rfl ?_
                refine ev_ic f_X12_keeps (nx := 152) (v := 0) rfl (by decide) rfl ?_
                refine ev_putIT f_X12_keeps (nx := 155) rfl (hI.wf.s rfl) rfl rfl rfl (hI.put0 (hI.wf.s rfl) rfl rfl) (hX.upI rfl) (fun g213 e213 hI hX => ?_)
                refine ev_loc f_X12_keeps (nx := 156) rfl rfl rfl rfl ?_
                refine ev_ic f_X12_keeps (nx := 157) (v := 0) rfl (by decide) rfl ?_
                refine ev_putIT f_X12_keeps (nx := 160) rfl (hI.wf.s rfl) rfl rfl rfl (hI.put0 (hI.wf.s rfl) rfl rfl) (hX.upI rfl) (fun g214 e214 hI hX => ?_)
                refine ev_loc f_X12_keeps (nx := 161) rfl rfl rfl rfl ?_
                refine ev_ic f_X12_keeps (nx := 162) (v := -1) rfl (by decide) rfl ?_
                refine ev_putIT f_X12_keeps (nx := 165) rfl (hI.wf.s rfl) rfl rfl rfl (hI.put0 (hI.wf.s rfl) rfl rfl) (hX.upI rfl) (fun g215 e215 hI hX => ?_)
                refine ev_loc f_X12_keeps (nx := 166) rfl rfl rfl rfl ?_
                refine ev_ic f_X12_keeps (nx := 167) (v := 0) rfl (by decide) rfl ?_
                refine ev_putIT f_X12_keeps (nx := 170) rfl (hI.wf.s rfl) rfl rfl rfl (hI.putB (hI.wf.s rfl) rfl rfl (by decide : (0:Int) ≤ (0:Int32).toInt) (by decide) (by decide : (0:Int32).toInt ≤ (0:Int)) (by decide)) (hX.upI rfl) (fun g216 e216 hI hX => ?_)
                have L217 : ∀ (m217 : Nat) (gi217 : Nat → Nat → Int32) (gl217 : Nat → Nat → Int64) (gr217 : Nat → Nat → Value), t_I sh gi217 gr217 → t_X wl_y_keeps sh gi gl gr gi217 gl217 gr217 → gi217 69 46 = (gi 69 46) → gi217 70 1 = (gi8 70 1) → gi217 70 2 = (gi140 70 2) → gi217 70 4 = (gi 70 4) → t_rpn (gi217 70) 0 → (∀ (D : s_D) (R : List (List Int × Int)), t_ME 0 gi D → t_Cb D → s_DB D → (gi 69 46).toInt = -1 → (-1 ≤ ar1.toInt ∧ ar1.toInt ≤ 9999) → t_MQ (gi 70) R → s_crs R → s_TP gi217 (gi217 70 4).toInt (s_PY D ar1.toInt) ∧ t_IJ ((s_PY D ar1.toInt) 0 0).toNat gi217 ∧ ((gi217 69 69).toInt = -1 → t_YD (s_PY D ar1.toInt) (fun F => s_ac F R) (gi217 69 59).toInt gi217) ∧ ((gi217 69 69).toInt ≠ -1 → t_YR (s_PY D ar1.toInt) (fun F => s_ac F R) gi217)) → (301 - (gi217 69 59).toInt).toNat = m217 → x_Ev X (d + 6) n_X12_keeps 170 [(2, .int y201_2), (0, .ref 69), (1, .int ar1)] [] (sh, gi217, gl217, gr217) (t_PN wl_y_keeps sh gi gl gr (Q_y_keeps gi gl gr ar1)) := by
                  intro m217
                  induction m217 using Nat.strongRecOn with
                  | _ m217 ih217 =>
                  intro gi217 gl217 gr217 hI hX c217_0 c217_1 c217_2 c217_3 j217_0 j217_1 hm217
                  obtain ⟨l219, u219⟩ := hI.b (hI.wf.s (k := 69) rfl) (t_bdK rfl : t_bd 11 59 = some (0, 301))
                  refine ev_loc f_X12_keeps (nx := 171) rfl rfl rfl rfl ?_
                  have hX170_217 := hX
                  have hIw217 := hI
                  refine ev_gvI f_X12_keeps (nx := 174) (w := (gi217 69 59)) rfl (hI.wf.s rfl) rfl rfl rfl rfl ?_
                  refine ev_sp f_X12_keeps (nx := 177) (v := 301) rfl (by decide) rfl ?_
                  refine ev_if f_X12_keeps (t1 := 205) (t2 := 180) rfl rfl rfl (fun h221 => ?_) (fun h221 => ?_)
                  · have l222 : 301 ≤ (gi217 69 59).toInt := t_lel h221 (by decide : (301:Int) ≤ (301:Int32).toInt)
                    refine ev_loc f_X12_keeps (nx := 206) rfl rfl rfl rfl ?_
                    refine ev_gvI f_X12_keeps (nx := 209) (w := (gi217 69 69)) rfl (hI.wf.s rfl) rfl rfl rfl rfl ?_
                    refine ev_ic f_X12_keeps (nx := 210) (v := -1) rfl (by decide) rfl ?_
                    refine ev_if f_X12_keeps (t1 := 213) (t2 := 220) rfl rfl rfl (fun h223 => ?_) (fun h223 => ?_)
                    · have u224 : (gi217 69 69).toInt ≤ (-1) := t_equ h223 (by decide : ((-1):Int32).toInt ≤ ((-1):Int))
                      have l225 : (-1) ≤ (gi217 69 69).toInt := t_eql h223 (by decide : ((-1):Int) ≤ ((-1):Int32).toInt)
                      refine ev_loc f_X12_keeps (nx := 214) rfl rfl rfl rfl ?_
                      refine ev_sp f_X12_keeps (nx := 217) (v := 301) rfl (by decide) rfl ?_
                      refine ev_putIT f_X12_keeps (nx := 220) rfl (hI.wf.s rfl) rfl rfl rfl (hI.put0 (hI.wf.s rfl) rfl rfl) (hX.upI rfl) (fun g226 e226 hI hX => ?_)
                      refine ev_loc f_X12_keeps (nx := 221) rfl rfl rfl rfl ?_
                      refine ev_qN f_X12_keeps (nx := 224) (r := []) rfl rfl rfl rfl rfl rfl rfl (c_y_passesOver hI ) rfl hX rfl (fun gi227 gl227 gr227 hI hX hC227 q227 => ?_)
                      have q227 : (∀ (n : Nat) (Z : Nat → Int), n = t_S g226 → t_YS n Z g226 → t_YS n Z gi227 ∧ (gi227 69 64).toInt = ((s_f1 Z n 0 : Nat) : Int)) := q227
                      exact ev_ret f_X12_keeps rfl rfl rfl ⟨_, _, _, rfl, hI, hX, ⟨rfl, (show (∀ (D : s_D) (R : List (List Int × Int)), t_ME 0 gi D → t_Cb D → s_DB D → (gi 69 46).toInt = -1 → (-1 ≤ ar1.toInt ∧ ar1.toInt ≤ 9999) → t_MQ (gi 70) R → s_crs R → s_TP gi227 (gi227 70 4).toInt (s_PY D ar1.toInt) ∧ t_YR (s_PY D ar1.toInt) (fun F => s_ac F R) gi227) from (fun D R hm hb hd h46 hsd hQ hcr => (by
                                                            obtain ⟨g1, g2, g3, g4⟩ := j217_1 D R hm hb hd h46 hsd hQ hcr
                                                            have b1 := hb.2.1
                                                            have fc := t_F_X hC227
                                                            have hr := ((g3 (by omega)).out (by omega)).fr (g1 := g226) (by rw [e226, x_up2_off (Or.inr (by decide))]) (by rw [e226, x_up2_off (Or.inr (by decide))]) (by rw [e226, x_up2_off (Or.inr (by decide))]) (by rw [e226, x_up2_off (Or.inr (by decide))]) (funext fun j => by rw [e226, x_up2_off (Or.inl (by decide))]) (funext fun j => by rw [e226, x_up2_off (Or.inl (by decide))])
                                                            have T := g1.eq (g1 := g226) (by rw [e226, x_up2_off (Or.inr (by decide))]) (by rw [e226, x_up2_off (Or.inr (by decide))]) (funext fun j => by rw [e226, x_up2_off (Or.inl (by decide))]) (funext fun j => by rw [e226, x_up2_off (Or.inl (by decide))]) (funext fun j => by rw [e226, x_up2_off (Or.inl (by decide))]) (funext fun j => by rw [e226, x_up2_off (Or.inl (by decide))])
                                                            have E70 : g226 70 = gi217 70 := (funext fun j => by rw [e226, x_up2_off (Or.inl (by decide))])
                                                            obtain ⟨Z, h1, h2, h3, h4⟩ := hr
                                                            have hn : ((s_PY D ar1.toInt) 0 0).toNat = t_S g226 := by have h9 := T.1.1; omega
                                                            have E70c : gi227 70 = gi217 70 := (t_F_nc fc rfl (by decide)).trans E70
                                                            refine ⟨by rw [E70c]; exact T.eq (fc 69 44 (by decide) rfl).1 (fc 69 45 (by decide) rfl).1 (t_F_nc fc rfl (by decide)) (t_F_nc fc rfl (by decide)) (t_F_nc fc rfl (by decide)) (t_F_nc fc rfl (by decide)), Z, (q227 ((s_PY D ar1.toInt) 0 0).toNat Z hn h1).1, ?_, ?_, h4⟩
                                                            · rw [(fc 69 66 (by decide) rfl).1, (fc 69 67 (by decide) rfl).1]; exact h2
                                                            · rw [(fc 69 65 (by decide) rfl).1]; exact h3)))⟩⟩
                    · have r228 : (gi217 69 69).toInt ≠ (-1) := fun e => h223 (Int32.toInt_inj.mp (e.trans (by decide : ((-1):Int) = ((-1) : Int32).toInt)))
                      refine ev_loc f_X12_keeps (nx := 221) rfl rfl rfl rfl ?_
                      refine ev_qN f_X12_keeps (nx := 224) (r := []) rfl rfl rfl rfl rfl rfl rfl (c_y_passesOver hI ) rfl hX rfl (fun gi229 gl229 gr229 hI hX hC229 q229 => ?_)
                      have q229 : (∀ (n : Nat) (Z : Nat → Int), n = t_S gi217 → t_YS n Z gi217 → t_YS n Z gi229 ∧ (gi229 69 64).toInt = ((s_f1 Z n 0 : Nat) : Int)) := q229
                      exact ev_ret f_X12_keeps rfl rfl rfl ⟨_, _, _, rfl, hI, hX, ⟨rfl, (show (∀ (D : s_D) (R : List (List Int × Int)), t_ME 0 gi D → t_Cb D → s_DB D → (gi 69 46).toInt = -1 → (-1 ≤ ar1.toInt ∧ ar1.toInt ≤ 9999) → t_MQ (gi 70) R → s_crs R → s_TP gi229 (gi229 70 4).toInt (s_PY D ar1.toInt) ∧ t_YR (s_PY D ar1.toInt) (fun F => s_ac F R) gi229) from (fun D R hm hb hd h46 hsd hQ hcr => (by
                                                            obtain ⟨g1, g2, g3, g4⟩ := j217_1 D R hm hb hd h46 hsd hQ hcr
                                                            have b1 := hb.2.1
                                                            have fc := t_F_X hC229
                                                            have hr := g4 (by omega)
                                                            have T := g1
                                                            have E70 : gi217 70 = gi217 70 := rfl
                                                            obtain ⟨Z, h1, h2, h3, h4⟩ := hr
                                                            have hn : ((s_PY D ar1.toInt) 0 0).toNat = t_S gi217 := by have h9 := T.1.1; omega
                                                            have E70c : gi229 70 = gi217 70 := (t_F_nc fc rfl (by decide)).trans E70
                                                            refine ⟨by rw [E70c]; exact T.eq (fc 69 44 (by decide) rfl).1 (fc 69 45 (by decide) rfl).1 (t_F_nc fc rfl (by decide)) (t_F_nc fc rfl (by decide)) (t_F_nc fc rfl (by decide)) (t_F_nc fc rfl (by decide)), Z, (q229 ((s_PY D ar1.toInt) 0 0).toNat Z hn h1).1, ?_, ?_, h4⟩
                                                            · rw [(fc 69 66 (by decide) rfl).1, (fc 69 67 (by decide) rfl).1]; exact h2
                                                            · rw [(fc 69 65 (by decide) rfl).1]; exact h3)))⟩⟩
                  · have u230 : (gi217 69 59).toInt ≤ 300 := t_ltu (t_nle h221) (by decide : (301:Int32).toInt ≤ (301:Int)) rfl
                    refine ev_loc f_X12_keeps (nx := 181) rfl rfl rfl rfl ?_
                    refine ev_gvI f_X12_keeps (nx := 184) (w := (gi217 69 69)) rfl (hI.wf.s rfl) rfl rfl rfl rfl ?_
                    refine ev_ic f_X12_keeps (nx := 185) (v := -1) rfl (by decide) rfl ?_
                    refine ev_if f_X12_keeps (t1 := 188) (t2 := 205) rfl rfl rfl (fun h231 => ?_) (fun h231 => ?_)
                    · have u232 : (gi217 69 69).toInt ≤ (-1) := t_equ h231 (by decide : ((-1):Int32).toInt ≤ ((-1):Int))
                      have l233 : (-1) ≤ (gi217 69 69).toInt := t_eql h231 (by decide : ((-1):Int) ≤ ((-1):Int32).toInt)
                      refine ev_loc f_X12_keeps (nx := 189) rfl rfl rfl rfl ?_
                      refine ev_qN f_X12_keeps (nx := 192) (r := []) rfl rfl rfl rfl rfl rfl rfl (c_y_minuteGoes hI  j217_0) rfl hX rfl (fun gi234 gl234 gr234 hI hX hC234 q234 => ?_)
                      have ff235 : (gi217 70 4).toInt = (gi 70 4).toInt := congrArg Int32.toInt c217_3
                      have q234 : (∀ (P : Nat → Nat → Int) (Z : Nat → Int) (R : List (List Int × Int)), s_TP gi217 (gi217 70 4).toInt P → t_IJ (P 0 0).toNat gi217 → t_YS (P 0 0).toNat Z gi217 → t_MB (gi217 69 59).toInt Z gi217 → s_okz P Z → s_PO P → s_PB P → t_MQ (gi217 70) R → s_crs R → (s_done P (s_en (gi217 69 59).toInt Z) → (gi234 69 69).toInt = (gi217 69 59).toInt ∧ t_YS (P 0 0).toNat (s_en (gi217 69 59).toInt Z) gi234 ∧ t_MZ (gi217 69 59).toInt (s_en (gi217 69 59).toInt Z) gi234) ∧ (¬ s_done P (s_en (gi217 69 59).toInt Z) → gi234 69 69 = gi217 69 69 ∧ t_YS (P 0 0).toNat (s_mn P (fun F => s_ac F R) (gi217 69 59).toInt Z) gi234 ∧ t_MB ((gi217 69 59).toInt + 1) (s_mn P (fun F => s_ac F R) (gi217 69 59).toInt Z) gi234)) := q234
                      refine ev_loc f_X12_keeps (nx := 193) rfl rfl rfl rfl ?_
                      refine ev_alu f_X12_keeps (nx := 194) rfl rfl rfl rfl ?_
                      refine ev_gvI f_X12_keeps (nx := 197) (w := (gi217 69 59)) rfl (hI.wf.s rfl) rfl rfl ((hC234.1 69 59 rfl).1.trans rfl) rfl ?_
                      refine ev_ic f_X12_keeps (nx := 198) (v := 1) rfl (by decide) rfl ?_
                      refine ev_addC f_X12_keeps (nx := 199) (c := 1) (l := 1) (u := 301) rfl (by decide) l219 u230 rfl rfl (by decide) (by decide) rfl (fun z237 e237 l237 u237 => ?_)
                      refine ev_putIT f_X12_keeps (nx := 202) rfl (hI.wf.s rfl) rfl rfl rfl (hI.putB (hI.wf.s rfl) rfl rfl l237 (by decide) u237 (by decide)) (hX.upI rfl) (fun g238 e238 hI hX => ?_)
                      refine ev_jmp f_X12_keeps (nx := 170) rfl rfl rfl ?_
                      refine ev_sub (lo := [(2, .int y201_2), (0, .ref 69), (1, .int ar1)]) rfl (t_sc rfl (t_sc rfl (t_sc rfl t_sn))) ?_
                      have hq217 := ((by rw [e238]; exact x_up2_at _ _ _ _ : g238 69 59 = z237) : g238 69 59 = z237)
                      exact ih217 _ (by rw [hq217]; omega) g238 gl234 gr234  hI hX  ((by rw [e238]; exact x_up2_off (Or.inr (by decide)) : g238 69 46 = gi234 69 46).trans ((hC234.1 69 46 rfl).1.trans c217_0)) ((by rw [e238]; exact x_up2_off (Or.inr (by decide)) : g238 70 1 = gi234 70 1).trans ((hC234.1 70 1 rfl).1.trans c217_1)) ((by rw [e238]; exact x_up2_off (Or.inr (by decide)) : g238 70 2 = gi234 70 2).trans ((hC234.1 70 2 rfl).1.trans c217_2)) ((by rw [e238]; exact x_up2_off (Or.inr (by decide)) : g238 70 4 = gi234 70 4).trans ((hC234.1 70 4 rfl).1.trans c217_3)) (by have hq := ((by rw [e238]; exact x_up2_ne (by decide) : g238 70 = gi234 70).trans ((funext (fun j => (hC234.1 70 j rfl).1) : gi234 70 = gi217 70))); rw [hq]; exact j217_0) (fun D R hm hb hd h46 hsd hQ hcr => (by
                                                            obtain ⟨g1, g2, g3, g4⟩ := j217_1 D R hm hb hd h46 hsd hQ hcr
                                                            have fn := t_F_X hX170_217
                                                            have E70 : gi217 70 = gi 70 := t_F_nc fn rfl (by decide)
                                                            have b59 := hIw217.b (hIw217.wf.s (k := 69) rfl) (t_bdK rfl : t_bd 11 59 = some (0, 301))
                                                            have h69 : (gi217 69 69).toInt = -1 := by omega
                                                            obtain ⟨Z, hZ⟩ := g3 h69
                                                            have hq := q234 (s_PY D ar1.toInt) Z R g1 g2 hZ.1 hZ.2.1 hZ.2.2.1 (s_PY_O hb hd) (s_PY_B hb hd) (by rw [E70]; exact hQ) hcr
                                                            have hs := t_YD.step hZ ⟨by omega, by omega⟩ (s_PY_O hb hd) hq.1 (fun hh => hq.2 hh) h69
                                                            have fc := t_F_X hC234
                                                            have E59 : (g238 69 59).toInt = (gi217 69 59).toInt + 1 := by have m_ := congrArg Int32.toInt (fc 69 59 (by decide) rfl).1; rw [e238, x_up2_at]; omega
                                                            have E69 : g238 69 69 = gi234 69 69 := by rw [e238, x_up2_off (Or.inr (by decide))]
                                                            have E70b : g238 70 = gi217 70 := ((funext fun j => by rw [e238, x_up2_off (Or.inl (by decide))] : g238 70 = gi234 70).trans (t_F_nc fc rfl (by decide)))
                                                            have E90 : g238 90 = gi217 90 := ((funext fun j => by rw [e238, x_up2_off (Or.inl (by decide))] : g238 90 = gi234 90).trans (t_F_nc fc rfl (by decide)))
                                                            refine ⟨by rw [E70b]; exact g1.eq (by rw [e238, x_up2_off (Or.inr (by decide)), (fc 69 44 (by decide) rfl).1]) (by rw [e238, x_up2_off (Or.inr (by decide)), (fc 69 45 (by decide) rfl).1]) E70b ((funext fun j => by rw [e238, x_up2_off (Or.inl (by decide))] : g238 89 = gi234 89).trans (t_F_nc fc rfl (by decide))) E90 ((funext fun j => by rw [e238, x_up2_off (Or.inl (by decide))] : g238 91 = gi234 91).trans (t_F_nc fc rfl (by decide))), g2.eq E90, fun hh => ?_, fun hh => ?_⟩
                                                            · rw [E59]; exact (hs.1 (by rw [← E69]; exact hh)).fr (fun j a b => by rw [e238, x_up2_off (Or.inr (by omega))]) (funext fun j => by rw [e238, x_up2_off (Or.inl (by decide))]) (funext fun j => by rw [e238, x_up2_off (Or.inl (by decide))])
                                                            · exact (hs.2 (by rw [← E69]; exact hh)).fr (by rw [e238, x_up2_off (Or.inr (by decide))]) (by rw [e238, x_up2_off (Or.inr (by decide))]) (by rw [e238, x_up2_off (Or.inr (by decide))]) (by rw [e238, x_up2_off (Or.inr (by decide))]) (funext fun j => by rw [e238, x_up2_off (Or.inl (by decide))]) (funext fun j => by rw [e238, x_up2_off (Or.inl (by decide))]))) rfl
                    · have r239 : (gi217 69 69).toInt ≠ (-1) := fun e => h231 (Int32.toInt_inj.mp (e.trans (by decide : ((-1):Int) = ((-1) : Int32).toInt)))
                      refine ev_loc f_X12_keeps (nx := 206) rfl rfl rfl rfl ?_
                      refine ev_gvI f_X12_keeps (nx := 209) (w := (gi217 69 69)) rfl (hI.wf.s rfl) rfl rfl rfl rfl ?_
                      refine ev_ic f_X12_keeps (nx := 210) (v := -1) rfl (by decide) rfl ?_
                      refine ev_if f_X12_keeps (t1 := 213) (t2 := 220) rfl rfl rfl (fun h240 => ?_) (fun h240 => ?_)
                      · have u241 : (gi217 69 69).toInt ≤ (-1) := t_equ h240 (by decide : ((-1):Int32).toInt ≤ ((-1):Int))
                        have l242 : (-1) ≤ (gi217 69 69).toInt := t_eql h240 (by decide : ((-1):Int) ≤ ((-1):Int32).toInt)
                        refine ev_loc f_X12_keeps (nx := 214) rfl rfl rfl rfl ?_
                        refine ev_sp f_X12_keeps (nx := 217) (v := 301) rfl (by decide) rfl ?_
                        refine ev_putIT f_X12_keeps (nx := 220) rfl (hI.wf.s rfl) rfl rfl rfl (hI.put0 (hI.wf.s rfl) rfl rfl) (hX.upI rfl) (fun g243 e243 hI hX => ?_)
                        refine ev_loc f_X12_keeps (nx := 221) rfl rfl rfl rfl ?_
                        refine ev_qN f_X12_keeps (nx := 224) (r := []) rfl rfl rfl rfl rfl rfl rfl (c_y_passesOver hI ) rfl hX rfl (fun gi244 gl244 gr244 hI hX hC244 q244 => ?_)
                        have q244 : (∀ (n : Nat) (Z : Nat → Int), n = t_S g243 → t_YS n Z g243 → t_YS n Z gi244 ∧ (gi244 69 64).toInt = ((s_f1 Z n 0 : Nat) : Int)) := q244
                        exact ev_ret f_X12_keeps rfl rfl rfl ⟨_, _, _, rfl, hI, hX, ⟨rfl, (show (∀ (D : s_D) (R : List (List Int × Int)), t_ME 0 gi D → t_Cb D → s_DB D → (gi 69 46).toInt = -1 → (-1 ≤ ar1.toInt ∧ ar1.toInt ≤ 9999) → t_MQ (gi 70) R → s_crs R → s_TP gi244 (gi244 70 4).toInt (s_PY D ar1.toInt) ∧ t_YR (s_PY D ar1.toInt) (fun F => s_ac F R) gi244) from (fun D R hm hb hd h46 hsd hQ hcr => (by
                                                            obtain ⟨g1, g2, g3, g4⟩ := j217_1 D R hm hb hd h46 hsd hQ hcr
                                                            have b1 := hb.2.1
                                                            have fc := t_F_X hC244
                                                            have hr := ((g3 (by omega)).out (by omega)).fr (g1 := g243) (by rw [e243, x_up2_off (Or.inr (by decide))]) (by rw [e243, x_up2_off (Or.inr (by decide))]) (by rw [e243, x_up2_off (Or.inr (by decide))]) (by rw [e243, x_up2_off (Or.inr (by decide))]) (funext fun j => by rw [e243, x_up2_off (Or.inl (by decide))]) (funext fun j => by rw [e243, x_up2_off (Or.inl (by decide))])
                                                            have T := g1.eq (g1 := g243) (by rw [e243, x_up2_off (Or.inr (by decide))]) (by rw [e243, x_up2_off (Or.inr (by decide))]) (funext fun j => by rw [e243, x_up2_off (Or.inl (by decide))]) (funext fun j => by rw [e243, x_up2_off (Or.inl (by decide))]) (funext fun j => by rw [e243, x_up2_off (Or.inl (by decide))]) (funext fun j => by rw [e243, x_up2_off (Or.inl (by decide))])
                                                            have E70 : g243 70 = gi217 70 := (funext fun j => by rw [e243, x_up2_off (Or.inl (by decide))])
                                                            obtain ⟨Z, h1, h2, h3, h4⟩ := hr
                                                            have hn : ((s_PY D ar1.toInt) 0 0).toNat = t_S g243 := by have h9 := T.1.1; omega
                                                            have E70c : gi244 70 = gi217 70 := (t_F_nc fc rfl (by decide)).trans E70
                                                            refine ⟨by rw [E70c]; exact T.eq (fc 69 44 (by decide) rfl).1 (fc 69 45 (by decide) rfl).1 (t_F_nc fc rfl (by decide)) (t_F_nc fc rfl (by decide)) (t_F_nc fc rfl (by decide)) (t_F_nc fc rfl (by decide)), Z, (q244 ((s_PY D ar1.toInt) 0 0).toNat Z hn h1).1, ?_, ?_, h4⟩
                                                            · rw [(fc 69 66 (by decide) rfl).1, (fc 69 67 (by decide) rfl).1]; exact h2
                                                            · rw [(fc 69 65 (by decide) rfl).1]; exact h3)))⟩⟩
                      · have r245 : (gi217 69 69).toInt ≠ (-1) := fun e => h240 (Int32.toInt_inj.mp (e.trans (by decide : ((-1):Int) = ((-1) : Int32).toInt)))
                        refine ev_loc f_X12_keeps (nx := 221) rfl rfl rfl rfl ?_
                        refine ev_qN f_X12_keeps (nx := 224) (r := []) rfl rfl rfl rfl rfl rfl rfl (c_y_passesOver hI ) rfl hX rfl (fun gi246 gl246 gr246 hI hX hC246 q246 => ?_)
                        have q246 : (∀ (n : Nat) (Z : Nat → Int), n = t_S gi217 → t_YS n Z gi217 → t_YS n Z gi246 ∧ (gi246 69 64).toInt = ((s_f1 Z n 0 : Nat) : Int)) := q246
                        exact ev_ret f_X12_keeps rfl rfl rfl ⟨_, _, _, rfl, hI, hX, ⟨rfl, (show (∀ (D : s_D) (R : List (List Int × Int)), t_ME 0 gi D → t_Cb D → s_DB D → (gi 69 46).toInt = -1 → (-1 ≤ ar1.toInt ∧ ar1.toInt ≤ 9999) → t_MQ (gi 70) R → s_crs R → s_TP gi246 (gi246 70 4).toInt (s_PY D ar1.toInt) ∧ t_YR (s_PY D ar1.toInt) (fun F => s_ac F R) gi246) from (fun D R hm hb hd h46 hsd hQ hcr => (by
                                                            obtain ⟨g1, g2, g3, g4⟩ := j217_1 D R hm hb hd h46 hsd hQ hcr
                                                            have b1 := hb.2.1
                                                            have fc := t_F_X hC246
                                                            have hr := g4 (by omega)
                                                            have T := g1
                                                            have E70 : gi217 70 = gi217 70 := rfl
                                                            obtain ⟨Z, h1, h2, h3, h4⟩ := hr
                                                            have hn : ((s_PY D ar1.toInt) 0 0).toNat = t_S gi217 := by have h9 := T.1.1; omega
                                                            have E70c : gi246 70 = gi217 70 := (t_F_nc fc rfl (by decide)).trans E70
                                                            refine ⟨by rw [E70c]; exact T.eq (fc 69 44 (by decide) rfl).1 (fc 69 45 (by decide) rfl).1 (t_F_nc fc rfl (by decide)) (t_F_nc fc rfl (by decide)) (t_F_nc fc rfl (by decide)) (t_F_nc fc rfl (by decide)), Z, (q246 ((s_PY D ar1.toInt) 0 0).toNat Z hn h1).1, ?_, ?_, h4⟩
                                                            · rw [(fc 69 66 (by decide) rfl).1, (fc 69 67 (by decide) rfl).1]; exact h2
                                                            · rw [(fc 69 65 (by decide) rfl).1]; exact h3)))⟩⟩
                refine ev_sub (lo := [(2, .int y201_2), (0, .ref 69), (1, .int ar1)]) rfl (t_sc rfl (t_sc rfl (t_sc rfl t_sn))) ?_
                exact L217 _ g216 gl201 gr201  hI hX  ((by rw [e216]; exact x_up2_off (Or.inr (by decide)) : g216 69 46 = g215 69 46).trans ((by rw [e215]; exact x_up2_off (Or.inr (by decide)) : g215 69 46 = g214 69 46).trans ((by rw [e214]; exact x_up2_off (Or.inr (by decide)) : g214 69 46 = g213 69 46).trans ((by rw [e213]; exact x_up2_off (Or.inr (by decide)) : g213 69 46 = g212 69 46).trans ((by rw [e212]; exact x_up2_off (Or.inr (by decide)) : g212 69 46 = g211 69 46).trans ((by rw [e211]; exact x_up2_off (Or.inr (by decide)) : g211 69 46 = g210 69 46).trans ((by rw [e210]; exact x_up2_off (Or.inr (by decide)) : g210 69 46 = g209 69 46).trans ((by rw [e209]; exact x_up2_off (Or.inr (by decide)) : g209 69 46 = g208 69 46).trans ((by rw [e208]; exact x_up2_off (Or.inr (by decide)) : g208 69 46 = g207 69 46).trans ((by rw [e207]; exact x_up2_off (Or.inr (by decide)) : g207 69 46 = g206 69 46).trans ((by rw [e206]; exact x_up2_off (Or.inr (by decide)) : g206 69 46 = g205 69 46).trans ((by rw [e205]; exact x_up2_off (Or.inr (by decide)) : g205 69 46 = gi201 69 46).trans c201_0)))))))))))) ((by rw [e216]; exact x_up2_off (Or.inr (by decide)) : g216 70 1 = g215 70 1).trans ((by rw [e215]; exact x_up2_off (Or.inr (by decide)) : g215 70 1 = g214 70 1).trans ((by rw [e214]; exact x_up2_off (Or.inr (by decide)) : g214 70 1 = g213 70 1).trans ((by rw [e213]; exact x_up2_off (Or.inr (by decide)) : g213 70 1 = g212 70 1).trans ((by rw [e212]; exact x_up2_off (Or.inr (by decide)) : g212 70 1 = g211 70 1).trans ((by rw [e211]; exact x_up2_off (Or.inr (by decide)) : g211 70 1 = g210 70 1).trans ((by rw [e210]; exact x_up2_off (Or.inr (by decide)) : g210 70 1 = g209 70 1).trans ((by rw [e209]; exact x_up2_off (Or.inr (by decide)) : g209 70 1 = g208 70 1).trans ((by rw [e208]; exact x_up2_off (Or.inr (by decide)) : g208 70 1 = g207 70 1).trans ((by rw [e207]; exact x_up2_off (Or.inr (by decide)) : g207 70 1 = g206 70 1).trans ((by rw [e206]; exact x_up2_off (Or.inr (by decide)) : g206 70 1 = g205 70 1).trans ((by rw [e205]; exact x_up2_off (Or.inr (by decide)) : g205 70 1 = gi201 70 1).trans c201_3)))))))))))) ((by rw [e216]; exact x_up2_off (Or.inr (by decide)) : g216 70 2 = g215 70 2).trans ((by rw [e215]; exact x_up2_off (Or.inr (by decide)) : g215 70 2 = g214 70 2).trans ((by rw [e214]; exact x_up2_off (Or.inr (by decide)) : g214 70 2 = g213 70 2).trans ((by rw [e213]; exact x_up2_off (Or.inr (by decide)) : g213 70 2 = g212 70 2).trans ((by rw [e212]; exact x_up2_off (Or.inr (by decide)) : g212 70 2 = g211 70 2).trans ((by rw [e211]; exact x_up2_off (Or.inr (by decide)) : g211 70 2 = g210 70 2).trans ((by rw [e210]; exact x_up2_off (Or.inr (by decide)) : g210 70 2 = g209 70 2).trans ((by rw [e209]; exact x_up2_off (Or.inr (by decide)) : g209 70 2 = g208 70 2).trans ((by rw [e208]; exact x_up2_off (Or.inr (by decide)) : g208 70 2 = g207 70 2).trans ((by rw [e207]; exact x_up2_off (Or.inr (by decide)) : g207 70 2 = g206 70 2).trans ((by rw [e206]; exact x_up2_off (Or.inr (by decide)) : g206 70 2 = g205 70 2).trans ((by rw [e205]; exact x_up2_off (Or.inr (by decide)) : g205 70 2 = gi201 70 2).trans c201_4)))))))))))) ((by rw [e216]; exact x_up2_off (Or.inr (by decide)) : g216 70 4 = g215 70 4).trans ((by rw [e215]; exact x_up2_off (Or.inr (by decide)) : g215 70 4 = g214 70 4).trans ((by rw [e214]; exact x_up2_off (Or.inr (by decide)) : g214 70 4 = g213 70 4).trans ((by rw [e213]; exact x_up2_off (Or.inr (by decide)) : g213 70 4 = g212 70 4).trans ((by rw [e212]; exact x_up2_off (Or.inr (by decide)) : g212 70 4 = g211 70 4).trans ((by rw [e211]; exact x_up2_off (Or.inr (by decide)) : g211 70 4 = g210 70 4).trans ((by rw [e210]; exact x_up2_off (Or.inr (by decide)) : g210 70 4 = g209 70 4).trans ((by rw [e209]; exact x_up2_off (Or.inr (by decide)) : g209 70 4 = g208 70 4).trans ((by rw [e208]; exact x_up2_off (Or.inr (by decide)) : g208 70 4 = g207 70 4).trans ((by rw [e207]; exact x_up2_off (Or.inr (by decide)) : g207 70 4 = g206 70 4).trans ((by rw [e206]; exact x_up2_off (Or.inr (by decide)) : g206 70 4 = g205 70 4).trans ((by rw [e205]; exact x_up2_off (Or.inr (by decide)) : g205 70 4 = gi201 70 4).trans c201_5)))))))))))) (by have hq := ((by rw [e216]; exact x_up2_ne (by decide) : g216 70 = g215 70).trans ((by rw [e215]; exact x_up2_ne (by decide) : g215 70 = g214 70).trans ((by rw [e214]; exact x_up2_ne (by decide) : g214 70 = g213 70).trans ((by rw [e213]; exact x_up2_ne (by decide) : g213 70 = g212 70).trans ((by rw [e212]; exact x_up2_ne (by decide) : g212 70 = g211 70).trans ((by rw [e211]; exact x_up2_ne (by decide) : g211 70 = g210 70).trans ((by rw [e210]; exact x_up2_ne (by decide) : g210 70 = g209 70).trans ((by rw [e209]; exact x_up2_ne (by decide) : g209 70 = g208 70).trans ((by rw [e208]; exact x_up2_ne (by decide) : g208 70 = g207 70).trans ((by rw [e207]; exact x_up2_ne (by decide) : g207 70 = g206 70).trans ((by rw [e206]; exact x_up2_ne (by decide) : g206 70 = g205 70).trans ((by rw [e205]; exact x_up2_ne (by decide) : g205 70 = gi201 70))))))))))))); rw [hq]; exact j201_0) (fun D R hm hb hd h46 hsd hQ hcr => (by
                                                            obtain ⟨g1, g2, g3, g4⟩ := j201_1 D R hm hb hd h46 hsd hQ hcr
                                                            have b1 := hb.2.1
                                                            have b2 := hb.2.2
                                                            have E70 : g216 70 = gi201 70 := (funext fun j => by rw [e216, x_up2_off (Or.inl (by decide)), e215, x_up2_off (Or.inl (by decide)), e214, x_up2_off (Or.inl (by decide)), e213, x_up2_off (Or.inl (by decide)), e212, x_up2_off (Or.inl (by decide)), e211, x_up2_off (Or.inl (by decide)), e210, x_up2_off (Or.inl (by decide)), e209, x_up2_off (Or.inl (by decide)), e208, x_up2_off (Or.inl (by decide)), e207, x_up2_off (Or.inl (by decide)), e206, x_up2_off (Or.inl (by decide)), e205, x_up2_off (Or.inl (by decide))])
                                                            have E90 : g216 90 = gi201 90 := (funext fun j => by rw [e216, x_up2_off (Or.inl (by decide)), e215, x_up2_off (Or.inl (by decide)), e214, x_up2_off (Or.inl (by decide)), e213, x_up2_off (Or.inl (by decide)), e212, x_up2_off (Or.inl (by decide)), e211, x_up2_off (Or.inl (by decide)), e210, x_up2_off (Or.inl (by decide)), e209, x_up2_off (Or.inl (by decide)), e208, x_up2_off (Or.inl (by decide)), e207, x_up2_off (Or.inl (by decide)), e206, x_up2_off (Or.inl (by decide)), e205, x_up2_off (Or.inl (by decide))])
                                                            have E99 : g216 99 = gi201 99 := (funext fun j => by rw [e216, x_up2_off (Or.inl (by decide)), e215, x_up2_off (Or.inl (by decide)), e214, x_up2_off (Or.inl (by decide)), e213, x_up2_off (Or.inl (by decide)), e212, x_up2_off (Or.inl (by decide)), e211, x_up2_off (Or.inl (by decide)), e210, x_up2_off (Or.inl (by decide)), e209, x_up2_off (Or.inl (by decide)), e208, x_up2_off (Or.inl (by decide)), e207, x_up2_off (Or.inl (by decide)), e206, x_up2_off (Or.inl (by decide)), e205, x_up2_off (Or.inl (by decide))])
                                                            refine ⟨by rw [E70]; exact g1.eq (by rw [e216, x_up2_off (Or.inr (by decide)), e215, x_up2_off (Or.inr (by decide)), e214, x_up2_off (Or.inr (by decide)), e213, x_up2_off (Or.inr (by decide)), e212, x_up2_off (Or.inr (by decide)), e211, x_up2_off (Or.inr (by decide)), e210, x_up2_off (Or.inr (by decide)), e209, x_up2_off (Or.inr (by decide)), e208, x_up2_off (Or.inr (by decide)), e207, x_up2_off (Or.inr (by decide)), e206, x_up2_off (Or.inr (by decide)), e205, x_up2_off (Or.inr (by decide))]) (by rw [e216, x_up2_off (Or.inr (by decide)), e215, x_up2_off (Or.inr (by decide)), e214, x_up2_off (Or.inr (by decide)), e213, x_up2_off (Or.inr (by decide)), e212, x_up2_off (Or.inr (by decide)), e211, x_up2_off (Or.inr (by decide)), e210, x_up2_off (Or.inr (by decide)), e209, x_up2_off (Or.inr (by decide)), e208, x_up2_off (Or.inr (by decide)), e207, x_up2_off (Or.inr (by decide)), e206, x_up2_off (Or.inr (by decide)), e205, x_up2_off (Or.inr (by decide))]) E70 (funext fun j => by rw [e216, x_up2_off (Or.inl (by decide)), e215, x_up2_off (Or.inl (by decide)), e214, x_up2_off (Or.inl (by decide)), e213, x_up2_off (Or.inl (by decide)), e212, x_up2_off (Or.inl (by decide)), e211, x_up2_off (Or.inl (by decide)), e210, x_up2_off (Or.inl (by decide)), e209, x_up2_off (Or.inl (by decide)), e208, x_up2_off (Or.inl (by decide)), e207, x_up2_off (Or.inl (by decide)), e206, x_up2_off (Or.inl (by decide)), e205, x_up2_off (Or.inl (by decide))]) E90 (funext fun j => by rw [e216, x_up2_off (Or.inl (by decide)), e215, x_up2_off (Or.inl (by decide)), e214, x_up2_off (Or.inl (by decide)), e213, x_up2_off (Or.inl (by decide)), e212, x_up2_off (Or.inl (by decide)), e211, x_up2_off (Or.inl (by decide)), e210, x_up2_off (Or.inl (by decide)), e209, x_up2_off (Or.inl (by decide)), e208, x_up2_off (Or.inl (by decide)), e207, x_up2_off (Or.inl (by decide)), e206, x_up2_off (Or.inl (by decide)), e205, x_up2_off (Or.inl (by decide))]), g2.eq E90, fun _ => ⟨fun _ => 0, t_YS_0 (by rw [e216, x_up2_off (Or.inr (by decide)), e215, x_up2_off (Or.inr (by decide)), e214, x_up2_off (Or.inr (by decide)), e213, x_up2_off (Or.inr (by decide)), e212, x_up2_off (Or.inr (by decide)), e211, x_up2_off (Or.inr (by decide)), e210, x_up2_off (Or.inr (by decide)), e209, x_up2_at]; rfl) (fun k hk => by unfold t_si; rw [E90]; exact g3 k hk) (fun j hj => by rw [E99]; exact g4 j (by omega)), ?_, s_okz_0 (by show 0 ≤ (((D 2).toNat : Nat) : Int); omega), ?_⟩, fun hh => absurd (by rw [e216, x_up2_off (Or.inr (by decide)), e215, x_up2_at]; rfl) hh⟩
                                                            · rw [show (g216 69 59).toInt = 0 by rw [e216, x_up2_at]; rfl]; exact t_YB_0 (by rw [e216, x_up2_off (Or.inr (by decide)), e215, x_up2_off (Or.inr (by decide)), e214, x_up2_off (Or.inr (by decide)), e213, x_up2_off (Or.inr (by decide)), e212, x_up2_off (Or.inr (by decide)), e211, x_up2_off (Or.inr (by decide)), e210, x_up2_off (Or.inr (by decide)), e209, x_up2_off (Or.inr (by decide)), e208, x_up2_off (Or.inr (by decide)), e207, x_up2_off (Or.inr (by decide)), e206, x_up2_off (Or.inr (by decide)), e205, x_up2_at]; rfl) (by rw [e216, x_up2_off (Or.inr (by decide)), e215, x_up2_off (Or.inr (by decide)), e214, x_up2_off (Or.inr (by decide)), e213, x_up2_off (Or.inr (by decide)), e212, x_up2_off (Or.inr (by decide)), e211, x_up2_off (Or.inr (by decide)), e210, x_up2_off (Or.inr (by decide)), e209, x_up2_off (Or.inr (by decide)), e208, x_up2_off (Or.inr (by decide)), e207, x_up2_off (Or.inr (by decide)), e206, x_up2_at]; rfl) (by rw [e216, x_up2_off (Or.inr (by decide)), e215, x_up2_off (Or.inr (by decide)), e214, x_up2_off (Or.inr (by decide)), e213, x_up2_off (Or.inr (by decide)), e212, x_up2_off (Or.inr (by decide)), e211, x_up2_off (Or.inr (by decide)), e210, x_up2_off (Or.inr (by decide)), e209, x_up2_off (Or.inr (by decide)), e208, x_up2_off (Or.inr (by decide)), e207, x_up2_at]; rfl) (by rw [e216, x_up2_off (Or.inr (by decide)), e215, x_up2_off (Or.inr (by decide)), e214, x_up2_off (Or.inr (by decide)), e213, x_up2_off (Or.inr (by decide)), e212, x_up2_off (Or.inr (by decide)), e211, x_up2_off (Or.inr (by decide)), e210, x_up2_off (Or.inr (by decide)), e209, x_up2_off (Or.inr (by decide)), e208, x_up2_at]; rfl) (by rw [e216, x_up2_off (Or.inr (by decide)), e215, x_up2_off (Or.inr (by decide)), e214, x_up2_off (Or.inr (by decide)), e213, x_up2_off (Or.inr (by decide)), e212, x_up2_off (Or.inr (by decide)), e211, x_up2_off (Or.inr (by decide)), e210, x_up2_at]; rfl) (by rw [e216, x_up2_off (Or.inr (by decide)), e215, x_up2_off (Or.inr (by decide)), e214, x_up2_off (Or.inr (by decide)), e213, x_up2_off (Or.inr (by decide)), e212, x_up2_off (Or.inr (by decide)), e211, x_up2_at]; rfl) (by rw [e216, x_up2_off (Or.inr (by decide)), e215, x_up2_off (Or.inr (by decide)), e214, x_up2_off (Or.inr (by decide)), e213, x_up2_off (Or.inr (by decide)), e212, x_up2_at]; rfl)
                                                            · rw [show (g216 69 59).toInt = 0 by rw [e216, x_up2_at]; rfl]; rfl)) rfl
              · have u247 : y201_2.toInt ≤ 5 := t_ltu (t_nle h203) (by decide : (6:Int32).toInt ≤ (6:Int)) rfl
                refine ev_loc f_X12_keeps (nx := 98) rfl rfl rfl rfl ?_
                refine ev_getR f_X12_keeps (nx := 101) rfl (hI.wf.s rfl) rfl rfl (hI.wf.r rfl) rfl rfl ?_
                refine ev_loc f_X12_keeps (nx := 102) rfl rfl rfl rfl ?_
                refine ev_ic f_X12_keeps (nx := 103) (v := 0) rfl (by decide) rfl ?_
                refine ev_zastE f_X12_keeps (nx := 104) rfl (hI.wf.s rfl) l201_2 (by decide) u247 (by decide) rfl (fun x l u => hI.astL (hI.wf.s rfl) (by decide +kernel : t_abw 99 0 5 0 1 = true) (t_cl1 l201_2 (by decide)) (t_cl2 l201_2 u247 (by decide) (by decide)) l u rfl) (fun x => hX.upI (t_inA_ok rfl)) (fun g248 x248 e248 ex248 hI hX => ?_)
                refine ev_incR f_X12_keeps (nx := 107) (c := 1) (l := 1) (u := 6) rfl rfl (by decide) (by decide) l201_2 u247 rfl rfl (by decide) (by decide) rfl (fun z249 e249 l249 u249 => ?_)
                refine ev_jmp f_X12_keeps (nx := 91) rfl rfl rfl ?_
                refine ev_sub (lo := [(2, .int z249), (0, .ref 69), (1, .int ar1)]) rfl (t_sc rfl (t_sc rfl (t_sc rfl t_sn))) ?_
                exact ih201 _ (by omega) g248 gl201 gr201 (z249) hI hX  (Int.le_trans (by decide : (0:Int) ≤ 1) l249) u249 ((by rw [e248]; exact x_up2_off (Or.inl (by decide)) : g248 69 46 = gi201 69 46).trans c201_0) ((by rw [e248]; exact x_up2_off (Or.inl (by decide)) : g248 69 59 = gi201 69 59).trans c201_1) ((by rw [e248]; exact x_up2_off (Or.inl (by decide)) : g248 69 69 = gi201 69 69).trans c201_2) ((by rw [e248]; exact x_up2_off (Or.inl (by decide)) : g248 70 1 = gi201 70 1).trans c201_3) ((by rw [e248]; exact x_up2_off (Or.inl (by decide)) : g248 70 2 = gi201 70 2).trans c201_4) ((by rw [e248]; exact x_up2_off (Or.inl (by decide)) : g248 70 4 = gi201 70 4).trans c201_5) (by have hq := ((by rw [e248]; exact x_up2_ne (by decide) : g248 70 = gi201 70)); rw [hq]; exact j201_0) (fun D R hm hb hd h46 hsd hQ hcr => (by
                                                            obtain ⟨g1, g2, g3, g4⟩ := j201_1 D R hm hb hd h46 hsd hQ hcr
                                                            have E70 : g248 70 = gi201 70 := (funext fun j => by rw [e248, x_up2_off (Or.inl (by decide))])
                                                            have E90 : g248 90 = gi201 90 := (funext fun j => by rw [e248, x_up2_off (Or.inl (by decide))])
                                                            refine ⟨by rw [E70]; exact g1.eq (by rw [e248, x_up2_off (Or.inl (by decide))]) (by rw [e248, x_up2_off (Or.inl (by decide))]) E70 (funext fun j => by rw [e248, x_up2_off (Or.inl (by decide))]) E90 (funext fun j => by rw [e248, x_up2_off (Or.inl (by decide))]), g2.eq E90, fun k hk => by unfold t_si; rw [E90]; exact g3 k hk, fun j hj => ?_⟩
                                                            have cy := t_clamp (i := y201_2) (by omega)
                                                            by_cases h : j = y201_2.toNatClampNeg
                                                            · rw [e248, h, x_up2_at]; first | rfl | (rw [ex248]; rfl) | (rw [ex248]; decide)
                                                            · rw [e248, x_up2_off (Or.inr h)]; exact g4 j (by omega))) rfl
            refine ev_sub (lo := [(2, .int 0), (0, .ref 69), (1, .int ar1)]) rfl (t_sc rfl (t_sc rfl (t_sc rfl t_sn))) ?_
            exact L201 _ gi199 gl199 gr199 (0) hI hX  (by decide : (0:Int) ≤ (0:Int32).toInt) (Int.le_trans (by decide : (0:Int32).toInt ≤ (0:Int)) (by decide : (0:Int) ≤ 6)) ((hC199.1 69 46 rfl).1.trans c140_0) ((hC199.1 69 59 rfl).1.trans c140_1) ((hC199.1 69 69 rfl).1.trans c140_2) ((hC199.1 70 1 rfl).1.trans c140_3) ((hC199.1 70 2 rfl).1.trans rfl) ((hC199.1 70 4 rfl).1.trans c140_4) (by have hq := ((funext (fun j => (hC199.1 70 j rfl).1) : gi199 70 = gi140 70)); rw [hq]; exact j140_0) (fun D R hm hb hd h46 hsd hQ hcr => (by
                                                            have b1 := hb.2.1
                                                            have b2 := hb.2.2
                                                            have k70 : ∀ j : Nat, (j : Int) < D 1 → (gi 70 (53 + 5 * j)).toInt = s_A D j := fun j hj => by have hh := hm.2.2.1 (53 + 5 * j) (by omega) (by omega); rw [Nat.zero_add] at hh; exact hh
                                                            have c70 : ∀ j : Nat, (j : Int) < D 2 → (gi 70 (82 + 3 * j)).toInt = s_B D j := fun j hj => by have hh := hm.2.2.2 (82 + 3 * j) (by omega) (by omega); rw [Nat.zero_add] at hh; exact hh
                                                            have fn := t_F_X hX47_140
                                                            have E70 : gi140 70 = gi 70 := t_F_nc fn rfl (by decide)
                                                            have d1 : (gi140 70 1).toInt = D 1 := by rw [E70]; exact hm.1.1.2.1
                                                            have d2 : (gi140 70 2).toInt = D 2 := by rw [E70]; exact hm.1.1.2.2
                                                            obtain ⟨g1, g2, g3, g4⟩ := j140_1 D R hm hb hd h46 hsd hQ hcr
                                                            have z0 : (0 : Int32).toInt = 0 := rfl
                                                            have cy := t_clamp (i := y140_2) (by omega)
                                                            have hB : ∀ j : Nat, (j : Int) < D 2 → (gi140 89 (6 + j)).toInt = s_By D ar1.toInt j := fun j hj => by
                                                              rw [g4 j hj]; show _ = s_B D j + s_dl ar1.toInt ((D 1).toNat + j)
                                                              by_cases hs : ar1.toInt = -1
                                                              · rw [s_dl_n hs]; split <;> rfl
                                                              · rw [if_pos (by omega)]
                                                            have hmn : t_ME 0 gi140 D := hm.mv hb (fun j _ _ _ => congrFun E70 (0 + j))
                                                            have m46 : (gi140 69 46).toInt = -1 := by rw [(fn 69 46 (by decide) rfl).1]; exact h46
                                                            have hS := q199.2.2.1 D _ hmn hb g3
                                                            have hC := q199.2.2.2 D _ hmn hb hB
                                                            rw [m46] at hC
                                                            have hSa := s_mk_all (A := s_Ay D ar1.toInt) (D 1).toNat (by omega)
                                                            have hCa := s_ff_all (s_By D ar1.toInt) (s_ck (-1)) (D 2).toNat (fun j _ => s_ck_y (by omega))
                                                            have r1 := s_RO_F _ hSa hS.2
                                                            have r2 := s_RO_F _ hCa hC.2
                                                            have E44 := hS.1
                                                            rw [hSa.1] at E44
                                                            have E45 := hC.1
                                                            rw [hCa.1] at E45
                                                            have E70c : gi199 70 = gi 70 := (funext fun j => q199.1 j).trans E70
                                                            have hmc : t_ME 0 gi199 D := hm.mv hb (fun j _ _ _ => congrFun E70c (0 + j))
                                                            refine ⟨s_TP_Y hb hd (by rw [E70c]; exact hm.1.2.1) hmc (by omega) (by omega) r1 r2 (fun j hj => by rw [q199.2.1]; exact g3 j hj) (fun j hj => by rw [q199.2.1]; exact hB j hj), t_IJ_Y r1, fun k hk => ?_, fun j hj => absurd hj (by omega)⟩
                                                            have hk1 : k < (D 1).toNat := Int.ofNat_lt.mp (show (k : Int) < (((D 1).toNat : Nat) : Int) by have h9 : k < (((D 1).toNat : Nat) : Int).toNat := hk; omega)
                                                            have h9 := s_or_lt (s_Ay D ar1.toInt) _ _ hk1
                                                            have e9 : t_si gi199 k = s_or (s_Ay D ar1.toInt) (D 1).toNat k := by unfold t_si; rw [r1 k hk1]; rfl
                                                            rw [e9]; omega)) rfl
        refine ev_sub (lo := [(2, .int 0), (0, .ref 69), (1, .int ar1)]) rfl (t_sc rfl (t_sc rfl (t_sc rfl t_sn))) ?_
        exact L140 _ gi8 gl8 gr8 (0) hI hX  (by decide : (0:Int) ≤ (0:Int32).toInt) (Int.le_trans (by decide : (0:Int32).toInt ≤ (0:Int)) (by decide : (0:Int) ≤ 6)) c8_0 c8_1 c8_2 rfl c8_3 j8_0 (fun D R hm hb hd h46 hsd hQ hcr => (by
                                                            have b1 := hb.2.1
                                                            have b2 := hb.2.2
                                                            have k70 : ∀ j : Nat, (j : Int) < D 1 → (gi 70 (53 + 5 * j)).toInt = s_A D j := fun j hj => by have hh := hm.2.2.1 (53 + 5 * j) (by omega) (by omega); rw [Nat.zero_add] at hh; exact hh
                                                            have c70 : ∀ j : Nat, (j : Int) < D 2 → (gi 70 (82 + 3 * j)).toInt = s_B D j := fun j hj => by have hh := hm.2.2.2 (82 + 3 * j) (by omega) (by omega); rw [Nat.zero_add] at hh; exact hh
                                                            have fn := t_F_X hX11_8
                                                            have E70 : gi8 70 = gi 70 := t_F_nc fn rfl (by decide)
                                                            have d1 : (gi8 70 1).toInt = D 1 := by rw [E70]; exact hm.1.1.2.1
                                                            have d2 : (gi8 70 2).toInt = D 2 := by rw [E70]; exact hm.1.1.2.2
                                                            obtain ⟨g1, g2, g3, g4⟩ := j8_1 D R hm hb hd h46 hsd hQ hcr
                                                            have z0 : (0 : Int32).toInt = 0 := rfl
                                                            have cy := t_clamp (i := y8_2) (by omega)
                                                            refine ⟨?_, by omega, fun j hj => ?_, fun j hj => by rw [if_neg (by omega), g4 j hj]; omega⟩
                                                            · by_cases hs : ar1.toInt = -1
                                                              · exact Or.inl hs
                                                              · right; rw [g1, show y8_2.toNatClampNeg = (D 1).toNat by omega]; rfl
                                                            · rw [g3 j hj]; show _ = s_A D j + s_dl ar1.toInt j
                                                              by_cases hs : ar1.toInt = -1
                                                              · rw [s_dl_n hs]; split <;> rfl
                                                              · rw [if_pos (by omega)])) rfl
      · have r250 : ar1.toInt ≠ (-1) := fun e => h137 (Int32.toInt_inj.mp (e.trans (by decide : ((-1):Int) = ((-1) : Int32).toInt)))
        refine ev_loc f_X12_keeps (nx := 27) rfl rfl rfl rfl ?_
        refine ev_getR f_X12_keeps (nx := 30) rfl (hI.wf.s rfl) rfl rfl (hI.wf.r rfl) rfl rfl ?_
        refine ev_loc f_X12_keeps (nx := 31) rfl rfl rfl rfl ?_
        refine ev_alu f_X12_keeps (nx := 32) rfl rfl rfl rfl ?_
        refine ev_ialdT f_X12_keeps (nx := 33) rfl (hI.wf.s rfl) l8_2 (by decide) u135 (by decide) rfl (fun w251 e251 => ?_)
        refine ev_loc f_X12_keeps (nx := 34) rfl rfl rfl rfl ?_
        refine ev_qI f_X12_keeps (nx := 37) (r := [.int w251, .int y8_2, .ref 89]) rfl rfl rfl rfl rfl rfl rfl (c_y_draw hI ) rfl hX rfl (fun w252 gi252 gl252 gr252 l252 u252 hI hX hC252 q252 => ?_)
        have q252 : (∀ a : Int, (gi8 69 58).toInt = a → 0 ≤ a → a < 65536 → (gi252 69 58).toInt = s_dr1 a ∧ w252.toInt = s_dr1 a / 8 % 8) := q252
        refine ev_anyIE f_X12_keeps (nx := 38) rfl rfl rfl rfl (fun z254 e254 => ?_)
        refine ev_iastT f_X12_keeps (nx := 39) rfl (hI.wf.s rfl) l8_2 (by decide) u135 (by decide) rfl (hI.astG (hI.wf.s rfl) (fun lo hi e => absurd e (t_nob (by decide +kernel) _)) (fun k hk e => by have := hk.2.1; omega)) (hX.upI (t_inR (p := 0) (m := 5) rfl l8_2 (by decide) u135 (by decide) (by decide))) (fun g255 e255 hI hX => ?_)
        refine ev_incR f_X12_keeps (nx := 42) (c := 1) (l := 1) (u := 6) rfl rfl (by decide) (by decide) l8_2 u135 rfl rfl (by decide) (by decide) rfl (fun z256 e256 l256 u256 => ?_)
        refine ev_jmp f_X12_keeps (nx := 11) rfl rfl rfl ?_
        refine ev_sub (lo := [(2, .int z256), (0, .ref 69), (1, .int ar1)]) rfl (t_sc rfl (t_sc rfl (t_sc rfl t_sn))) ?_
        exact ih8 _ (by omega) g255 gl252 gr252 (z256) hI hX  (Int.le_trans (by decide : (0:Int) ≤ 1) l256) u256 ((by rw [e255]; exact x_up2_off (Or.inl (by decide)) : g255 69 46 = gi252 69 46).trans ((hC252.1 69 46 rfl).1.trans c8_0)) ((by rw [e255]; exact x_up2_off (Or.inl (by decide)) : g255 69 59 = gi252 69 59).trans ((hC252.1 69 59 rfl).1.trans c8_1)) ((by rw [e255]; exact x_up2_off (Or.inl (by decide)) : g255 69 69 = gi252 69 69).trans ((hC252.1 69 69 rfl).1.trans c8_2)) ((by rw [e255]; exact x_up2_off (Or.inl (by decide)) : g255 70 4 = gi252 70 4).trans ((hC252.1 70 4 rfl).1.trans c8_3)) (by have hq := ((by rw [e255]; exact x_up2_ne (by decide) : g255 70 = gi252 70).trans ((funext (fun j => (hC252.1 70 j rfl).1) : gi252 70 = gi8 70))); rw [hq]; exact j8_0) (fun D R hm hb hd h46 hsd hQ hcr => (by
                                                            have b1 := hb.2.1
                                                            have b2 := hb.2.2
                                                            have k70 : ∀ j : Nat, (j : Int) < D 1 → (gi 70 (53 + 5 * j)).toInt = s_A D j := fun j hj => by have hh := hm.2.2.1 (53 + 5 * j) (by omega) (by omega); rw [Nat.zero_add] at hh; exact hh
                                                            have c70 : ∀ j : Nat, (j : Int) < D 2 → (gi 70 (82 + 3 * j)).toInt = s_B D j := fun j hj => by have hh := hm.2.2.2 (82 + 3 * j) (by omega) (by omega); rw [Nat.zero_add] at hh; exact hh
                                                            have fn := t_F_X hX11_8
                                                            have E70 : gi8 70 = gi 70 := t_F_nc fn rfl (by decide)
                                                            have d1 : (gi8 70 1).toInt = D 1 := by rw [E70]; exact hm.1.1.2.1
                                                            have d2 : (gi8 70 2).toInt = D 2 := by rw [E70]; exact hm.1.1.2.2
                                                            obtain ⟨g1, g2, g3, g4⟩ := j8_1 D R hm hb hd h46 hsd hQ hcr
                                                            have hs1 : ar1.toInt ≠ -1 := by omega
                                                            have cy := t_clamp (i := y8_2) (by omega)
                                                            have hdb := s_drw_b (v := ar1.toInt) (by omega) (by omega) y8_2.toNatClampNeg
                                                            obtain ⟨w1, w2⟩ := q252 _ g1 hdb.1 hdb.2
                                                            have hdl : w252.toInt = s_dl ar1.toInt y8_2.toNatClampNeg := by rw [s_dl_y hs1]; exact w2
                                                            have hlb := s_dl_b (seed := ar1.toInt) (n := y8_2.toNatClampNeg)
                                                            have hAb := hd.1 y8_2.toNatClampNeg (by omega)
                                                            have hA5 : 0 ≤ s_A D y8_2.toNatClampNeg ∧ s_A D y8_2.toNatClampNeg ≤ 500 := hAb.1
                                                            have hold := g3 y8_2.toNatClampNeg (by omega)
                                                            rw [if_neg (by omega)] at hold
                                                            have hw : w251.toInt = s_A D y8_2.toNatClampNeg := by rw [e251]; omega
                                                            have hz : z254.toInt = s_Ay D ar1.toInt y8_2.toNatClampNeg := s_add e254 hw hdl (by omega)
                                                            have hst : ∀ j, g255 89 j = if j = y8_2.toNatClampNeg then z254 else gi252 89 j := fun j => by rw [e255]; by_cases hj : j = y8_2.toNatClampNeg; (rw [if_pos hj, hj, x_up2_at]); (rw [if_neg hj, x_up2_off (Or.inr hj)])
                                                            have E89 : gi252 89 = gi8 89 := t_F_nc (t_F_X hC252) rfl (by decide)
                                                            have ex : z256.toNatClampNeg = y8_2.toNatClampNeg + 1 := by have := t_clamp (i := z256) (by omega); omega
                                                            have E58 : (g255 69 58).toInt = s_drw ar1.toInt (y8_2.toNatClampNeg + 1) := by rw [e255, x_up2_off (Or.inl (by decide))]; exact w1
                                                            have hif : ∀ (j : Nat) (v : Int), j ≠ y8_2.toNatClampNeg → (if (j : Int) < z256.toInt then v else 0) = (if (j : Int) < y8_2.toInt then v else 0) := fun j v hj => by by_cases h2 : (j : Int) < y8_2.toInt; (rw [if_pos h2, if_pos (by omega)]); (rw [if_neg h2, if_neg (by omega)])
                                                            refine ⟨by rw [ex]; exact E58, by omega, fun j hj => ?_, fun j hj => by rw [hst, if_neg (by omega), E89]; exact g4 j hj⟩
                                                            rw [hst j]
                                                            by_cases h : j = y8_2.toNatClampNeg
                                                            · rw [if_pos h, hz, h, if_pos (by omega)]; rfl
                                                            · rw [if_neg h, E89, g3 j hj, hif j _ h])) rfl
  refine ev_sub (lo := [(2, .int 0), (0, .ref 69), (1, .int ar1)]) rfl (t_sc rfl (t_sc rfl (t_sc rfl t_sn))) ?_
  exact L8 _ g7 gl6 gr6 (0) hI hX  (by decide : (0:Int) ≤ (0:Int32).toInt) (Int.le_trans (by decide : (0:Int32).toInt ≤ (0:Int)) (by decide : (0:Int) ≤ 6)) ((by rw [e7]; exact x_up2_off (Or.inr (by decide)) : g7 69 46 = gi6 69 46).trans ((hC6.1 69 46 rfl).1.trans rfl)) ((by rw [e7]; exact x_up2_off (Or.inr (by decide)) : g7 69 59 = gi6 69 59).trans ((hC6.1 69 59 rfl).1.trans rfl)) ((by rw [e7]; exact x_up2_off (Or.inr (by decide)) : g7 69 69 = gi6 69 69).trans ((hC6.1 69 69 rfl).1.trans rfl)) ((by rw [e7]; exact x_up2_off (Or.inr (by decide)) : g7 70 4 = gi6 70 4).trans ((hC6.1 70 4 rfl).1.trans rfl)) (by have hq := ((by rw [e7]; exact x_up2_ne (by decide) : g7 70 = gi6 70).trans ((funext (fun j => (hC6.1 70 j rfl).1) : gi6 70 = gi 70))); rw [hq]; exact e_p0) (fun D R hm hb hd h46 hsd hQ hcr => (by
                                                            have b1 := hb.2.1
                                                            have b2 := hb.2.2
                                                            have k70 : ∀ j : Nat, (j : Int) < D 1 → (gi 70 (53 + 5 * j)).toInt = s_A D j := fun j hj => by have hh := hm.2.2.1 (53 + 5 * j) (by omega) (by omega); rw [Nat.zero_add] at hh; exact hh
                                                            have c70 : ∀ j : Nat, (j : Int) < D 2 → (gi 70 (82 + 3 * j)).toInt = s_B D j := fun j hj => by have hh := hm.2.2.2 (82 + 3 * j) (by omega) (by omega); rw [Nat.zero_add] at hh; exact hh
                                                            have z0 : (0 : Int32).toInt = 0 := rfl
                                                            refine ⟨by rw [e7, x_up2_at]; rfl, by omega, fun j hj => ?_, fun j hj => ?_⟩
                                                            · rw [e7, x_up2_off (Or.inl (by decide)), q6.2.1 j (by omega), k70 j hj, if_neg (by omega)]; omega
                                                            · rw [e7, x_up2_off (Or.inl (by decide)), q6.2.2 j (by omega), c70 j hj])) rfl
