/-! ===== printed by riv.py: the RIVER of the other side ===== -/
noncomputable def wl_n_river : List (Nat × Nat) := [(69, 2), (69, 10), (69, 11), (69, 12), (69, 13), (69, 14), (69, 15), (69, 16), (69, 17), (69, 18), (69, 19), (69, 20), (70, 10349), (70, 140011400), (70, 140011749), (70, 140111401), (70, 140211402), (70, 140411404), (70, 140511405), (70, 140611406), (70, 140711407), (70, 141011452), (70, 141111458), (70, 145211482), (70, 145311483), (70, 145411484), (70, 145511485), (70, 145611486), (70, 148211500), (70, 148311501), (70, 148411502), (71, 10017), (71, 7210089), (76, 9999)]
noncomputable def Q_n_river (gi : Nat → Nat → Int32) (gl : Nat → Nat → Int64) (gr : Nat → Nat → Value) (ar1 : Int32) : Int32 → (Nat → Nat → Int32) → (Nat → Nat → Int64) → (Nat → Nat → Value) → Prop := fun (v : Int32) (gi2 : Nat → Nat → Int32) (gl2 : Nat → Nat → Int64) (gr2 : Nat → Nat → Value) => ((0 ≤ ar1.toInt ∧ ar1.toInt ≤ (gi 69 10).toInt) → ∀ (b : Nat → Int32) (n : Nat), (n : Int) = ar1.toInt → (∀ j : Nat, j < n → gi 75 j = b j) → t_by b n → (∃ q2 D2, s_rv b n 901 0 s_D0 = s_ok q2 D2 ∧ t_Cb D2 ∧ v.toInt = D2 1 ∧ t_MD 0 gi2 D2 ∧ (gi2 69 16).toInt = 0 ∧ (gi2 69 17).toInt = -1) ∨ (∃ p x D2, x ≠ 0 ∧ s_rv b n 901 0 s_D0 = s_bad b n p x D2 ∧ v.toInt = -1 ∧ (gi2 69 16).toInt = s_fk b n p x ∧ (gi2 69 17).toInt = (s_F b n p : Nat) ∧ ∀ j : Nat, j < 350 → gi2 70 j = gi 70 j)) ∧ (¬ (0 ≤ ar1.toInt ∧ ar1.toInt ≤ (gi 69 10).toInt) → v.toInt = -1 ∧ ∀ j : Nat, j < 350 → gi2 70 j = gi 70 j)
theorem c_n_river {X : x_Ext} {d : Nat} {sh : List (Nat ⊕ (Nat × Nat))} {gi : Nat → Nat → Int32} {gl : Nat → Nat → Int64} {gr : Nat → Nat → Value} (hI : t_I sh gi gr) (ar1 : Int32) : x_Me X (d + 10) n_X12_river [.ref 69, .int ar1] (sh, gi, gl, gr) (t_PI wl_n_river sh gi gl gr (-1) 6 (Q_n_river gi gl gr ar1)) := by
  have hX : t_X wl_n_river sh gi gl gr gi gl gr := t_X.rf
  refine me_i f_X12_river (hI.wf.s rfl) rfl rfl rfl ?_
  obtain ⟨l1, u1⟩ := hI.b (hI.wf.s (k := 69) rfl) (t_bdK rfl : t_bd 11 10 = some (0, 900))
  obtain ⟨l2, u2⟩ := hI.b (hI.wf.s (k := 69) rfl) (t_bdK rfl : t_bd 11 12 = some (0, 4))
  obtain ⟨l3, u3⟩ := hI.b (hI.wf.s (k := 69) rfl) (t_bdK rfl : t_bd 11 14 = some (0, 900))
  refine ev_loc f_X12_river (nx := 1) rfl rfl rfl rfl ?_
  refine ev_loc f_X12_river (nx := 2) rfl rfl rfl rfl ?_
  refine ev_sp f_X12_river (nx := 5) (v := 900) rfl (by decide) rfl ?_
  refine ev_qI f_X12_river (nx := 8) (r := []) rfl rfl rfl rfl rfl rfl rfl (c_n_begins hI (ar1) (900)) rfl hX rfl (fun w6 gi6 gl6 gr6 l6 u6 hI hX hC6 q6 => ?_)
  have q6 : (∀ (b : Nat → Int32) (n : Nat), (n : Int) = ar1.toInt → (∀ j : Nat, j < n → gi 75 j = b j) → t_by b n → w6.toInt = 1 → t_TM b n 0 gi6 ∧ t_MF gi6 0 (-1)) ∧ (w6.toInt = 1 → (0 ≤ ar1.toInt ∧ ar1.toInt ≤ (gi 69 10).toInt ∧ ar1.toInt ≤ 900)) ∧ (w6.toInt = 0 → ¬ (0 ≤ ar1.toInt ∧ ar1.toInt ≤ (gi 69 10).toInt ∧ ar1.toInt ≤ 900)) := q6
  obtain ⟨l7, u7⟩ := hI.b (hI.wf.s (k := 69) rfl) (t_bdK rfl : t_bd 11 10 = some (0, 900))
  obtain ⟨l8, u8⟩ := hI.b (hI.wf.s (k := 69) rfl) (t_bdK rfl : t_bd 11 12 = some (0, 4))
  obtain ⟨l9, u9⟩ := hI.b (hI.wf.s (k := 69) rfl) (t_bdK rfl : t_bd 11 14 = some (0, 900))
  refine ev_if f_X12_river (t1 := 11) (t2 := 17) rfl rfl rfl (fun h11 => ?_) (fun h11 => ?_)
  · have u12 : w6.toInt ≤ 0 := t_equ h11 (by decide : (0:Int32).toInt ≤ (0:Int))
    refine ev_loc f_X12_river (nx := 12) rfl rfl rfl rfl ?_
    refine ev_ic f_X12_river (nx := 13) (v := 1) rfl (by decide) rfl ?_
    refine ev_inV2 f_X12_river (nx := 16) (lo2 := [(0, .ref 69), (1, .int 1)]) rfl rfl rfl rfl f_X12_refuse (hI.wf.s rfl) rfl rfl rfl rfl rfl ?_
    refine ev_loc f_X12_refuse (nx := 1) rfl rfl rfl rfl ?_
    refine ev_loc f_X12_refuse (nx := 2) rfl rfl rfl rfl ?_
    refine ev_putIT f_X12_refuse (nx := 5) rfl (hI.wf.s rfl) rfl rfl rfl (hI.put0 (hI.wf.s rfl) rfl rfl) (hX.upI rfl) (fun g13 e13 hI hX => ?_)
    refine ev_ic f_X12_refuse (nx := 6) (v := -1) rfl (by decide) rfl ?_
    refine ev_retK1 f_X12_refuse rfl rfl rfl ?_
    exact ev_ret f_X12_river rfl rfl rfl ⟨_, _, _, rfl, hI, hX, ⟨_, rfl, (by decide : ((-1):Int) ≤ ((-1):Int32).toInt), (Int.le_trans (by decide : ((-1):Int32).toInt ≤ ((-1):Int)) (by decide : ((-1):Int) ≤ 6)), (show ((0 ≤ ar1.toInt ∧ ar1.toInt ≤ (gi 69 10).toInt) → ∀ (b : Nat → Int32) (n : Nat), (n : Int) = ar1.toInt → (∀ j : Nat, j < n → gi 75 j = b j) → t_by b n → (∃ q2 D2, s_rv b n 901 0 s_D0 = s_ok q2 D2 ∧ t_Cb D2 ∧ ((-1) : Int) = D2 1 ∧ t_MD 0 g13 D2 ∧ (g13 69 16).toInt = 0 ∧ (g13 69 17).toInt = -1) ∨ (∃ p x D2, x ≠ 0 ∧ s_rv b n 901 0 s_D0 = s_bad b n p x D2 ∧ ((-1) : Int) = -1 ∧ (g13 69 16).toInt = s_fk b n p x ∧ (g13 69 17).toInt = (s_F b n p : Nat) ∧ ∀ j : Nat, j < 350 → g13 70 j = gi 70 j)) ∧ (¬ (0 ≤ ar1.toInt ∧ ar1.toInt ≤ (gi 69 10).toInt) → ((-1) : Int) = -1 ∧ ∀ j : Nat, j < 350 → g13 70 j = gi 70 j) from ⟨fun hi => absurd hi (by have h9 : (900 : Int32).toInt = 900 := rfl; have := q6.2.2 (by omega); omega), fun _ => ⟨rfl, fun j _ => by rw [e13, x_up2_ne (by decide)]; exact (hC6.1 70 j rfl).1⟩⟩)⟩⟩
  · have r14 : w6.toInt ≠ 0 := fun e => h11 (Int32.toInt_inj.mp (e.trans (by decide : (0:Int) = (0 : Int32).toInt)))
    have l15 : 1 ≤ w6.toInt := t_nel h11 l6 rfl rfl
    refine ev_ic f_X12_river (nx := 18) (v := 0) rfl (by decide) rfl ?_
    refine ev_loc f_X12_river (nx := 19) (lo' := [(2, .int 0), (0, .ref 69), (1, .int ar1)]) rfl rfl rfl rfl ?_
    have L16 : ∀ (m16 : Nat) (gi16 : Nat → Nat → Int32) (gl16 : Nat → Nat → Int64) (gr16 : Nat → Nat → Value) (y16_2 : Int32), t_I sh gi16 gr16 → t_X wl_n_river sh gi gl gr gi16 gl16 gr16 → 0 ≤ y16_2.toInt → y16_2.toInt ≤ 350 → gi16 69 10 = (gi6 69 10) → gi16 69 12 = (gi6 69 12) → gi16 69 14 = (gi6 69 14) → gi16 69 16 = (gi 69 16) → gi16 69 17 = (gi6 69 17) → (∀ (b : Nat → Int32) (n : Nat), (n : Int) = ar1.toInt → (∀ j : Nat, j < n → gi 75 j = b j) → t_by b n → t_TM b n 0 gi16 ∧ t_MF gi16 0 (-1) ∧ ∀ j : Nat, (j : Int) < y16_2.toInt → (gi16 70 (1400 + j)).toInt = 0) ∧ (∀ j : Nat, j < 1400 → gi16 70 j = gi 70 j) → (350 - y16_2.toInt).toNat = m16 → x_Ev X (d + 10) n_X12_river 19 [(2, .int y16_2), (0, .ref 69), (1, .int ar1)] [] (sh, gi16, gl16, gr16) (t_PI wl_n_river sh gi gl gr (-1) 6 (Q_n_river gi gl gr ar1)) := by
      intro m16
      induction m16 using Nat.strongRecOn with
      | _ m16 ih16 =>
      intro gi16 gl16 gr16 y16_2 hI hX l16_2 u16_2 c16_0 c16_1 c16_2 c16_3 c16_4 j16_0 hm16
      refine ev_loc f_X12_river (nx := 20) rfl rfl rfl rfl ?_
      refine ev_sp f_X12_river (nx := 23) (v := 350) rfl (by decide) rfl ?_
      refine ev_if f_X12_river (t1 := 43) (t2 := 26) rfl rfl rfl (fun h17 => ?_) (fun h17 => ?_)
      · have l18 : 350 ≤ y16_2.toInt := t_lel h17 (by decide : (350:Int) ≤ (350:Int32).toInt)
        refine ev_loc f_X12_river (nx := 44) rfl rfl rfl rfl ?_
        refine ev_getR f_X12_river (nx := 47) rfl (hI.wf.s rfl) rfl rfl (hI.wf.r rfl) rfl rfl ?_
        refine ev_sp f_X12_river (nx := 50) (v := 1404) rfl (by decide) rfl ?_
        refine ev_ic f_X12_river (nx := 51) (v := 5) rfl (by decide) rfl ?_
        refine ev_iastT f_X12_river (nx := 52) rfl (hI.wf.s rfl) (by decide : (1404:Int) ≤ (1404:Int32).toInt) (by decide) (by decide : (1404:Int32).toInt ≤ (1404:Int)) (by decide) rfl (hI.astL (hI.wf.s rfl) (by decide +kernel : t_abw 70 1404 1404 5 5 = true) (t_cl1 (by decide : (1404:Int) ≤ (1404:Int32).toInt) (by decide)) (t_cl2 (by decide : (1404:Int) ≤ (1404:Int32).toInt) (by decide : (1404:Int32).toInt ≤ (1404:Int)) (by decide) (by decide)) (by decide : (5:Int) ≤ (5:Int32).toInt) (by decide : (5:Int32).toInt ≤ (5:Int)) rfl) (hX.upI (t_inR (p := 1404) (m := 1404) rfl (by decide : (1404:Int) ≤ (1404:Int32).toInt) (by decide) (by decide : (1404:Int32).toInt ≤ (1404:Int)) (by decide) (by decide))) (fun g19 e19 hI hX => ?_)
        refine ev_loc f_X12_river (nx := 53) rfl rfl rfl rfl ?_
        refine ev_ic f_X12_river (nx := 54) (v := 0) rfl (by decide) rfl ?_
        refine ev_putIT f_X12_river (nx := 57) rfl (hI.wf.s rfl) rfl rfl rfl (hI.put0 (hI.wf.s rfl) rfl rfl) (hX.upI rfl) (fun g20 e20 hI hX => ?_)
        refine ev_ic f_X12_river (nx := 58) (v := 1) rfl (by decide) rfl ?_
        refine ev_loc f_X12_river (nx := 59) (lo' := [(2, .int 1), (0, .ref 69), (1, .int ar1)]) rfl rfl rfl rfl ?_
        have L21 : ∀ (m21 : Nat) (gi21 : Nat → Nat → Int32) (gl21 : Nat → Nat → Int64) (gr21 : Nat → Nat → Value) (y21_2 : Int32), t_I sh gi21 gr21 → t_X wl_n_river sh gi gl gr gi21 gl21 gr21 → 0 ≤ y21_2.toInt → y21_2.toInt ≤ 1 → gi21 69 10 = (gi6 69 10) → gi21 69 16 = (gi 69 16) → (∀ (b : Nat → Int32) (n : Nat), (n : Int) = ar1.toInt → (∀ j : Nat, j < n → gi 75 j = b j) → t_by b n → t_MU b n y21_2 gi21 gl21) ∧ (∀ j : Nat, j < 1400 → gi21 70 j = gi 70 j) → (4 * (900 - (gi21 69 14).toInt) + 2 * min (gi21 69 12).toInt 1 + y21_2.toInt).toNat = m21 → x_Ev X (d + 10) n_X12_river 59 [(2, .int y21_2), (0, .ref 69), (1, .int ar1)] [] (sh, gi21, gl21, gr21) (t_PI wl_n_river sh gi gl gr (-1) 6 (Q_n_river gi gl gr ar1)) := by
          intro m21
          induction m21 using Nat.strongRecOn with
          | _ m21 ih21 =>
          intro gi21 gl21 gr21 y21_2 hI hX l21_2 u21_2 c21_0 c21_1 j21_0 hm21
          obtain ⟨l22, u22⟩ := hI.b (hI.wf.s (k := 69) rfl) (t_bdK rfl : t_bd 11 12 = some (0, 4))
          obtain ⟨l23, u23⟩ := hI.b (hI.wf.s (k := 69) rfl) (t_bdK rfl : t_bd 11 14 = some (0, 900))
          refine ev_loc f_X12_river (nx := 60) rfl rfl rfl rfl ?_
          refine ev_if f_X12_river (t1 := 78) (t2 := 63) rfl rfl rfl (fun h25 => ?_) (fun h25 => ?_)
          · have u26 : y21_2.toInt ≤ 0 := t_equ h25 (by decide : (0:Int32).toInt ≤ (0:Int))
            refine ev_loc f_X12_river (nx := 79) rfl rfl rfl rfl ?_
            refine ev_getI f_X12_river (nx := 82) rfl (hI.wf.s rfl) rfl rfl rfl ?_
            refine ev_if f_X12_river (t1 := 85) (t2 := 145) rfl rfl rfl (fun h27 => ?_) (fun h27 => ?_)
            · have u28 : (gi21 69 18).toInt ≤ 0 := t_equ h27 (by decide : (0:Int32).toInt ≤ (0:Int))
              have l29 : 0 ≤ (gi21 69 18).toInt := t_eql h27 (by decide : (0:Int) ≤ (0:Int32).toInt)
              refine ev_ic f_X12_river (nx := 86) (v := 0) rfl (by decide) rfl ?_
              refine ev_loc f_X12_river (nx := 87) (lo' := [(3, .int 0), (2, .int y21_2), (0, .ref 69), (1, .int ar1)]) rfl rfl rfl rfl ?_
              have L30 : ∀ (m30 : Nat) (gi30 : Nat → Nat → Int32) (gl30 : Nat → Nat → Int64) (gr30 : Nat → Nat → Value) (y30_3 : Int32), t_I sh gi30 gr30 → t_X wl_n_river sh gi gl gr gi30 gl30 gr30 → 0 ≤ y30_3.toInt → y30_3.toInt ≤ 350 → gi30 69 10 = (gi6 69 10) → gi30 69 16 = (gi 69 16) → gi30 69 18 = (gi21 69 18) → (∀ (b : Nat → Int32) (n : Nat), (n : Int) = ar1.toInt → (∀ j : Nat, j < n → gi 75 j = b j) → t_by b n → t_MV b n y30_3 gi30) → (350 - y30_3.toInt).toNat = m30 → x_Ev X (d + 10) n_X12_river 87 [(3, .int y30_3), (2, .int y21_2), (0, .ref 69), (1, .int ar1)] [] (sh, gi30, gl30, gr30) (t_PI wl_n_river sh gi gl gr (-1) 6 (Q_n_river gi gl gr ar1)) := by
                intro m30
                induction m30 using Nat.strongRecOn with
                | _ m30 ih30 =>
                intro gi30 gl30 gr30 y30_3 hI hX l30_3 u30_3 c30_0 c30_1 c30_2 j30_0 hm30
                obtain ⟨l31, u31⟩ := hI.b (hI.wf.s (k := 69) rfl) (t_bdK rfl : t_bd 11 12 = some (0, 4))
                obtain ⟨l32, u32⟩ := hI.b (hI.wf.s (k := 69) rfl) (t_bdK rfl : t_bd 11 14 = some (0, 900))
                refine ev_loc f_X12_river (nx := 88) rfl rfl rfl rfl ?_
                refine ev_sp f_X12_river (nx := 91) (v := 350) rfl (by decide) rfl ?_
                refine ev_if f_X12_river (t1 := 116) (t2 := 94) rfl rfl rfl (fun h34 => ?_) (fun h34 => ?_)
                · have l35 : 350 ≤ y30_3.toInt := t_lel h34 (by decide : (350:Int) ≤ (350:Int32).toInt)
                  refine ev_ic f_X12_river (nx := 117) (v := 0) rfl (by decide) rfl ?_
                  refine ev_loc f_X12_river (nx := 118) (lo' := [(3, .int 0), (2, .int y21_2), (0, .ref 69), (1, .int ar1)]) rfl rfl rfl rfl ?_
                  have L36 : ∀ (m36 : Nat) (gi36 : Nat → Nat → Int32) (gl36 : Nat → Nat → Int64) (gr36 : Nat → Nat → Value) (y36_3 : Int32), t_I sh gi36 gr36 → t_X wl_n_river sh gi gl gr gi36 gl36 gr36 → 0 ≤ y36_3.toInt → y36_3.toInt ≤ 18 → gi36 69 10 = (gi6 69 10) → gi36 69 16 = (gi 69 16) → gi36 69 18 = (gi21 69 18) → (∀ (b : Nat → Int32) (n : Nat), (n : Int) = ar1.toInt → (∀ j : Nat, j < n → gi 75 j = b j) → t_by b n → t_MV b n (350 : Int32) gi36) → (18 - y36_3.toInt).toNat = m36 → x_Ev X (d + 10) n_X12_river 118 [(3, .int y36_3), (2, .int y21_2), (0, .ref 69), (1, .int ar1)] [] (sh, gi36, gl36, gr36) (t_PI wl_n_river sh gi gl gr (-1) 6 (Q_n_river gi gl gr ar1)) := by
                    intro m36
                    induction m36 using Nat.strongRecOn with
                    | _ m36 ih36 =>
                    intro gi36 gl36 gr36 y36_3 hI hX l36_3 u36_3 c36_0 c36_1 c36_2 j36_0 hm36
                    obtain ⟨l37, u37⟩ := hI.b (hI.wf.s (k := 69) rfl) (t_bdK rfl : t_bd 11 12 = some (0, 4))
                    obtain ⟨l38, u38⟩ := hI.b (hI.wf.s (k := 69) rfl) (t_bdK rfl : t_bd 11 14 = some (0, 900))
                    refine ev_loc f_X12_river (nx := 119) rfl rfl rfl rfl ?_
                    refine ev_bp f_X12_river (nx := 121) (v := 18) rfl (by decide) rfl ?_
                    refine ev_if f_X12_river (t1 := 145) (t2 := 124) rfl rfl rfl (fun h40 => ?_) (fun h40 => ?_)
                    · have l41 : 18 ≤ y36_3.toInt := t_lel h40 (by decide : (18:Int) ≤ (18:Int32).toInt)
                      refine ev_loc f_X12_river (nx := 146) rfl rfl rfl rfl ?_
                      refine ev_loc f_X12_river (nx := 147) rfl rfl rfl rfl ?_
                      refine ev_getR f_X12_river (nx := 150) rfl (hI.wf.s rfl) rfl rfl (hI.wf.r rfl) rfl rfl ?_
                      refine ev_ic f_X12_river (nx := 151) (v := 1) rfl (by decide) rfl ?_
                      obtain ⟨l42, u42⟩ := hI.ab (by decide +kernel : t_abr 70 1 1 0 6 = true) (Nat.le_refl _) (Nat.le_refl _)
                      refine ev_ialdv f_X12_river (nx := 152) (w := (gi36 70 1)) rfl (hI.wf.s rfl) (by decide) (rfl : (1 : Int32).toNatClampNeg = 1) (by decide) rfl rfl ?_
                      refine ev_inV2 f_X12_river (nx := 155) (lo2 := [(0, .ref 69), (1, .int (gi36 70 1))]) rfl rfl rfl rfl f_X12_taken (hI.wf.s rfl) rfl rfl rfl rfl rfl ?_
                      refine ev_loc f_X12_taken (nx := 1) rfl rfl rfl rfl ?_
                      refine ev_loc f_X12_taken (nx := 2) rfl rfl rfl rfl ?_
                      refine ev_gvI f_X12_taken (nx := 5) (w := (gi21 69 18)) rfl (hI.wf.s rfl) rfl rfl c36_2 rfl ?_
                      refine ev_putIT f_X12_taken (nx := 8) rfl (hI.wf.s rfl) rfl rfl rfl (hI.put0 (hI.wf.s rfl) rfl rfl) (hX.upI rfl) (fun g43 e43 hI hX => ?_)
                      refine ev_loc f_X12_taken (nx := 9) rfl rfl rfl rfl ?_
                      refine ev_gvI f_X12_taken (nx := 12) (w := (gi21 69 18)) rfl (hI.wf.s rfl) rfl rfl ((by rw [e43]; exact x_up2_off (Or.inr (by decide)) : g43 69 18 = gi36 69 18).trans c36_2) rfl ?_
                      refine ev_t f_X12_taken (t1 := 24) (t2 := 15) rfl rfl rfl (t_leT u28 (by decide : (0:Int) ≤ (0:Int32).toInt) (by decide)) ?_
                      refine ev_loc f_X12_taken (nx := 25) rfl rfl rfl rfl ?_
                      refine ev_loc f_X12_taken (nx := 26) rfl rfl rfl rfl ?_
                      refine ev_inV2 f_X12_taken (nx := 29) (lo2 := [(0, .ref 69), (1, .int (gi36 70 1))]) rfl rfl rfl rfl f_X12_gives (hI.wf.s rfl) rfl rfl rfl rfl rfl ?_
                      refine ev_loc f_X12_gives (nx := 1) rfl rfl rfl rfl ?_
                      refine ev_ic f_X12_gives (nx := 2) (v := 0) rfl (by decide) rfl ?_
                      refine ev_putIT f_X12_gives (nx := 5) rfl (hI.wf.s rfl) rfl rfl rfl (hI.put0 (hI.wf.s rfl) rfl rfl) (hX.upI rfl) (fun g44 e44 hI hX => ?_)
                      refine ev_loc f_X12_gives (nx := 6) rfl rfl rfl rfl ?_
                      refine ev_retK1 f_X12_gives rfl rfl rfl ?_
                      refine ev_retK1 f_X12_taken rfl rfl rfl ?_
                      exact ev_ret f_X12_river rfl rfl rfl ⟨_, _, _, rfl, hI, hX, ⟨_, rfl, (Int.le_trans (by decide : ((-1):Int) ≤ 0) l42), u42, (show ((0 ≤ ar1.toInt ∧ ar1.toInt ≤ (gi 69 10).toInt) → ∀ (b : Nat → Int32) (n : Nat), (n : Int) = ar1.toInt → (∀ j : Nat, j < n → gi 75 j = b j) → t_by b n → (∃ q2 D2, s_rv b n 901 0 s_D0 = s_ok q2 D2 ∧ t_Cb D2 ∧ (gi36 70 1).toInt = D2 1 ∧ t_MD 0 g44 D2 ∧ (g44 69 16).toInt = 0 ∧ (g44 69 17).toInt = -1) ∨ (∃ p x D2, x ≠ 0 ∧ s_rv b n 901 0 s_D0 = s_bad b n p x D2 ∧ (gi36 70 1).toInt = -1 ∧ (g44 69 16).toInt = s_fk b n p x ∧ (g44 69 17).toInt = (s_F b n p : Nat) ∧ ∀ j : Nat, j < 350 → g44 70 j = gi 70 j)) ∧ (¬ (0 ≤ ar1.toInt ∧ ar1.toInt ≤ (gi 69 10).toInt) → (gi36 70 1).toInt = -1 ∧ ∀ j : Nat, j < 350 → g44 70 j = gi 70 j) from ⟨fun _ b n hn hb hy => (by
                                                            obtain ⟨q2, D2, ⟨h1, h2⟩, h3, h4, h5⟩ := j36_0 b n hn hb hy
                                                            have h6 := t_MD_cp (g1 := gi36) h3 h2 (fun j hj => h5 j (by have : (350 : Int32).toInt = 350 := rfl; omega) hj)
                                                            have e70 : ∀ j, g44 70 j = gi36 70 j := fun j => by rw [e44, x_up2_ne (by decide), e43, x_up2_ne (by decide)]
                                                            refine Or.inl ⟨q2, D2, h1, h2, ?_, h6.eq e70, ?_, ?_⟩
                                                            · exact h6.1.1.2.1
                                                            · rw [e44, x_up2_off (Or.inr (by decide)), e43, x_up2_at, ← c36_2]; exact h4.1
                                                            · rw [e44, x_up2_off (Or.inr (by decide)), e43, x_up2_off (Or.inr (by decide))]; exact h4.2), fun hh => absurd (by omega) hh⟩)⟩⟩
                    · have u45 : y36_3.toInt ≤ 17 := t_ltu (t_nle h40) (by decide : (18:Int32).toInt ≤ (18:Int)) rfl
                      refine ev_loc f_X12_river (nx := 125) rfl rfl rfl rfl ?_
                      refine ev_getR f_X12_river (nx := 128) rfl (hI.wf.s rfl) rfl rfl (hI.wf.r rfl) rfl rfl ?_
                      refine ev_loc f_X12_river (nx := 129) rfl rfl rfl rfl ?_
                      refine ev_loc f_X12_river (nx := 130) rfl rfl rfl rfl ?_
                      refine ev_getR f_X12_river (nx := 133) rfl (hI.wf.s rfl) rfl rfl (hI.wf.r rfl) rfl rfl ?_
                      refine ev_bp f_X12_river (nx := 135) (v := 72) rfl (by decide) rfl ?_
                      refine ev_loc f_X12_river (nx := 136) rfl rfl rfl rfl ?_
                      refine ev_addK f_X12_river (nx := 137) (c := 72) (l := 72) (u := 89) rfl (by decide) l36_3 u45 rfl rfl (by decide) (by decide) rfl (fun z46 e46 l46 u46 => ?_)
                      refine ev_laldT f_X12_river (nx := 138) rfl (hI.wf.s rfl) l46 (by decide) u46 (by decide) rfl (fun w47 e47 => ?_)
                      refine ev_lastT f_X12_river (nx := 139) rfl (hI.wf.s rfl) l36_3 (by decide) u45 (by decide) rfl (hX.upL (t_inR (p := 0) (m := 17) rfl l36_3 (by decide) u45 (by decide) (by decide))) (fun g48 e48 hX => ?_)
                      refine ev_incR f_X12_river (nx := 142) (c := 1) (l := 1) (u := 18) rfl rfl (by decide) (by decide) l36_3 u45 rfl rfl (by decide) (by decide) rfl (fun z49 e49 l49 u49 => ?_)
                      refine ev_jmp f_X12_river (nx := 118) rfl rfl rfl ?_
                      refine ev_sub (lo := [(3, .int z49), (2, .int y21_2), (0, .ref 69), (1, .int ar1)]) rfl (t_sc rfl (t_sc rfl (t_sc rfl (t_sc rfl t_sn)))) ?_
                      exact ih36 _ (by omega) gi36 g48 gr36 (z49) hI hX  (Int.le_trans (by decide : (0:Int) ≤ 1) l49) u49 c36_0 c36_1 c36_2 (fun b n hn hb hy => j36_0 b n hn hb hy) rfl
                  refine ev_sub (lo := [(3, .int 0), (2, .int y21_2), (0, .ref 69), (1, .int ar1)]) rfl (t_sc rfl (t_sc rfl (t_sc rfl (t_sc rfl t_sn)))) ?_
                  exact L36 _ gi30 gl30 gr30 (0) hI hX  (by decide : (0:Int) ≤ (0:Int32).toInt) (Int.le_trans (by decide : (0:Int32).toInt ≤ (0:Int)) (by decide : (0:Int) ≤ 18)) c30_0 c30_1 c30_2 (fun b n hn hb hy => t_MV_k (j30_0 b n hn hb hy) (by omega)) rfl
                · have u50 : y30_3.toInt ≤ 349 := t_ltu (t_nle h34) (by decide : (350:Int32).toInt ≤ (350:Int)) rfl
                  refine ev_loc f_X12_river (nx := 95) rfl rfl rfl rfl ?_
                  refine ev_getR f_X12_river (nx := 98) rfl (hI.wf.s rfl) rfl rfl (hI.wf.r rfl) rfl rfl ?_
                  refine ev_loc f_X12_river (nx := 99) rfl rfl rfl rfl ?_
                  refine ev_loc f_X12_river (nx := 100) rfl rfl rfl rfl ?_
                  refine ev_getR f_X12_river (nx := 103) rfl (hI.wf.s rfl) rfl rfl (hI.wf.r rfl) rfl rfl ?_
                  refine ev_sp f_X12_river (nx := 106) (v := 1400) rfl (by decide) rfl ?_
                  refine ev_loc f_X12_river (nx := 107) rfl rfl rfl rfl ?_
                  refine ev_addK f_X12_river (nx := 108) (c := 1400) (l := 1400) (u := 1749) rfl (by decide) l30_3 u50 rfl rfl (by decide) (by decide) rfl (fun z51 e51 l51 u51 => ?_)
                  refine ev_ialdT f_X12_river (nx := 109) rfl (hI.wf.s rfl) l51 (by decide) u51 (by decide) rfl (fun w52 e52 => ?_)
                  refine ev_iastT f_X12_river (nx := 110) rfl (hI.wf.s rfl) l30_3 (by decide) u50 (by decide) rfl (hI.astS (a := 4) (b := 0) (k := y30_3.toInt.toNat) e52 (by omega) (by omega) (by omega) (by omega) (by omega)) (hX.upI (t_inR (p := 0) (m := 349) rfl l30_3 (by decide) u50 (by decide) (by decide))) (fun g53 e53 hI hX => ?_)
                  refine ev_incR f_X12_river (nx := 113) (c := 1) (l := 1) (u := 350) rfl rfl (by decide) (by decide) l30_3 u50 rfl rfl (by decide) (by decide) rfl (fun z54 e54 l54 u54 => ?_)
                  refine ev_jmp f_X12_river (nx := 87) rfl rfl rfl ?_
                  refine ev_sub (lo := [(3, .int z54), (2, .int y21_2), (0, .ref 69), (1, .int ar1)]) rfl (t_sc rfl (t_sc rfl (t_sc rfl (t_sc rfl t_sn)))) ?_
                  exact ih30 _ (by omega) g53 gl30 gr30 (z54) hI hX  (Int.le_trans (by decide : (0:Int) ≤ 1) l54) u54 ((by rw [e53]; exact x_up2_off (Or.inl (by decide)) : g53 69 10 = gi30 69 10).trans c30_0) ((by rw [e53]; exact x_up2_off (Or.inl (by decide)) : g53 69 16 = gi30 69 16).trans c30_1) ((by rw [e53]; exact x_up2_off (Or.inl (by decide)) : g53 69 18 = gi30 69 18).trans c30_2) (fun b n hn hb hy => t_MV_s (i := y30_3.toNatClampNeg) (i2 := z51.toNatClampNeg) (j30_0 b n hn hb hy) (by omega) (by omega) (t_clamp (by omega)) ((t_clamp (i := z51) (by omega)).trans (by omega)) e52 (by omega) e53) rfl
              refine ev_sub (lo := [(3, .int 0), (2, .int y21_2), (0, .ref 69), (1, .int ar1)]) rfl (t_sc rfl (t_sc rfl (t_sc rfl (t_sc rfl t_sn)))) ?_
              exact L30 _ gi21 gl21 gr21 (0) hI hX  (by decide : (0:Int) ≤ (0:Int32).toInt) (Int.le_trans (by decide : (0:Int32).toInt ≤ (0:Int)) (by decide : (0:Int) ≤ 350)) c21_0 c21_1 rfl (fun b n hn hb hy => t_MV_0 (j21_0.1 b n hn hb hy) (by omega) rfl (by omega)) rfl
            · have r55 : (gi21 69 18).toInt ≠ 0 := fun e => h27 (Int32.toInt_inj.mp (e.trans (by decide : (0:Int) = (0 : Int32).toInt)))
              refine ev_loc f_X12_river (nx := 146) rfl rfl rfl rfl ?_
              refine ev_loc f_X12_river (nx := 147) rfl rfl rfl rfl ?_
              refine ev_getR f_X12_river (nx := 150) rfl (hI.wf.s rfl) rfl rfl (hI.wf.r rfl) rfl rfl ?_
              refine ev_ic f_X12_river (nx := 151) (v := 1) rfl (by decide) rfl ?_
              obtain ⟨l56, u56⟩ := hI.ab (by decide +kernel : t_abr 70 1 1 0 6 = true) (Nat.le_refl _) (Nat.le_refl _)
              refine ev_ialdv f_X12_river (nx := 152) (w := (gi21 70 1)) rfl (hI.wf.s rfl) (by decide) (rfl : (1 : Int32).toNatClampNeg = 1) (by decide) rfl rfl ?_
              refine ev_inV2 f_X12_river (nx := 155) (lo2 := [(0, .ref 69), (1, .int (gi21 70 1))]) rfl rfl rfl rfl f_X12_taken (hI.wf.s rfl) rfl rfl rfl rfl rfl ?_
              refine ev_loc f_X12_taken (nx := 1) rfl rfl rfl rfl ?_
              refine ev_loc f_X12_taken (nx := 2) rfl rfl rfl rfl ?_
              refine ev_gvI f_X12_taken (nx := 5) (w := (gi21 69 18)) rfl (hI.wf.s rfl) rfl rfl rfl rfl ?_
              refine ev_putIT f_X12_taken (nx := 8) rfl (hI.wf.s rfl) rfl rfl rfl (hI.put0 (hI.wf.s rfl) rfl rfl) (hX.upI rfl) (fun g57 e57 hI hX => ?_)
              refine ev_loc f_X12_taken (nx := 9) rfl rfl rfl rfl ?_
              refine ev_gvI f_X12_taken (nx := 12) (w := (gi21 69 18)) rfl (hI.wf.s rfl) rfl rfl ((by rw [e57]; exact x_up2_off (Or.inr (by decide)) : g57 69 18 = gi21 69 18).trans rfl) rfl ?_
              refine ev_if f_X12_taken (t1 := 24) (t2 := 15) rfl rfl rfl (fun h58 => ?_) (fun h58 => ?_)
              · have u59 : (gi21 69 18).toInt ≤ 0 := t_leu h58 (by decide : (0:Int32).toInt ≤ (0:Int))
                refine ev_loc f_X12_taken (nx := 25) rfl rfl rfl rfl ?_
                refine ev_loc f_X12_taken (nx := 26) rfl rfl rfl rfl ?_
                refine ev_inV2 f_X12_taken (nx := 29) (lo2 := [(0, .ref 69), (1, .int (gi21 70 1))]) rfl rfl rfl rfl f_X12_gives (hI.wf.s rfl) rfl rfl rfl rfl rfl ?_
                refine ev_loc f_X12_gives (nx := 1) rfl rfl rfl rfl ?_
                refine ev_ic f_X12_gives (nx := 2) (v := 0) rfl (by decide) rfl ?_
                refine ev_putIT f_X12_gives (nx := 5) rfl (hI.wf.s rfl) rfl rfl rfl (hI.put0 (hI.wf.s rfl) rfl rfl) (hX.upI rfl) (fun g60 e60 hI hX => ?_)
                refine ev_loc f_X12_gives (nx := 6) rfl rfl rfl rfl ?_
                refine ev_retK1 f_X12_gives rfl rfl rfl ?_
                refine ev_retK1 f_X12_taken rfl rfl rfl ?_
                exact ev_ret f_X12_river rfl rfl rfl ⟨_, _, _, rfl, hI, hX, ⟨_, rfl, (Int.le_trans (by decide : ((-1):Int) ≤ 0) l56), u56, (show ((0 ≤ ar1.toInt ∧ ar1.toInt ≤ (gi 69 10).toInt) → ∀ (b : Nat → Int32) (n : Nat), (n : Int) = ar1.toInt → (∀ j : Nat, j < n → gi 75 j = b j) → t_by b n → (∃ q2 D2, s_rv b n 901 0 s_D0 = s_ok q2 D2 ∧ t_Cb D2 ∧ (gi21 70 1).toInt = D2 1 ∧ t_MD 0 g60 D2 ∧ (g60 69 16).toInt = 0 ∧ (g60 69 17).toInt = -1) ∨ (∃ p x D2, x ≠ 0 ∧ s_rv b n 901 0 s_D0 = s_bad b n p x D2 ∧ (gi21 70 1).toInt = -1 ∧ (g60 69 16).toInt = s_fk b n p x ∧ (g60 69 17).toInt = (s_F b n p : Nat) ∧ ∀ j : Nat, j < 350 → g60 70 j = gi 70 j)) ∧ (¬ (0 ≤ ar1.toInt ∧ ar1.toInt ≤ (gi 69 10).toInt) → (gi21 70 1).toInt = -1 ∧ ∀ j : Nat, j < 350 → g60 70 j = gi 70 j) from ⟨fun _ b n hn hb hy => (by
                                                            have h1 := j21_0.1 b n hn hb hy
                                                            rcases h1 with ⟨h0, q, D, f, h2, h3, h4⟩ | ⟨h0, p, x, D, hx, h3, h4⟩
                                                            · exact absurd h2.2.2.1 (by omega)
                                                            · have hp : 0 ≤ s_fk b n p x := by
                                                                have hp := s_pos_rv (b := b) (n := n) 901 0 s_D0
                                                                rw [h3] at hp; exact hp
                                                              have h5 := h4.1
                                                              omega), fun hh => absurd (by omega) hh⟩)⟩⟩
              · have l61 : 1 ≤ (gi21 69 18).toInt := t_ltl (t_nle h58) (by decide : (0:Int) ≤ (0:Int32).toInt) rfl
                refine ev_loc f_X12_taken (nx := 16) rfl rfl rfl rfl ?_
                refine ev_bp f_X12_taken (nx := 18) (v := 9) rfl (by decide) rfl ?_
                refine ev_inV2 f_X12_taken (nx := 21) (lo2 := [(0, .ref 69), (1, .int 9)]) rfl rfl rfl rfl f_X12_refuse (hI.wf.s rfl) rfl rfl rfl rfl rfl ?_
                refine ev_loc f_X12_refuse (nx := 1) rfl rfl rfl rfl ?_
                refine ev_loc f_X12_refuse (nx := 2) rfl rfl rfl rfl ?_
                refine ev_putIT f_X12_refuse (nx := 5) rfl (hI.wf.s rfl) rfl rfl rfl (hI.put0 (hI.wf.s rfl) rfl rfl) (hX.upI rfl) (fun g62 e62 hI hX => ?_)
                refine ev_ic f_X12_refuse (nx := 6) (v := -1) rfl (by decide) rfl ?_
                refine ev_retK1 f_X12_refuse rfl rfl rfl ?_
                refine ev_jmp f_X12_taken (nx := 29) rfl rfl rfl ?_
                refine ev_retK1 f_X12_taken rfl rfl rfl ?_
                exact ev_ret f_X12_river rfl rfl rfl ⟨_, _, _, rfl, hI, hX, ⟨_, rfl, (by decide : ((-1):Int) ≤ ((-1):Int32).toInt), (Int.le_trans (by decide : ((-1):Int32).toInt ≤ ((-1):Int)) (by decide : ((-1):Int) ≤ 6)), (show ((0 ≤ ar1.toInt ∧ ar1.toInt ≤ (gi 69 10).toInt) → ∀ (b : Nat → Int32) (n : Nat), (n : Int) = ar1.toInt → (∀ j : Nat, j < n → gi 75 j = b j) → t_by b n → (∃ q2 D2, s_rv b n 901 0 s_D0 = s_ok q2 D2 ∧ t_Cb D2 ∧ ((-1) : Int) = D2 1 ∧ t_MD 0 g62 D2 ∧ (g62 69 16).toInt = 0 ∧ (g62 69 17).toInt = -1) ∨ (∃ p x D2, x ≠ 0 ∧ s_rv b n 901 0 s_D0 = s_bad b n p x D2 ∧ ((-1) : Int) = -1 ∧ (g62 69 16).toInt = s_fk b n p x ∧ (g62 69 17).toInt = (s_F b n p : Nat) ∧ ∀ j : Nat, j < 350 → g62 70 j = gi 70 j)) ∧ (¬ (0 ≤ ar1.toInt ∧ ar1.toInt ≤ (gi 69 10).toInt) → ((-1) : Int) = -1 ∧ ∀ j : Nat, j < 350 → g62 70 j = gi 70 j) from ⟨fun _ b n hn hb hy => (by
                                                            have h1 := j21_0.1 b n hn hb hy
                                                            rcases h1 with ⟨h0, q, D, f, h2, h3, h4⟩ | ⟨h0, p, x, D, hx, h3, h4⟩
                                                            · exact absurd h2.2.2.1 (by omega)
                                                            · refine Or.inr ⟨p, x, D, hx, h3, rfl, ?_, ?_, fun j hj => ?_⟩
                                                              · rw [e62, x_up2_off (Or.inr (by decide)), e57, x_up2_at]; exact h4.1
                                                              · rw [e62, x_up2_off (Or.inr (by decide)), e57, x_up2_off (Or.inr (by decide))]; exact h4.2
                                                              · rw [e62, x_up2_ne (by decide), e57, x_up2_ne (by decide)]; exact j21_0.2 j (by omega)), fun hh => absurd (by omega) hh⟩)⟩⟩
          · have r63 : y21_2.toInt ≠ 0 := fun e => h25 (Int32.toInt_inj.mp (e.trans (by decide : (0:Int) = (0 : Int32).toInt)))
            have l64 : 1 ≤ y21_2.toInt := t_nel h25 l21_2 rfl rfl
            refine ev_loc f_X12_river (nx := 64) rfl rfl rfl rfl ?_
            refine ev_gvI f_X12_river (nx := 67) (w := (gi21 69 12)) rfl (hI.wf.s rfl) rfl rfl rfl rfl ?_
            refine ev_if f_X12_river (t1 := 78) (t2 := 70) rfl rfl rfl (fun h65 => ?_) (fun h65 => ?_)
            · have u66 : (gi21 69 12).toInt ≤ 0 := t_equ h65 (by decide : (0:Int32).toInt ≤ (0:Int))
              refine ev_loc f_X12_river (nx := 79) rfl rfl rfl rfl ?_
              refine ev_getI f_X12_river (nx := 82) rfl (hI.wf.s rfl) rfl rfl rfl ?_
              refine ev_if f_X12_river (t1 := 85) (t2 := 145) rfl rfl rfl (fun h67 => ?_) (fun h67 => ?_)
              · have u68 : (gi21 69 18).toInt ≤ 0 := t_equ h67 (by decide : (0:Int32).toInt ≤ (0:Int))
                have l69 : 0 ≤ (gi21 69 18).toInt := t_eql h67 (by decide : (0:Int) ≤ (0:Int32).toInt)
                refine ev_ic f_X12_river (nx := 86) (v := 0) rfl (by decide) rfl ?_
                refine ev_loc f_X12_river (nx := 87) (lo' := [(3, .int 0), (2, .int y21_2), (0, .ref 69), (1, .int ar1)]) rfl rfl rfl rfl ?_
                have L70 : ∀ (m70 : Nat) (gi70 : Nat → Nat → Int32) (gl70 : Nat → Nat → Int64) (gr70 : Nat → Nat → Value) (y70_3 : Int32), t_I sh gi70 gr70 → t_X wl_n_river sh gi gl gr gi70 gl70 gr70 → 0 ≤ y70_3.toInt → y70_3.toInt ≤ 350 → gi70 69 10 = (gi6 69 10) → gi70 69 16 = (gi 69 16) → gi70 69 18 = (gi21 69 18) → (∀ (b : Nat → Int32) (n : Nat), (n : Int) = ar1.toInt → (∀ j : Nat, j < n → gi 75 j = b j) → t_by b n → t_MV b n y70_3 gi70) → (350 - y70_3.toInt).toNat = m70 → x_Ev X (d + 10) n_X12_river 87 [(3, .int y70_3), (2, .int y21_2), (0, .ref 69), (1, .int ar1)] [] (sh, gi70, gl70, gr70) (t_PI wl_n_river sh gi gl gr (-1) 6 (Q_n_river gi gl gr ar1)) := by
                  intro m70
                  induction m70 using Nat.strongRecOn with
                  | _ m70 ih70 =>
                  intro gi70 gl70 gr70 y70_3 hI hX l70_3 u70_3 c70_0 c70_1 c70_2 j70_0 hm70
                  obtain ⟨l71, u71⟩ := hI.b (hI.wf.s (k := 69) rfl) (t_bdK rfl : t_bd 11 12 = some (0, 4))
                  obtain ⟨l72, u72⟩ := hI.b (hI.wf.s (k := 69) rfl) (t_bdK rfl : t_bd 11 14 = some (0, 900))
                  refine ev_loc f_X12_river (nx := 88) rfl rfl rfl rfl ?_
                  refine ev_sp f_X12_river (nx := 91) (v := 350) rfl (by decide) rfl ?_
                  refine ev_if f_X12_river (t1 := 116) (t2 := 94) rfl rfl rfl (fun h74 => ?_) (fun h74 => ?_)
                  · have l75 : 350 ≤ y70_3.toInt := t_lel h74 (by decide : (350:Int) ≤ (350:Int32).toInt)
                    refine ev_ic f_X12_river (nx := 117) (v := 0) rfl (by decide) rfl ?_
                    refine ev_loc f_X12_river (nx := 118) (lo' := [(3, .int 0), (2, .int y21_2), (0, .ref 69), (1, .int ar1)]) rfl rfl rfl rfl ?_
                    have L76 : ∀ (m76 : Nat) (gi76 : Nat → Nat → Int32) (gl76 : Nat → Nat → Int64) (gr76 : Nat → Nat → Value) (y76_3 : Int32), t_I sh gi76 gr76 → t_X wl_n_river sh gi gl gr gi76 gl76 gr76 → 0 ≤ y76_3.toInt → y76_3.toInt ≤ 18 → gi76 69 10 = (gi6 69 10) → gi76 69 16 = (gi 69 16) → gi76 69 18 = (gi21 69 18) → (∀ (b : Nat → Int32) (n : Nat), (n : Int) = ar1.toInt → (∀ j : Nat, j < n → gi 75 j = b j) → t_by b n → t_MV b n (350 : Int32) gi76) → (18 - y76_3.toInt).toNat = m76 → x_Ev X (d + 10) n_X12_river 118 [(3, .int y76_3), (2, .int y21_2), (0, .ref 69), (1, .int ar1)] [] (sh, gi76, gl76, gr76) (t_PI wl_n_river sh gi gl gr (-1) 6 (Q_n_river gi gl gr ar1)) := by
                      intro m76
                      induction m76 using Nat.strongRecOn with
                      | _ m76 ih76 =>
                      intro gi76 gl76 gr76 y76_3 hI hX l76_3 u76_3 c76_0 c76_1 c76_2 j76_0 hm76
                      obtain ⟨l77, u77⟩ := hI.b (hI.wf.s (k := 69) rfl) (t_bdK rfl : t_bd 11 12 = some (0, 4))
                      obtain ⟨l78, u78⟩ := hI.b (hI.wf.s (k := 69) rfl) (t_bdK rfl : t_bd 11 14 = some (0, 900))
                      refine ev_loc f_X12_river (nx := 119) rfl rfl rfl rfl ?_
                      refine ev_bp f_X12_river (nx := 121) (v := 18) rfl (by decide) rfl ?_
                      refine ev_if f_X12_river (t1 := 145) (t2 := 124) rfl rfl rfl (fun h80 => ?_) (fun h80 => ?_)
                      · have l81 : 18 ≤ y76_3.toInt := t_lel h80 (by decide : (18:Int) ≤ (18:Int32).toInt)
                        refine ev_loc f_X12_river (nx := 146) rfl rfl rfl rfl ?_
                        refine ev_loc f_X12_river (nx := 147) rfl rfl rfl rfl ?_
                        refine ev_getR f_X12_river (nx := 150) rfl (hI.wf.s rfl) rfl rfl (hI.wf.r rfl) rfl rfl ?_
                        refine ev_ic f_X12_river (nx := 151) (v := 1) rfl (by decide) rfl ?_
                        obtain ⟨l82, u82⟩ := hI.ab (by decide +kernel : t_abr 70 1 1 0 6 = true) (Nat.le_refl _) (Nat.le_refl _)
                        refine ev_ialdv f_X12_river (nx := 152) (w := (gi76 70 1)) rfl (hI.wf.s rfl) (by decide) (rfl : (1 : Int32).toNatClampNeg = 1) (by decide) rfl rfl ?_
                        refine ev_inV2 f_X12_river (nx := 155) (lo2 := [(0, .ref 69), (1, .int (gi76 70 1))]) rfl rfl rfl rfl f_X12_taken (hI.wf.s rfl) rfl rfl rfl rfl rfl ?_
                        refine ev_loc f_X12_taken (nx := 1) rfl rfl rfl rfl ?_
                        refine ev_loc f_X12_taken (nx := 2) rfl rfl rfl rfl ?_
                        refine ev_gvI f_X12_taken (nx := 5) (w := (gi21 69 18)) rfl (hI.wf.s rfl) rfl rfl c76_2 rfl ?_
                        refine ev_putIT f_X12_taken (nx := 8) rfl (hI.wf.s rfl) rfl rfl rfl (hI.put0 (hI.wf.s rfl) rfl rfl) (hX.upI rfl) (fun g83 e83 hI hX => ?_)
                        refine ev_loc f_X12_taken (nx := 9) rfl rfl rfl rfl ?_
                        refine ev_gvI f_X12_taken (nx := 12) (w := (gi21 69 18)) rfl (hI.wf.s rfl) rfl rfl ((by rw [e83]; exact x_up2_off (Or.inr (by decide)) : g83 69 18 = gi76 69 18).trans c76_2) rfl ?_
                        refine ev_t f_X12_taken (t1 := 24) (t2 := 15) rfl rfl rfl (t_leT u68 (by decide : (0:Int) ≤ (0:Int32).toInt) (by decide)) ?_
                        refine ev_loc f_X12_taken (nx := 25) rfl rfl rfl rfl ?_
                        refine ev_loc f_X12_taken (nx := 26) rfl rfl rfl rfl ?_
                        refine ev_inV2 f_X12_taken (nx := 29) (lo2 := [(0, .ref 69), (1, .int (gi76 70 1))]) rfl rfl rfl rfl f_X12_gives (hI.wf.s rfl) rfl rfl rfl rfl rfl ?_
                        refine ev_loc f_X12_gives (nx := 1) rfl rfl rfl rfl ?_
                        refine ev_ic f_X12_gives (nx := 2) (v := 0) rfl (by decide) rfl ?_
                        refine ev_putIT f_X12_gives (nx := 5) rfl (hI.wf.s rfl) rfl rfl rfl (hI.put0 (hI.wf.s rfl) rfl rfl) (hX.upI rfl) (fun g84 e84 hI hX => ?_)
                        refine ev_loc f_X12_gives (nx := 6) rfl rfl rfl rfl ?_
                        refine ev_retK1 f_X12_gives rfl rfl rfl ?_
                        refine ev_retK1 f_X12_taken rfl rfl rfl ?_
                        exact ev_ret f_X12_river rfl rfl rfl ⟨_, _, _, rfl, hI, hX, ⟨_, rfl, (Int.le_trans (by decide : ((-1):Int) ≤ 0) l82), u82, (show ((0 ≤ ar1.toInt ∧ ar1.toInt ≤ (gi 69 10).toInt) → ∀ (b : Nat → Int32) (n : Nat), (n : Int) = ar1.toInt → (∀ j : Nat, j < n → gi 75 j = b j) → t_by b n → (∃ q2 D2, s_rv b n 901 0 s_D0 = s_ok q2 D2 ∧ t_Cb D2 ∧ (gi76 70 1).toInt = D2 1 ∧ t_MD 0 g84 D2 ∧ (g84 69 16).toInt = 0 ∧ (g84 69 17).toInt = -1) ∨ (∃ p x D2, x ≠ 0 ∧ s_rv b n 901 0 s_D0 = s_bad b n p x D2 ∧ (gi76 70 1).toInt = -1 ∧ (g84 69 16).toInt = s_fk b n p x ∧ (g84 69 17).toInt = (s_F b n p : Nat) ∧ ∀ j : Nat, j < 350 → g84 70 j = gi 70 j)) ∧ (¬ (0 ≤ ar1.toInt ∧ ar1.toInt ≤ (gi 69 10).toInt) → (gi76 70 1).toInt = -1 ∧ ∀ j : Nat, j < 350 → g84 70 j = gi 70 j) from ⟨fun _ b n hn hb hy => (by
                                                            obtain ⟨q2, D2, ⟨h1, h2⟩, h3, h4, h5⟩ := j76_0 b n hn hb hy
                                                            have h6 := t_MD_cp (g1 := gi76) h3 h2 (fun j hj => h5 j (by have : (350 : Int32).toInt = 350 := rfl; omega) hj)
                                                            have e70 : ∀ j, g84 70 j = gi76 70 j := fun j => by rw [e84, x_up2_ne (by decide), e83, x_up2_ne (by decide)]
                                                            refine Or.inl ⟨q2, D2, h1, h2, ?_, h6.eq e70, ?_, ?_⟩
                                                            · exact h6.1.1.2.1
                                                            · rw [e84, x_up2_off (Or.inr (by decide)), e83, x_up2_at, ← c76_2]; exact h4.1
                                                            · rw [e84, x_up2_off (Or.inr (by decide)), e83, x_up2_off (Or.inr (by decide))]; exact h4.2), fun hh => absurd (by omega) hh⟩)⟩⟩
                      · have u85 : y76_3.toInt ≤ 17 := t_ltu (t_nle h80) (by decide : (18:Int32).toInt ≤ (18:Int)) rfl
                        refine ev_loc f_X12_river (nx := 125) rfl rfl rfl rfl ?_
                        refine ev_getR f_X12_river (nx := 128) rfl (hI.wf.s rfl) rfl rfl (hI.wf.r rfl) rfl rfl ?_
                        refine ev_loc f_X12_river (nx := 129) rfl rfl rfl rfl ?_
                        refine ev_loc f_X12_river (nx := 130) rfl rfl rfl rfl ?_
                        refine ev_getR f_X12_river (nx := 133) rfl (hI.wf.s rfl) rfl rfl (hI.wf.r rfl) rfl rfl ?_
                        refine ev_bp f_X12_river (nx := 135) (v := 72) rfl (by decide) rfl ?_
                        refine ev_loc f_X12_river (nx := 136) rfl rfl rfl rfl ?_
                        refine ev_addK f_X12_river (nx := 137) (c := 72) (l := 72) (u := 89) rfl (by decide) l76_3 u85 rfl rfl (by decide) (by decide) rfl (fun z86 e86 l86 u86 => ?_)
                        refine ev_laldT f_X12_river (nx := 138) rfl (hI.wf.s rfl) l86 (by decide) u86 (by decide) rfl (fun w87 e87 => ?_)
                        refine ev_lastT f_X12_river (nx := 139) rfl (hI.wf.s rfl) l76_3 (by decide) u85 (by decide) rfl (hX.upL (t_inR (p := 0) (m := 17) rfl l76_3 (by decide) u85 (by decide) (by decide))) (fun g88 e88 hX => ?_)
                        refine ev_incR f_X12_river (nx := 142) (c := 1) (l := 1) (u := 18) rfl rfl (by decide) (by decide) l76_3 u85 rfl rfl (by decide) (by decide) rfl (fun z89 e89 l89 u89 => ?_)
                        refine ev_jmp f_X12_river (nx := 118) rfl rfl rfl ?_
                        refine ev_sub (lo := [(3, .int z89), (2, .int y21_2), (0, .ref 69), (1, .int ar1)]) rfl (t_sc rfl (t_sc rfl (t_sc rfl (t_sc rfl t_sn)))) ?_
                        exact ih76 _ (by omega) gi76 g88 gr76 (z89) hI hX  (Int.le_trans (by decide : (0:Int) ≤ 1) l89) u89 c76_0 c76_1 c76_2 (fun b n hn hb hy => j76_0 b n hn hb hy) rfl
                    refine ev_sub (lo := [(3, .int 0), (2, .int y21_2), (0, .ref 69), (1, .int ar1)]) rfl (t_sc rfl (t_sc rfl (t_sc rfl (t_sc rfl t_sn)))) ?_
                    exact L76 _ gi70 gl70 gr70 (0) hI hX  (by decide : (0:Int) ≤ (0:Int32).toInt) (Int.le_trans (by decide : (0:Int32).toInt ≤ (0:Int)) (by decide : (0:Int) ≤ 18)) c70_0 c70_1 c70_2 (fun b n hn hb hy => t_MV_k (j70_0 b n hn hb hy) (by omega)) rfl
                  · have u90 : y70_3.toInt ≤ 349 := t_ltu (t_nle h74) (by decide : (350:Int32).toInt ≤ (350:Int)) rfl
                    refine ev_loc f_X12_river (nx := 95) rfl rfl rfl rfl ?_
                    refine ev_getR f_X12_river (nx := 98) rfl (hI.wf.s rfl) rfl rfl (hI.wf.r rfl) rfl rfl ?_
                    refine ev_loc f_X12_river (nx := 99) rfl rfl rfl rfl ?_
                    refine ev_loc f_X12_river (nx := 100) rfl rfl rfl rfl ?_
                    refine ev_getR f_X12_river (nx := 103) rfl (hI.wf.s rfl) rfl rfl (hI.wf.r rfl) rfl rfl ?_
                    refine ev_sp f_X12_river (nx := 106) (v := 1400) rfl (by decide) rfl ?_
                    refine ev_loc f_X12_river (nx := 107) rfl rfl rfl rfl ?_
                    refine ev_addK f_X12_river (nx := 108) (c := 1400) (l := 1400) (u := 1749) rfl (by decide) l70_3 u90 rfl rfl (by decide) (by decide) rfl (fun z91 e91 l91 u91 => ?_)
                    refine ev_ialdT f_X12_river (nx := 109) rfl (hI.wf.s rfl) l91 (by decide) u91 (by decide) rfl (fun w92 e92 => ?_)
                    refine ev_iastT f_X12_river (nx := 110) rfl (hI.wf.s rfl) l70_3 (by decide) u90 (by decide) rfl (hI.astS (a := 4) (b := 0) (k := y70_3.toInt.toNat) e92 (by omega) (by omega) (by omega) (by omega) (by omega)) (hX.upI (t_inR (p := 0) (m := 349) rfl l70_3 (by decide) u90 (by decide) (by decide))) (fun g93 e93 hI hX => ?_)
                    refine ev_incR f_X12_river (nx := 113) (c := 1) (l := 1) (u := 350) rfl rfl (by decide) (by decide) l70_3 u90 rfl rfl (by decide) (by decide) rfl (fun z94 e94 l94 u94 => ?_)
                    refine ev_jmp f_X12_river (nx := 87) rfl rfl rfl ?_
                    refine ev_sub (lo := [(3, .int z94), (2, .int y21_2), (0, .ref 69), (1, .int ar1)]) rfl (t_sc rfl (t_sc rfl (t_sc rfl (t_sc rfl t_sn)))) ?_
                    exact ih70 _ (by omega) g93 gl70 gr70 (z94) hI hX  (Int.le_trans (by decide : (0:Int) ≤ 1) l94) u94 ((by rw [e93]; exact x_up2_off (Or.inl (by decide)) : g93 69 10 = gi70 69 10).trans c70_0) ((by rw [e93]; exact x_up2_off (Or.inl (by decide)) : g93 69 16 = gi70 69 16).trans c70_1) ((by rw [e93]; exact x_up2_off (Or.inl (by decide)) : g93 69 18 = gi70 69 18).trans c70_2) (fun b n hn hb hy => t_MV_s (i := y70_3.toNatClampNeg) (i2 := z91.toNatClampNeg) (j70_0 b n hn hb hy) (by omega) (by omega) (t_clamp (by omega)) ((t_clamp (i := z91) (by omega)).trans (by omega)) e92 (by omega) e93) rfl
                refine ev_sub (lo := [(3, .int 0), (2, .int y21_2), (0, .ref 69), (1, .int ar1)]) rfl (t_sc rfl (t_sc rfl (t_sc rfl (t_sc rfl t_sn)))) ?_
                exact L70 _ gi21 gl21 gr21 (0) hI hX  (by decide : (0:Int) ≤ (0:Int32).toInt) (Int.le_trans (by decide : (0:Int32).toInt ≤ (0:Int)) (by decide : (0:Int) ≤ 350)) c21_0 c21_1 rfl (fun b n hn hb hy => t_MV_0 (j21_0.1 b n hn hb hy) (by omega) rfl (by omega)) rfl
              · have r95 : (gi21 69 18).toInt ≠ 0 := fun e => h67 (Int32.toInt_inj.mp (e.trans (by decide : (0:Int) = (0 : Int32).toInt)))
                refine ev_loc f_X12_river (nx := 146) rfl rfl rfl rfl ?_
                refine ev_loc f_X12_river (nx := 147) rfl rfl rfl rfl ?_
                refine ev_getR f_X12_river (nx := 150) rfl (hI.wf.s rfl) rfl rfl (hI.wf.r rfl) rfl rfl ?_
                refine ev_ic f_X12_river (nx := 151) (v := 1) rfl (by decide) rfl ?_
                obtain ⟨l96, u96⟩ := hI.ab (by decide +kernel : t_abr 70 1 1 0 6 = true) (Nat.le_refl _) (Nat.le_refl _)
                refine ev_ialdv f_X12_river (nx := 152) (w := (gi21 70 1)) rfl (hI.wf.s rfl) (by decide) (rfl : (1 : Int32).toNatClampNeg = 1) (by decide) rfl rfl ?_
                refine ev_inV2 f_X12_river (nx := 155) (lo2 := [(0, .ref 69), (1, .int (gi21 70 1))]) rfl rfl rfl rfl f_X12_taken (hI.wf.s rfl) rfl rfl rfl rfl rfl ?_
                refine ev_loc f_X12_taken (nx := 1) rfl rfl rfl rfl ?_
                refine ev_loc f_X12_taken (nx := 2) rfl rfl rfl rfl ?_
                refine ev_gvI f_X12_taken (nx := 5) (w := (gi21 69 18)) rfl (hI.wf.s rfl) rfl rfl rfl rfl ?_
                refine ev_putIT f_X12_taken (nx := 8) rfl (hI.wf.s rfl) rfl rfl rfl (hI.put0 (hI.wf.s rfl) rfl rfl) (hX.upI rfl) (fun g97 e97 hI hX => ?_)
                refine ev_loc f_X12_taken (nx := 9) rfl rfl rfl rfl ?_
                refine ev_gvI f_X12_taken (nx := 12) (w := (gi21 69 18)) rfl (hI.wf.s rfl) rfl rfl ((by rw [e97]; exact x_up2_off (Or.inr (by decide)) : g97 69 18 = gi21 69 18).trans rfl) rfl ?_
                refine ev_if f_X12_taken (t1 := 24) (t2 := 15) rfl rfl rfl (fun h98 => ?_) (fun h98 => ?_)
                · have u99 : (gi21 69 18).toInt ≤ 0 := t_leu h98 (by decide : (0:Int32).toInt ≤ (0:Int))
                  refine ev_loc f_X12_taken (nx := 25) rfl rfl rfl rfl ?_
                  refine ev_loc f_X12_taken (nx := 26) rfl rfl rfl rfl ?_
                  refine ev_inV2 f_X12_taken (nx := 29) (lo2 := [(0, .ref 69), (1, .int (gi21 70 1))]) rfl rfl rfl rfl f_X12_gives (hI.wf.s rfl) rfl rfl rfl rfl rfl ?_
                  refine ev_loc f_X12_gives (nx := 1) rfl rfl rfl rfl ?_
                  refine ev_ic f_X12_gives (nx := 2) (v := 0) rfl (by decide) rfl ?_
                  refine ev_putIT f_X12_gives (nx := 5) rfl (hI.wf.s rfl) rfl rfl rfl (hI.put0 (hI.wf.s rfl) rfl rfl) (hX.upI rfl) (fun g100 e100 hI hX => ?_)
                  refine ev_loc f_X12_gives (nx := 6) rfl rfl rfl rfl ?_
                  refine ev_retK1 f_X12_gives rfl rfl rfl ?_
                  refine ev_retK1 f_X12_taken rfl rfl rfl ?_
                  exact ev_ret f_X12_river rfl rfl rfl ⟨_, _, _, rfl, hI, hX, ⟨_, rfl, (Int.le_trans (by decide : ((-1):Int) ≤ 0) l96), u96, (show ((0 ≤ ar1.toInt ∧ ar1.toInt ≤ (gi 69 10).toInt) → ∀ (b : Nat → Int32) (n : Nat), (n : Int) = ar1.toInt → (∀ j : Nat, j < n → gi 75 j = b j) → t_by b n → (∃ q2 D2, s_rv b n 901 0 s_D0 = s_ok q2 D2 ∧ t_Cb D2 ∧ (gi21 70 1).toInt = D2 1 ∧ t_MD 0 g100 D2 ∧ (g100 69 16).toInt = 0 ∧ (g100 69 17).toInt = -1) ∨ (∃ p x D2, x ≠ 0 ∧ s_rv b n 901 0 s_D0 = s_bad b n p x D2 ∧ (gi21 70 1).toInt = -1 ∧ (g100 69 16).toInt = s_fk b n p x ∧ (g100 69 17).toInt = (s_F b n p : Nat) ∧ ∀ j : Nat, j < 350 → g100 70 j = gi 70 j)) ∧ (¬ (0 ≤ ar1.toInt ∧ ar1.toInt ≤ (gi 69 10).toInt) → (gi21 70 1).toInt = -1 ∧ ∀ j : Nat, j < 350 → g100 70 j = gi 70 j) from ⟨fun _ b n hn hb hy => (by
                                                            have h1 := j21_0.1 b n hn hb hy
                                                            rcases h1 with ⟨h0, q, D, f, h2, h3, h4⟩ | ⟨h0, p, x, D, hx, h3, h4⟩
                                                            · exact absurd h2.2.2.1 (by omega)
                                                            · have hp : 0 ≤ s_fk b n p x := by
                                                                have hp := s_pos_rv (b := b) (n := n) 901 0 s_D0
                                                                rw [h3] at hp; exact hp
                                                              have h5 := h4.1
                                                              omega), fun hh => absurd (by omega) hh⟩)⟩⟩
                · have l101 : 1 ≤ (gi21 69 18).toInt := t_ltl (t_nle h98) (by decide : (0:Int) ≤ (0:Int32).toInt) rfl
                  refine ev_loc f_X12_taken (nx := 16) rfl rfl rfl rfl ?_
                  refine ev_bp f_X12_taken (nx := 18) (v := 9) rfl (by decide) rfl ?_
                  refine ev_inV2 f_X12_taken (nx := 21) (lo2 := [(0, .ref 69), (1, .int 9)]) rfl rfl rfl rfl f_X12_refuse (hI.wf.s rfl) rfl rfl rfl rfl rfl ?_
                  refine ev_loc f_X12_refuse (nx := 1) rfl rfl rfl rfl ?_
                  refine ev_loc f_X12_refuse (nx := 2) rfl rfl rfl rfl ?_
                  refine ev_putIT f_X12_refuse (nx := 5) rfl (hI.wf.s rfl) rfl rfl rfl (hI.put0 (hI.wf.s rfl) rfl rfl) (hX.upI rfl) (fun g102 e102 hI hX => ?_)
                  refine ev_ic f_X12_refuse (nx := 6) (v := -1) rfl (by decide) rfl ?_
                  refine ev_retK1 f_X12_refuse rfl rfl rfl ?_
                  refine ev_jmp f_X12_taken (nx := 29) rfl rfl rfl ?_
                  refine ev_retK1 f_X12_taken rfl rfl rfl ?_
                  exact ev_ret f_X12_river rfl rfl rfl ⟨_, _, _, rfl, hI, hX, ⟨_, rfl, (by decide : ((-1):Int) ≤ ((-1):Int32).toInt), (Int.le_trans (by decide : ((-1):Int32).toInt ≤ ((-1):Int)) (by decide : ((-1):Int) ≤ 6)), (show ((0 ≤ ar1.toInt ∧ ar1.toInt ≤ (gi 69 10).toInt) → ∀ (b : Nat → Int32) (n : Nat), (n : Int) = ar1.toInt → (∀ j : Nat, j < n → gi 75 j = b j) → t_by b n → (∃ q2 D2, s_rv b n 901 0 s_D0 = s_ok q2 D2 ∧ t_Cb D2 ∧ ((-1) : Int) = D2 1 ∧ t_MD 0 g102 D2 ∧ (g102 69 16).toInt = 0 ∧ (g102 69 17).toInt = -1) ∨ (∃ p x D2, x ≠ 0 ∧ s_rv b n 901 0 s_D0 = s_bad b n p x D2 ∧ ((-1) : Int) = -1 ∧ (g102 69 16).toInt = s_fk b n p x ∧ (g102 69 17).toInt = (s_F b n p : Nat) ∧ ∀ j : Nat, j < 350 → g102 70 j = gi 70 j)) ∧ (¬ (0 ≤ ar1.toInt ∧ ar1.toInt ≤ (gi 69 10).toInt) → ((-1) : Int) = -1 ∧ ∀ j : Nat, j < 350 → g102 70 j = gi 70 j) from ⟨fun _ b n hn hb hy => (by
                                                            have h1 := j21_0.1 b n hn hb hy
                                                            rcases h1 with ⟨h0, q, D, f, h2, h3, h4⟩ | ⟨h0, p, x, D, hx, h3, h4⟩
                                                            · exact absurd h2.2.2.1 (by omega)
                                                            · refine Or.inr ⟨p, x, D, hx, h3, rfl, ?_, ?_, fun j hj => ?_⟩
                                                              · rw [e102, x_up2_off (Or.inr (by decide)), e97, x_up2_at]; exact h4.1
                                                              · rw [e102, x_up2_off (Or.inr (by decide)), e97, x_up2_off (Or.inr (by decide))]; exact h4.2
                                                              · rw [e102, x_up2_ne (by decide), e97, x_up2_ne (by decide)]; exact j21_0.2 j (by omega)), fun hh => absurd (by omega) hh⟩)⟩⟩
            · have r103 : (gi21 69 12).toInt ≠ 0 := fun e => h65 (Int32.toInt_inj.mp (e.trans (by decide : (0:Int) = (0 : Int32).toInt)))
              have l104 : 1 ≤ (gi21 69 12).toInt := t_nel h65 l22 rfl rfl
              refine ev_loc f_X12_river (nx := 71) rfl rfl rfl rfl ?_
              refine ev_qI f_X12_river (nx := 74) (r := []) rfl rfl rfl rfl rfl rfl rfl (c_n_riverPartB hI ) rfl hX rfl (fun w105 gi105 gl105 gr105 l105 u105 hI hX hC105 q105 => ?_)
              have q105 : ((gi21 69 14).toInt ≤ (gi105 69 14).toInt ∧ (w105.toInt = 1 → (gi105 69 12).toInt ≠ 0 → (gi21 69 14).toInt < (gi105 69 14).toInt) ∧ (1 ≤ (gi21 70 1404).toInt → 1 ≤ (gi105 70 1404).toInt)) ∧ (∀ (b : Nat → Int32) (n q : Nat) (D : s_D), t_MS b n q D gi21 gl21 → (w105.toInt = 1 ∧ ∃ q2 D2, s_semi b n (s_part b n q D) = s_ok q2 D2 ∧ t_MS b n q2 D2 gi105 gl105) ∨ (w105.toInt = 0 ∧ ∃ p x D2, x ≠ 0 ∧ s_semi b n (s_part b n q D) = s_bad b n p x D2 ∧ t_MF gi105 (s_fk b n p x) (s_F b n p))) := q105
              obtain ⟨l106, u106⟩ := hI.b (hI.wf.s (k := 69) rfl) (t_bdK rfl : t_bd 11 12 = some (0, 4))
              obtain ⟨l107, u107⟩ := hI.b (hI.wf.s (k := 69) rfl) (t_bdK rfl : t_bd 11 14 = some (0, 900))
              refine ev_loc f_X12_river (nx := 75) (lo' := [(2, .int w105), (0, .ref 69), (1, .int ar1)]) rfl rfl rfl rfl ?_
              refine ev_jmp f_X12_river (nx := 59) rfl rfl rfl ?_
              refine ev_sub (lo := [(2, .int w105), (0, .ref 69), (1, .int ar1)]) rfl (t_sc rfl (t_sc rfl (t_sc rfl t_sn))) ?_
              exact ih21 _ (by omega) gi105 gl105 gr105 (w105) hI hX  l105 u105 ((hC105.1 69 10 rfl).1.trans c21_0) ((hC105.1 69 16 rfl).1.trans c21_1) ⟨fun b n hn hb hy => t_MU_s (j21_0.1 b n hn hb hy) (by omega) (by omega) (fun q D h => q105.2 b n q D h) q105.1.2.1, fun j hj => ((hC105.1 70 j (t_nG (lo := 0) (hi := 1400) rfl (Nat.zero_le _) hj)).1).trans (j21_0.2 j hj)⟩ rfl
        refine ev_sub (lo := [(2, .int 1), (0, .ref 69), (1, .int ar1)]) rfl (t_sc rfl (t_sc rfl (t_sc rfl t_sn))) ?_
        exact L21 _ g20 gl16 gr16 (1) hI hX  (Int.le_trans (by decide : (0:Int) ≤ 1) (by decide : (1:Int) ≤ (1:Int32).toInt)) (by decide : (1:Int32).toInt ≤ (1:Int)) ((by rw [e20]; exact x_up2_off (Or.inr (by decide)) : g20 69 10 = g19 69 10).trans ((by rw [e19]; exact x_up2_off (Or.inl (by decide)) : g19 69 10 = gi16 69 10).trans c16_0)) ((by rw [e20]; exact x_up2_off (Or.inr (by decide)) : g20 69 16 = g19 69 16).trans ((by rw [e19]; exact x_up2_off (Or.inl (by decide)) : g19 69 16 = gi16 69 16).trans c16_3)) ⟨fun b n hn hb hy => (by
                                                            obtain ⟨h1, h2, h3⟩ := j16_0.1 b n hn hb hy
                                                            have ht := (h1.st e19).eq (g1 := g20) (fun j => by rw [e20, x_up2_ne (by decide)]) (fun j j1 j2 => by rw [e20, x_up2_off (Or.inr (by omega))])
                                                            have hm : t_MS b n 0 s_D0 g20 gl16 := by
                                                              refine t_MS_0 ht (fun j j1 j2 => ?_) ?_ ?_ ?_
                                                              · rw [e20, x_up2_ne (by decide), e19, x_up2_off (Or.inr (show 1400 + j ≠ (1404 : Int32).toNatClampNeg from (by show 1400 + j ≠ 1404; omega)))]; exact h3 j (by omega)
                                                              · rw [e20, x_up2_ne (by decide), e19]; rfl
                                                              · rw [e20, x_up2_at]; rfl
                                                              · unfold t_MF; rw [e20, x_up2_off (Or.inr (by decide)), x_up2_off (Or.inr (by decide)), e19, x_up2_ne (by decide)]; exact h2
                                                            exact Or.inl ⟨by decide, 0, s_D0, 901, hm, rfl, fun _ => by have := (s_E_b (b := b) ht.1.2).1; omega⟩), fun j hj => (by
                                                            rw [e20, x_up2_ne (by decide), e19, x_up2_off (Or.inr (show j ≠ (1404 : Int32).toNatClampNeg from (by show j ≠ 1404; omega)))]; exact j16_0.2 j hj)⟩ rfl
      · have u109 : y16_2.toInt ≤ 349 := t_ltu (t_nle h17) (by decide : (350:Int32).toInt ≤ (350:Int)) rfl
        refine ev_loc f_X12_river (nx := 27) rfl rfl rfl rfl ?_
        refine ev_getR f_X12_river (nx := 30) rfl (hI.wf.s rfl) rfl rfl (hI.wf.r rfl) rfl rfl ?_
        refine ev_sp f_X12_river (nx := 33) (v := 1400) rfl (by decide) rfl ?_
        refine ev_loc f_X12_river (nx := 34) rfl rfl rfl rfl ?_
        refine ev_addK f_X12_river (nx := 35) (c := 1400) (l := 1400) (u := 1749) rfl (by decide) l16_2 u109 rfl rfl (by decide) (by decide) rfl (fun z110 e110 l110 u110 => ?_)
        refine ev_ic f_X12_river (nx := 36) (v := 0) rfl (by decide) rfl ?_
        refine ev_iastT f_X12_river (nx := 37) rfl (hI.wf.s rfl) l110 (by decide) u110 (by decide) rfl (hI.astL (hI.wf.s rfl) (by decide +kernel : t_abw 70 1400 1749 0 0 = true) (t_cl1 l110 (by decide)) (t_cl2 l110 u110 (by decide) (by decide)) (by decide : (0:Int) ≤ (0:Int32).toInt) (by decide : (0:Int32).toInt ≤ (0:Int)) rfl) (hX.upI (t_inR (p := 1400) (m := 1749) rfl l110 (by decide) u110 (by decide) (by decide))) (fun g111 e111 hI hX => ?_)
        refine ev_incR f_X12_river (nx := 40) (c := 1) (l := 1) (u := 350) rfl rfl (by decide) (by decide) l16_2 u109 rfl rfl (by decide) (by decide) rfl (fun z112 e112 l112 u112 => ?_)
        refine ev_jmp f_X12_river (nx := 19) rfl rfl rfl ?_
        refine ev_sub (lo := [(2, .int z112), (0, .ref 69), (1, .int ar1)]) rfl (t_sc rfl (t_sc rfl (t_sc rfl t_sn))) ?_
        exact ih16 _ (by omega) g111 gl16 gr16 (z112) hI hX  (Int.le_trans (by decide : (0:Int) ≤ 1) l112) u112 ((by rw [e111]; exact x_up2_off (Or.inl (by decide)) : g111 69 10 = gi16 69 10).trans c16_0) ((by rw [e111]; exact x_up2_off (Or.inl (by decide)) : g111 69 12 = gi16 69 12).trans c16_1) ((by rw [e111]; exact x_up2_off (Or.inl (by decide)) : g111 69 14 = gi16 69 14).trans c16_2) ((by rw [e111]; exact x_up2_off (Or.inl (by decide)) : g111 69 16 = gi16 69 16).trans c16_3) ((by rw [e111]; exact x_up2_off (Or.inl (by decide)) : g111 69 17 = gi16 69 17).trans c16_4) ⟨fun b n hn hb hy => (by
                                                            obtain ⟨h1, h2, h3⟩ := j16_0.1 b n hn hb hy
                                                            refine ⟨h1.st e111, by unfold t_MF; rw [e111, x_up2_ne (by decide)]; exact h2, fun j hj => ?_⟩
                                                            have c1 := t_clamp (i := z110) (by omega)
                                                            by_cases hj2 : 1400 + j = z110.toNatClampNeg
                                                            · rw [hj2, e111, x_up2_at]; rfl
                                                            · rw [e111, x_up2_off (Or.inr hj2)]; exact h3 j (by omega)), fun j hj => (by
                                                            have c1 := t_clamp (i := z110) (by omega)
                                                            rw [e111, x_up2_off (Or.inr (by omega))]; exact j16_0.2 j hj)⟩ rfl
    refine ev_sub (lo := [(2, .int 0), (0, .ref 69), (1, .int ar1)]) rfl (t_sc rfl (t_sc rfl (t_sc rfl t_sn))) ?_
    exact L16 _ gi6 gl6 gr6 (0) hI hX  (by decide : (0:Int) ≤ (0:Int32).toInt) (Int.le_trans (by decide : (0:Int32).toInt ≤ (0:Int)) (by decide : (0:Int) ≤ 350)) rfl rfl rfl ((hC6.1 69 16 rfl).1.trans rfl) rfl ⟨fun b n hn hb hy => ⟨(q6.1 b n hn hb hy (by omega)).1, (q6.1 b n hn hb hy (by omega)).2, fun j hj => absurd hj (by have : (0 : Int32).toInt = 0 := rfl; omega)⟩, fun j hj => (hC6.1 70 j rfl).1⟩ rfl
