/-! ===== printed by riv.py: the RIVER of the other side ===== -/
noncomputable def wl_n_river : List (Nat × Nat) := [(69, 2), (69, 10), (69, 11), (69, 12), (69, 13), (69, 14), (69, 15), (69, 16), (69, 17), (69, 18), (69, 19), (69, 20), (70, 10349), (70, 140011400), (70, 140011749), (70, 140111401), (70, 140211402), (70, 140411404), (70, 140511405), (70, 140611406), (70, 140711407), (70, 141011452), (70, 141111458), (70, 145211482), (70, 145311483), (70, 145411484), (70, 145511485), (70, 145611486), (70, 148211500), (70, 148311501), (70, 148411502), (71, 10017), (71, 7210089), (76, 9999)]
noncomputable def Q_n_river (gi : Nat → Nat → Int32) (gl : Nat → Nat → Int64) (gr : Nat → Nat → Value) (ar1 : Int32) : Int32 → (Nat → Nat → Int32) → (Nat → Nat → Int64) → (Nat → Nat → Value) → Prop := fun (v : Int32) (gi2 : Nat → Nat → Int32) (gl2 : Nat → Nat → Int64) (gr2 : Nat → Nat → Value) => ((0 ≤ ar1.toInt ∧ ar1.toInt ≤ (gi 69 10).toInt) → ∀ (b : Nat → Int32) (n : Nat), (n : Int) = ar1.toInt → (∀ j : Nat, j < n → gi 75 j = b j) → t_by b n → (∃ q2 D2, s_rv b n 901 0 s_D0 = s_ok q2 D2 ∧ t_Cb D2 ∧ v.toInt = D2 1 ∧ t_MD 0 gi2 D2 ∧ (gi2 69 16).toInt = 0 ∧ (gi2 69 17).toInt = -1) ∨ (∃ p x D2, x ≠ 0 ∧ s_rv b n 901 0 s_D0 = s_bad b n p x D2 ∧ v.toInt = -1 ∧ (gi2 69 16).toInt = s_fk b n p x ∧ (gi2 69 17).toInt = (s_F b n p : Nat) ∧ ∀ j : Nat, j < 350 → gi2 70 j = gi 70 j)) ∧ (¬ (0 ≤ ar1.toInt ∧ ar1.toInt ≤ (gi 69 10).toInt) → v.toInt = -1 ∧ ∀ j : Nat, j < 350 → gi2 70 j = gi 70 j)
theorem c_n_river {X : x_Ext} {d : Nat} {sh : List (Nat ⊕ (Nat × Nat))} {gi : Nat → Nat → Int32} {gl : Nat → Nat → Int64} {gr : Nat → Nat → Value} (hI : t_I sh gi gr) (ar1 : Int32) : x_Me X (d + 10) n_X12_river [.ref 69, .int ar1] (sh, gi, gl, gr) (t_PI wl_n_river sh gi gl gr (-1) 6 (Q_n_river gi gl gr ar1)) := by
  have hX : t_X wl_n_river sh gi gl gr gi gl gr := t_X.rf
  refine me_i f_X12_river (hI.wf.s rfl) rfl rfl rfl ?_
  obtain ⟨l1, u1⟩ := hI.b (hI.wf.s (k := 69) rfl) (t_bdK rfl : t_bd 11 10 = some (0, 900))
  obtain ⟨l2, u2⟩ := hI.b (hI.wf.s (k := 69) rfl) (t_bdK rfl : t_bd 11 12 = some (0, 4))
  obtain ⟨l3, u3⟩ := hI.b (hI.wf.s (k := 69) rfl) (t_bdK rfl : t_bd 11 14 = some (0, 900))
  refine ev_loc f_X12_river (nx := 1) rfl rfl rfl rfl ?_
  refine ev_loc f_X12_river (nx := 2) rfl rfl rfl rfl ?_
  refine ev_sp f_X12_river (nx := 5) (v := 900) rfl (by decide) rfl ?_
  refine ev_qI f_X12_river (nx := 8) (r := []) rfl rfl rfl rfl rfl rfl rfl (c_n_begins hI (ar1) (900)) rfl hX rfl (fun w6 gi6 gl6 gr6 l6 u6 hI hX hC6 q6 => ?_)
  have q6 : (∀ (b : Nat → Int32) (n : Nat), (n : Int) = ar1.toInt → (∀ j : Nat, j < n → gi 75 j = b j) → t_by b n → w6.toInt = 1 → t_TM b n 0 gi6 ∧ t_MF gi6 0 (-1)) ∧ (w6.toInt = 1 → (0 ≤ ar1.toInt ∧ ar1.toInt ≤ (gi 69 10).toInt ∧ ar1.toInt ≤ 900)) ∧ (w6.toInt = 0 → ¬ (0 ≤ ar1.toInt ∧ ar1.toInt ≤ (gi 69 10).toInt ∧ ar1.toInt ≤ 900)) := q6
  obtain ⟨l7, u7⟩ := hI.b (hI.wf.s (k := 69) rfl) (t_bdK rfl : t_bd 11 10 = some (0, 900))
  obtain ⟨l8, u8⟩ := hI.b (hI.wf.s (k := 69) rfl) (t_bdK rfl : t_bd 11 12 = some (0, 4))
  obtain ⟨l9, u9⟩ := hI.b (hI.wf.s (k := 69) rfl) (t_bdK rfl : t_bd 11 14 = some (0, 900))
  refine ev_if f_X12_river (t1 := 11) (t2 := 17) rfl rfl rfl (fun h11 => ?_) (fun h11 => ?_)
  · have u12 : w6.toInt ≤ 0 := t_equ h11 (by decide : (0:Int32).toInt ≤ (0:Int))
    refine ev_loc f_X12_river (nx := 12) rfl rfl rfl rfl ?_
    refine ev_ic f_X12_river (nx := 13) (v := 1) rfl (by decide) rfl ?_
    refine ev_inV2 f_X12_river (nx := 16) (lo2 := [(0, .ref 69), (1, .int 1)]) rfl rfl rfl rfl f_X12_refuse (hI.wf.s rfl) rfl rfl rfl rfl rfl ?_
    refine ev_loc f_X12_refuse (nx := 1) rfl rfl rfl rfl ?_
    refine ev_loc f_X12_refuse (nx := 2) rfl rfl rfl rfl ?_
    refine ev_putIT f_X12_refuse (nx := 5) rfl (hI.wf.s rfl) rfl rfl rfl (hI.put0 (hI.wf.s rfl) rfl rfl) (hX.upI rfl) (fun g13 e13 hI hX => ?_)
    refine ev_ic f_X12_refuse (nx := 6) (v := -1) rfl (by decide) rfl ?_
    refine ev_retK1 f_X12_refuse rfl rfl rfl ?_
    exact ev_ret f_X12_river rfl rfl rfl ⟨_, _, _, rfl, hI, hX, ⟨_, rfl, (by decide : ((-1):Int) ≤ ((-1):Int32).toInt), (Int.le_trans (by decide : ((-1):Int32).toInt ≤ ((-1):Int)) (by decide : ((-1):Int) ≤ 6)), (show ((0 ≤ ar1.toInt ∧ ar1.toInt ≤ (gi 69 10).toInt) → ∀ (b : Nat → Int32) (n : Nat), (n : Int) = ar1.toInt → (∀ j : Nat, j < n → gi 75 j = b j) → t_by b n → (∃ q2 D2, s_rv b n 901 0 s_D0 = s_ok q2 D2 ∧ t_Cb D2 ∧ ((-1) : Int) = D2 1 ∧ t_MD 0 g13 D2 ∧ (g13 69 16).toInt = 0 ∧ (g13 69 17).toInt = -1) ∨ (∃ p x D2, x ≠ 0 ∧ s_rv b n 901 0 s_D0 = s_bad b n p x D2 ∧ ((-1) : Int) = -1 ∧ (g13 69 16).toInt = s_fk b n p x ∧ (g13 69 17).toInt = (s_F b n p : Nat) ∧ ∀ j : Nat, j < 350 → g13 70 j = gi 70 j)) ∧ (¬ (0 ≤ ar1.toInt ∧ ar1.toInt ≤ (gi 69 10).toInt) → ((-1) : Int) = -1 ∧ ∀ j : Nat, j < 350 → g13 70 j = gi 70 j) from ⟨fun hi => absurd hi (by have h9 : (900 : Int32).toInt = 900 := rfl; have := q6.2.2 (by omega); omega), fun _ => ⟨rfl, fun j _ => by rw [e13, x_up2_ne (by decide)]; exact (hC6.1 70 j rfl).1⟩⟩)⟩⟩
  · have r14 : w6.toInt ≠ 0 := fun e => h11 (Int32.toInt_inj.mp (e.trans (by decide : (0:Int) = (0 : Int32).toInt)))
    have l15 : 1 ≤ w6.toInt := t_nel h11 l6 rfl rfl
    refine ev_ic f_X12_river (nx := 18) (v := 0) rfl (by decide) rfl ?_
    refine ev_loc f_X12_river (nx := 19) (lo' := [(2, .int 0), (0, .ref 69), (1, .int ar1)]) rfl rfl rfl rfl ?_
    have L16 : ∀ (m16 : Nat) (gi16 : Nat → Nat → Int32) (gl16 : Nat → Nat → Int64) (gr16 : Nat → Nat → Value) (y16_2 : Int32), t_I sh gi16 gr16 → t_X wl_n_river sh gi gl gr gi16 gl16 gr16 → 0 ≤ y16_2.toInt → y16_2.toInt ≤ 350 → gi16 69 10 = (gi6 69 10) → gi16 69 12 = (gi6 69 12) → gi16 69 14 = (gi6 69 14) → gi16 69 16 = (gi 69 16) → gi16 69 17 = (gi6 69 17) → (∀ (b : Nat → Int32) (n : Nat), (n : Int) = ar1.toInt → (∀ j : Nat, j < n → gi 75 j = b j) → t_by b n → t_TM b n 0 gi16 ∧ t_MF gi16 0 (-1) ∧ ∀ j : Nat, (j : Int) < y16_2.toInt → (gi16 70 (1400 + j)).toInt = 0) ∧ (∀ j : Nat, j < 1400 → gi16 70 j = gi 70 j) → (350 - y16_2.toInt).toNat = m16 → x_Ev X (d + 10) n_X12_river 19 [(2, .int y16_2), (0, .ref 69), (1, .int ar1)] [] (sh, gi16, gl16, gr16) (t_PI wl_n_river sh gi gl gr (-1) 6 (Q_n_river gi gl gr ar1)) := by
      intro m16
      induction m16 using Nat.strongRecOn with
      | _ m16 ih16 =>
      intro gi16 gl16 gr16 y16_2 hI hX l16_2 u16_2 c16_0 c16_1 c16_2 c16_3 c16_4 j16_0 hm16
      refine ev_loc f_X12_river (nx := 20) rfl rfl rfl rfl ?_
      refine ev_sp f_X12_river (nx := 23) (v := 350) rfl (by decide) rfl ?_
      refine ev_if f_X12_river (t1 := 43) (t2 := 26) rfl rfl rfl (fun h17 => ?_) (fun h17 => ?_)
      · have l18 : 350 ≤ y16_2.toInt := t_lel h17 (by decide : (350:Int) ≤ (350:Int32).toInt)
        refine ev_loc f_X12_river (nx := 44) rfl rfl rfl rfl ?_
        refine ev_getR f_X12_river (nx := 47) rfl (hI.wf.s rfl) rfl rfl (hI.wf.r rfl) rfl rfl ?_
        refine ev_sp f_X12_river (nx := 50) (v := 1404) rfl (by decide) rfl ?_
        refine ev_ic f_X12_river (nx := 51) (v := 5) rfl (by decide) rfl ?_
        refine ev_iastT f_X12_river (nx := 52) rfl (hI.wf.s rfl) (by decide : (1404:Int) ≤ (1404:Int32).toInt) (by decide) (by decide : (1404:Int32).toInt ≤ (1404:Int)) (by decide) rfl (hI.astL (hI.wf.s rfl) (by decide +kernel : t_abw 70 1404 1404 5 5 = true) (t_cl1 (by decide : (1404:Int) ≤ (1404:Int32).toInt) (by decide)) (t_cl2 (by decide : (1404:Int) ≤ (1404:Int32).toInt) (by decide : (1404:Int32).toInt ≤ (1404:Int)) (by decide) (by decide)) (by decide : (5:Int) ≤ (5:Int32).toInt) (by decide : (5:Int32).toInt ≤ (5:Int)) rfl) (hX.upI (t_inR (p := 1404) (m := 1404) rfl (by decide : (1404:Int) ≤ (1404:Int32).toInt) (by decide) (by decide : (1404:Int32).toInt ≤ (1404:Int)) (by decide) (by decide))) (fun g19 e19 hI hX => ?_)
        refine ev_loc f_X12_river (nx := 53) rfl rfl rfl rfl ?_
        refine ev_ic f_X12_river (nx := 54) (v := 0) rfl (by decide) rfl ?_
        refine ev_putIT f_X12_river (nx := 57) rfl (hI.wf.s rfl) rfl rfl rfl (hI.put0 (hI.wf.s rfl) rfl rfl) (hX.upI rfl) (fun g20 e20 hI hX => ?_)
        refine ev_ic f_X12_river (nx := 58) (v := 1) rfl (by decide) rfl ?_
        refine ev_loc f_X12_river (nx := 59) (lo' := [(2, .int 1), (0, .ref 69), (1, .int ar1)]) rfl rfl rfl rfl ?_
        have L21 : ∀ (m21 : Nat) (gi21 : Nat → Nat → Int32) (gl21 : Nat → Nat → Int64) (gr21 : Nat → Nat → Value) (y21_2 : Int32), t_I sh gi21 gr21 → t_X wl_n_river sh gi gl gr gi21 gl21 gr21 → 0 ≤ y21_2.toInt → y21_2.toInt ≤ 1 → gi21 69 10 = (gi6 69 10) → gi21 69 16 = (gi 69 16) → (∀ (b : Nat → Int32) (n : Nat), (n : Int) = ar1.toInt → (∀ j : Nat, j < n → gi 75 j = b j) → t_by b n → t_MU b n y21_2 gi21 gl21) ∧ (∀ j : Nat, j < 1400 → gi21 70 j = gi 70 j) → (4 * (900 - (gi21 69 14).toInt) + 2 * min (gi21 69 12).toInt 1 + y21_2.toInt).toNat = m21 → x_Ev X (d + 10) n_X12_river 59 [(2, .int y21_2), (0, .ref 69), (1, .int ar1)] [] (sh, gi21, gl21, gr21) (t_PI wl_n_river sh gi gl gr (-1) 6 (Q_n_river gi gl gr ar1)) := by
          intro m21
          induction m21 using Nat.strongRecOn with
          | _ m21 ih21 =>
          intro gi21 gl21 gr21 y21_2 hI hX l21_2 u21_2 c21_0 c21_1 j21_0 hm21
          obtain ⟨l22, u22⟩ := hI.b (hI.wf.s (k := 69) rfl) (t_bdK rfl : t_bd 11 12 = some (0, 4))
          obtain ⟨l23, u23⟩ := hI.b (hI.wf.s (k := 69) rfl) (t_bdK rfl : t_bd 11 14 = some (0, 900))
          refine ev_loc f_X12_river (nx := 60) rfl rfl rfl rfl ?_
          refine ev_if f_X12_river (t1 := 78) (t2 := 63) rfl rfl rfl (fun h25 => ?_) (fun h25 => ?_)
          · have u26 : y21_2.toInt ≤ 0 := t_equ h25 (by decide : (0:Int32).toInt ≤ (0:Int))
            refine ev_loc f_X12_river (nx := 79) rfl rfl rfl rfl ?_
            refine ev_getI f_X12_river (nx := 82) rfl (hI.wf.s rfl) rfl rfl rfl ?_
            refine ev_if f_X12_river (t1 := 85) (t2 := 145) rfl rfl rfl (fun h27 => ?_) (fun h27 => ?_)
            · have u28 : (gi21 69 18).toInt ≤ 0 := t_equ h27 (by decide : (0:Int32).toInt ≤ (0:Int))
              have l29 : 0 ≤ (gi21 69 18).toInt := t_eql h27 (by decide : (0:Int) ≤ (0:Int32).toInt)
              refine ev_ic f_X12_river (nx := 86) (v := 0) rfl (by decide) rfl ?_
              refine ev_loc f_X12_river (nx := 87) (lo' := [(3, .int 0), (2, .int y21_2), (0, .ref 69), (1, .int ar1)]) rfl rfl rfl rfl ?_
              have L30 : ∀ (m30 : Nat) (gi30 : Nat → Nat → Int32) (gl30 : Nat → Nat → Int64) (gr30 : Nat → Nat → Value) (y30_3 : Int32), t_I sh gi30 gr30 → t_X wl_n_river sh gi gl gr gi30 gl30 gr30 → 0 ≤ y30_3.toInt → y30_3.toInt ≤ 350 → gi30 69 10 = (gi6 69 10) → gi30 69 16 = (gi 69 16) → gi30 69 18 = (gi21 69 18) → (∀ (b : Nat → Int32) (n : Nat), (n : Int) = ar1.toInt → (∀ j : Nat, j < n → gi 75 j = b j) → t_by b n → t_MV b n y30_3 gi30) → (350 - y30_3.toInt).toNat = m30 → x_Ev X (d + 10) n_X12_river 87 [(3, .int y30_3), (2, .int y21_2), (0, .ref 69), (1, .int ar1)] [] (sh, gi30, gl30, gr30) (t_PI wl_n_river sh gi gl gr (-1) 6 (Q_n_river gi gl gr ar1)) := by
                intro m30
                induction m30 using Nat.strongRecOn with
                | _ m30 ih30 =>
                intro gi30 gl30 gr30 y30_3 hI hX l30_3 u30_3 c30_0 c30_1 c30_2 j30_0 hm30
                obtain ⟨l31, u31⟩ := hI.b (hI.wf.s (k := 69) rfl) (t_bdK rfl : t_bd 11 12 = some (0, 4))
                obtain ⟨l32, u32⟩ := hI.b (hI.wf.s (k := 69) rfl) (t_bdK rfl : t_bd 11 14 = some (0, 900))
                refine ev_loc f_X12_river (nx := 88) rfl rfl rfl rfl ?_
                refine ev_sp f_X12_river (nx := 91) (v := 350) rfl (by decide) rfl ?_
                refine ev_if f_X12_river (t1 := 116) (t2 := 94) rfl rfl rfl (fun h34 => ?_) (fun h34 => ?_)
                · have l35 : 350 ≤ y30_3.toInt := t_lel h34 (by decide : (350:Int) ≤ (350:Int32).toInt)
                  refine ev_ic f_X12_river (nx := 117) (v := 0) rfl (by decide) rfl ?_
                  refine ev_loc f_X12_river (nx := 118) (lo' := [(3, .int 0), (2, .int y21_2), (0, .ref 69), (1, .int ar1)]) rfl rfl rfl rfl ?_
                  have L36 : ∀ (m36 : Nat) (gi36 : Nat → Nat → Int32) (gl36 : Nat → Nat → Int64) (gr36 : Nat → Nat → Value) (y36_3 : Int32), t_I sh gi36 gr36 → t_X wl_n_river sh gi gl gr gi36 gl36 gr36 → 0 ≤ y36_3.toInt → y36_3.toInt ≤ 18 → gi36 69 10 = (gi6 69 10) → gi36 69 16 = (gi 69 16) → gi36 69 18 = (gi21 69 18) → (∀ (b : Nat → Int32) (n : Nat), (n : Int) = ar1.toInt → (∀ j : Nat, j < n → gi 75 j = b j) → t_by b n → t_MV b n (350 : Int32) gi36) → (18 - y36_3.toInt).toNat = m36 → x_Ev X (d + 10) n_X12_river 118 [(3, .int y36_3), (2, .int y21_2), (0, .ref 69), (1, .int ar1)] [] (sh, gi36, gl36, gr36) (t_PI wl_n_river sh gi gl gr (-1) 6 (Q_n_river gi gl gr ar1)) := by
                    intro m36
                    induction m36 using Nat.strongRecOn with
                    | _ m36 ih36 =>
                    intro gi36 gl36 gr36 y36_3 hI hX l36_3 u36_3 c36_0 c36_1 c36_2 j36_0 hm36
                    obtain ⟨l37, u37⟩ := hI.b (hI.wf.s (k := 69) rfl) (t_bdK rfl : t_bd 11 12 = some (0, 4))
                    obtain ⟨l38, u38⟩ := hI.b (hI.wf.s (k := 69) rfl) (t_bdK rfl : t_bd 11 14 = some (0, 900))
                    refine ev_loc f_X12_river (nx := 119) rfl rfl rfl rfl ?_
                    refine ev_bp f_X12_river (nx := 121) (v := 18) rfl (by decide) rfl ?_
                    refine ev_if f_X12_river (t1 := 145) (t2 := 124) rfl rfl rfl (fun h40 => ?_) (fun h40 => ?_)
                    · have l41 : 18 ≤ y36_3.toInt := t_lel h40 (by decide : (18:Int) ≤ (18:Int32).toInt)
                      refine ev_loc f_X12_river (nx := 146) rfl rfl rfl rfl ?_
                      refine ev_loc f_X12_river (nx := 147) rfl rfl rfl rfl ?_
                      refine ev_getR f_X12_river (nx := 150) rfl (hI.wf.s rfl) rfl rfl (hI.wf.r rfl) rfl rfl ?_
                      refine ev_ic f_X12_river (nx := 151) (v := 1) rfl (by decide) rfl ?_
                      obtain ⟨l42, u42⟩ := hI.ab (by decide +kernel : t_abr 70 1 1 0 6 = true) (Nat.le_refl _) (Nat.le_refl _)
                      refine ev_ialdv f_X12_river (nx := 152) (w := (gi36 70 1)) rfl (hI.wf.s rfl) (by decide) (rfl : (1 : Int32).toNatClampNeg = 1) (by decide) rfl rfl ?_
                      refine ev_inV2 f_X12_river (nx := 155) (lo2 := [(0, .ref 69), (1, .int (gi36 70 1))]) rfl rfl rfl rfl f_X12_taken (hI.wf.s rfl) rfl rfl rfl rfl rfl ?_
                      refine ev_loc f_X12_taken (nx := 1) rfl rfl rfl rfl ?_
                      refine ev_loc f_X12_taken (nx := 2) rfl rfl rfl rfl ?_
                      refine ev_gvI f_X12_taken (nx := 5) (w := (gi21 69 18)) rfl (hI.wf.s rfl) rfl rfl c36_2 rfl ?_
                      refine ev_putIT f_X12_taken (nx := 8) rfl (hI.wf.s rfl) rfl rfl rfl (hI.put0 (hI.wf.s rfl) rfl rfl) (hX.upI rfl) (fun g43 e43 hI hX => ?_)
                      refine ev_loc f_X12_taken (nx := 9) rfl rfl rfl rfl ?_
                      refine ev_gvI f_X12_taken (nx := 12) (w := (gi21 69 18)) rfl (hI.wf.s rfl) rfl rfl ((by rw [e43]; exact x_up2_off (Or.inr (by decide)) : g43 69 18 = gi36 69 18).trans c36_2) rfl ?_
                      refine ev_t f_X12_taken (t1 := 24) (t2 := 15) rfl rfl rfl (t_leT u28 (by decide : (0:Int) ≤ (0:Int32).toInt) (by decide)) ?_
                      refine ev_loc f_X12_taken (nx := 25) rfl rfl rfl rfl ?_
                      refine ev_loc f_X12_taken (nx := 26) rfl rfl rfl rfl ?_
                      refine ev_inV2 f_X12_taken (nx := 29) (lo2 := [(0, .ref 69), (1, .int (gi36 70 1))]) rfl rfl rfl rfl f_X12_gives (hI.wf.s rfl) rfl rfl rfl rfl rfl ?_
                      refine ev_loc f_X12_gives (nx := 1) rfl rfl rfl rfl ?_
                      refine ev_ic f_X12_gives (nx := 2) (v := 0) rfl (by decide) rfl ?_
                      refine ev_putIT f_X12_gives (nx := 5) rfl (hI.wf.s rfl) rfl rfl rfl (hI.put0 (hI.wf.s rfl) rfl rfl) (hX.upI rfl) (fun g44 e44 hI hX => ?_)
                      refine ev_loc f_X12_gives (nx := 6) rfl rfl rfl rfl ?_
                      refine ev_retK1 f_X12_gives rfl rfl rfl ?_
                      refine ev_retK1 f_X12_taken rfl rfl rfl ?_
                      exact ev_ret f_X12_river rfl rfl rfl ⟨_, _, _, rfl, hI, hX, ⟨_, rfl, (Int.le_trans (by decide : ((-1):Int) ≤ 0) l42), u42, (show ((0 ≤ ar1.toInt ∧ ar1.toInt ≤ (gi 69 10).toInt) → ∀ (b : Nat → Int32) (n : Nat), (n : Int) = ar1.toInt → (∀ j : Nat, j < n → gi 75 j = b j) → t_by b n → (∃ q2 D2, s_rv b n 901 0 s_D0 = s_ok q2 D2 ∧ t_Cb D2 ∧ (gi36 70 1).toInt = D2 1 ∧ t_MD 0 g44 D2 ∧ (g44 69 16).toInt = 0 ∧ (g44 69 17).toInt = -1) ∨ (∃ p x D2, x ≠ 0 ∧ s_rv b n 901 0 s_D0 = s_bad b n p x D2 ∧ (gi36 70 1).toInt = -1 ∧ (g44 69 16).toInt = s_fk b n p x ∧ (g44 69 17).toInt = (s_F b n p : Nat) ∧ ∀ j : Nat, j < 350 → g44 70 j = gi 70 j)) ∧ (¬ (0 ≤ ar1.toInt ∧ ar1.toInt ≤ (gi 69 10).toInt) → (gi36 70 1).toInt = -1 ∧ ∀ j : Nat, j < 350 → g44 70 j = gi 70 j) from ⟨fun _ b n hn hb hy => (by
                                                            obtain ⟨q2, D2, ⟨h1, h2⟩, h3, h4, h5⟩ := j36_0 b n hn hb hy
                                                            have h6 := t_MD_cp (g1 := gi36) h3 h2 (fun j hj => h5 j (by have : (350 : Int32).toInt = 350 := rfl; omega) hj)
                                                            have e70 : ∀ j, g44 70 j = gi36 70 j := fun j => by rw [e44, x_up2_ne (by decide), e43, x_up2_ne (by decide)]
                                                            refine Or.inl ⟨q2, D2, h1, h2, ?_, h6.eq e70, ?_, ?_⟩
                                                            · exact h6.1.1.2.1
                                                            · rw [e44, x_up2_off (Or.inr (by decide)), e43, x_up2_at, ← c36_2]; exact h4.1
                                                            · rw [e44, x_up2_off (Or.inr (by decide)), e43, x_up2_off (Or.inr (by decide))]; exact h4.2), fun hh => absurd (by omega) hh⟩)⟩⟩
                    · have u45 : y36_3.toInt ≤ 17 := t_ltu (t_nle h40) (by decide : (18:Int32).toInt ≤ (18:Int)) rfl
                      refine ev_loc f_X12_river (nx := 125) rfl rfl rfl rfl ?_
                      refine ev_getR f_X12_river (nx := 128) rfl (hI.wf.s rfl) rfl rfl (hI.wf.r rfl) rfl rfl ?_
                      refine ev_loc f_X12_river (nx := 129) rfl rfl rfl rfl ?_
                      refine ev_loc f_X12_river (nx := 130) rfl rfl rfl rfl ?_
                      refine ev_getR f_X12_river (nx := 133) rfl (hI.wf.s rfl) rfl rfl (hI.wf.r rfl) rfl rfl ?_
                      refine ev_bp f_X12_river (nx := 135) (v := 72) rfl (by decide) rfl ?_
                      refine ev_loc f_X12_river (nx := 136) rfl rfl rfl rfl ?_
                      refine ev_addK f_X12_river (nx := 137) (c := 72) (l := 72) (u := 89) rfl (by decide) l36_3 u45 rfl rfl (by decide) (by decide) rfl (fun z46 e46 l46 u46 => ?_)
                      refine ev_laldT f_X12_river (nx := 138) rfl (hI.wf.s rfl) l46 (by decide) u46 (by decide) rfl (fun w47 e47 => ?_)
                      refine ev_lastT f_X12_river (nx := 139) rfl (hI.wf.s rfl) l36_3 (by decide) u45 (by decide) rfl (hX.upL (t_inR (p := 0) (m := 17) rfl l36_3 (by decide) u45 (by decide) (by decide))) (fun g48 e48 hX => ?_)
                      refine ev_incR f_X12_river (nx := 142) (c := 1) (l := 1) (u := 18) rfl rfl (by decide) (by decide) l36_3 u45 rfl rfl (by decide) (by decide) rfl (fun z49 e49 l49 u49 => ?_)
                      refine ev_jmp f_X12_river (nx := 118) rfl rfl rfl ?_
                      refine ev_sub (lo := [(3, .int z49), (2, .int y21_2), (0, .ref 69), (1, .int ar1)]) rfl (t_sc rfl (t_sc rfl (t_sc rfl (t_sc rfl t_sn)))) ?_
                      exact ih36 _ (by omega) gi36 g48 gr36 (z49) hI hX  (Int.le_trans (by decide : (0:Int) ≤ 1) l49) u49 c36_0 c36_1 c36_2 (fun b n hn hb hy => j36_0 b n hn hb hy) rfl
                  refine ev_sub (lo := [(3, .int 0), (2, .int y21_2), (0, .ref 69), (1, .int ar1)]) rfl (t_sc rfl (t_sc rfl (t_sc rfl (t_sc rfl t_sn)))) ?_
                  exact L36 _ gi30 gl30 gr30 (0) hI hX  (by decide : (0:Int) ≤ (0:Int32).toInt) (Int.le_trans (by decide : (0:Int32).toInt ≤ (0:Int)) (by decide : (0:Int) ≤ 18)) c30_0 c30_1 c30_2 (fun b n hn hb hy => t_MV_k (j30_0 b n hn hb hy) (by omega)) rfl
                · have u50 : y30_3.toInt ≤ 349 := t_ltu (t_nle h34) (by decide : (350:Int32).toInt ≤ (350:Int)) rfl
                  refine ev_loc f_X12_river (nx := 95) rfl rfl rfl rfl ?_
                  refine ev_getR f_X12_river (nx := 98) rfl (hI.wf.s rfl) rfl rfl (hI.wf.r rfl) rfl rfl ?_
                  refine ev_loc f_X12_river (nx := 99) rfl rfl rfl rfl ?_
                  refine ev_loc f_X12_river (nx := 100) rfl rfl rfl rfl ?_
                  refine ev_getR f_X12_river (nx := 103) rfl (hI.wf.s rfl) rfl rfl (hI.wf.r rfl) rfl rfl ?_
                  refine ev_sp f_X12_river (nx := 106) (v := 1400) rfl (by decide) rfl ?_
                  refine ev_loc f_X12_river (nx := 107) rfl rfl rfl rfl ?_
                  refine ev_addK f_X12_river (nx := 108) (c := 1400) (l := 1400) (u := 1749) rfl (by decide) l30_3 u50 rfl rfl (by decide) (by decide) rfl (fun z51 e51 l51 u51 => ?_)
                  refine ev_ialdT f_X12_river (nx := 109) rfl (hI.wf.s rfl) l51 (by decide) u51 (by decide) rfl (fun w52 e52 => ?_)
                  refine ev_iastT f_X12_river (nx := 110) rfl (hI.wf.s rfl) l30_3 (by decide) u50 (by decide) rfl (hI.astS (a := 4) (b := 0) (k := y30_3.toInt.toNat) e52 (by omega) (by omega) (by omega) (by omega) (by omega)) (hX.upI (t_inR (p := 0) (m := 349) rfl l30_3 (by decide) u50 (by decide) (by decide))) (fun g53 e53 hI hX => ?_)
                  refine ev_incR f_X12_river (nx := 113) (c := 1) (l := 1) (u := 350) rfl rfl (by decide) (by decide) l30_3 u50 rfl rfl (by decide) (by decide) rfl (fun z54 e54 l54 u54 => ?_)
                  refine ev_jmp f_X12_river (nx := 87) rfl rfl rfl ?_
                  refine ev_sub (lo := [(3, .int z54), (2, .int y21_2), (0, .ref 69), (1, .int ar1)]) rfl (t_sc rfl (t_sc rfl (t_sc rfl (t_sc rfl t_sn)))) ?_
                  exact ih30 _ (by omega) g53 gl30 gr30 (z54) hI hX  (Int.le_trans (by decide : (0:Int) ≤ 1) l54) u54 ((by rw [e53]; exact x_up2_off (Or.inl (by decide)) : g53 69 10 = gi30 69 10).trans c30_0) ((by rw [e53]; exact x_up2_off (Or.inl (by decide)) : g53 69 16 = gi30 69 16).trans c30_1) ((by rw [e53]; exact x_up2_off (Or.inl (by decide)) : g53 69 18 = gi30 69 18).trans c30_2) (fun b n hn hb hy => t_MV_s (i := y30_3.toNatClampNeg) (i2 := z51.toNatClampNeg) (j30_0 b n hn hb hy) (by omega) (by omega) (t_clamp (by omega)) ((t_clamp (i := z51) (by omega)).trans (by omega)) e52 (by omega) e53) rfl
              refine ev_sub (lo := [(3, .int 0), (2, .int y21_2), (0, .ref 69), (1, .int ar1)]) rfl (t_sc rfl (t_sc rfl (t_sc rfl (t_sc rfl t_sn)))) ?_
              exact L30 _ gi21 gl21 gr21 (0) hI hX  (by decide : (0:Int) ≤ (0:Int32).toInt) (Int.le_trans (by decide : (0:Int32).toInt ≤ (0:Int)) (by decide : (0:Int) ≤ 350)) c21_0 c21_1 rfl (fun b n hn hb hy => t_MV_0 (j21_0.1 b n hn hb hy) (by omega) rfl (by omega)) rfl
            · have r55 : (gi21 69 18).toInt ≠ 0 := fun e => h27 (Int32.toInt_inj.mp (e.trans (by decide : (0:Int) = (0 : Int32).toInt)))
              refine ev_loc f_X12_river (nx := 146) rfl rfl rfl rfl ?_
              refine ev_loc f_X12_river (nx := 147) rfl rfl rfl rfl ?_
              refine ev_getR f_X12_river (nx := 150) rfl (hI.wf.s rfl) rfl rfl (hI.wf.r rfl) rfl rfl ?_
              refine ev_ic f_X12_river (nx := 151) (v := 1) rfl (by decide) rfl ?_
              obtain ⟨l56, u56⟩ := hI.ab (by decide +kernel : t_abr 70 1 1 0 6 = true) (Nat.le_refl _) (Nat.le_refl _)
              refine ev_ialdv f_X12_river (nx := 152) (w := (gi21 70 1)) rfl (hI.wf.s rfl) (by decide) (rfl : (1 : Int32).toNatClampNeg = 1) (by decide) rfl rfl ?_
              refine ev_inV2 f_X12_river (nx := 155) (lo2 := [(0, .ref 69), (1, .int (gi21 70 1))]) rfl rfl rfl rfl f_X12_taken (hI.wf.s rfl) rfl rfl rfl rfl rfl ?_
              refine ev_loc f_X12_taken (nx := 1) rfl rfl rfl rfl ?_
              refine ev_loc f_X12_taken (nx := 2) rfl rfl rfl rfl ?_
              refine ev_gvI f_X12_taken (nx := 5) (w := (gi21 69 18)) rfl (hI.wf.s rfl) rfl rfl rfl rfl ?_
              refine ev_putIT f_X12_taken (nx := 8) rfl (hI.wf.s rfl) rfl rfl rfl (hI.put0 (hI.wf.s rfl) rfl rfl) (hX.upI rfl) (fun g57 e57 hI hX => ?_)
              refine ev_loc f_X12_taken (nx := 9) rfl rfl rfl rfl ?_
              refine ev_gvI f_X12_taken (nx := 12) (w := (gi21 69 18)) rfl (hI.wf.s rfl) rfl rfl ((by rw [e57]; exact x_up2_off (Or.inr (by decide)) : g57 69 18 = gi21 69 18).trans rfl) rfl ?_
              refine ev_if f_X12_taken (t1 := 24) (t2 := 15) rfl rfl rfl (fun h58 => ?_) (fun h58 => ?_)
              · have u59 : (gi21 69 18).toInt ≤ 0 := t_leu h58 (by decide : (0:Int32).toInt ≤ (0:Int))
                refine ev_loc f_X12_taken (nx := 25) rfl rfl rfl rfl ?_
                refine ev_loc f_X12_taken (nx := 26) rfl rfl rfl rfl ?_
                refine ev_inV2 f_X12_taken (nx := 29) (lo2 := [(0, .ref 69), (1, .int (gi21 70 1))]) rfl rfl rfl rfl f_X12_gives (hI.wf.s rfl) rfl rfl rfl rfl rfl ?_
                refine ev_loc f_X12_gives (nx := 1) rfl rfl rfl rfl ?_
                refine ev_ic f_X12_gives (nx := 2) (v := 0) rfl (by decide) rfl ?_
                refine ev_putIT f_X12_gives (nx := 5) rfl (hI.wf.s rfl) rfl rfl rfl (hI.put0 (hI.wf.s rfl) rfl rfl) (hX.upI rfl) (fun g60 e60 hI hX => ?_)
                refine ev_loc f_X12_gives (nx := 6) rfl rfl rfl rfl ?_
                refine ev_retK1 f_X12_gives rfl rfl rfl ?_
                refine ev_retK1 f_X12_taken rfl rfl rfl ?_
                exact ev_ret f_X12_river rfl rfl rfl ⟨_, _, _, rfl, hI, hX, ⟨_, rfl, (Int.le_trans (by decide : ((-1):Int) ≤ 0) l56), u56, (show ((0 ≤ ar1.toInt ∧ ar1.toInt ≤ (gi 69 10).toInt) → ∀ (b : Nat → Int32) (n : Nat), (n : Int) = ar1.toInt → (∀ j : Nat, j < n → gi 75 j = b j) → t_by b n → (∃ q2 D2, s_rv b n 901 0 s_D0 = s_ok q2 D2 ∧ t_Cb D2 ∧ (gi21 70 1).toInt = D2 1 ∧ t_MD 0 g60 D2 ∧ (g60 69 16).toInt = 0 ∧ (g60 69 17).toInt = -1) ∨ (∃ p x D2, x ≠ 0 ∧ s_rv b n 901 0 s_D0 = s_bad b n p x D2 ∧ (gi21 70 1).toInt = -1 ∧ (g60 69 16).toInt = s_fk b n p x ∧ (g60 69 17).toInt = (s_F b n p : Nat) ∧ ∀ j : Nat, j < 350 → g60 70 j = gi 70 j)) ∧ (¬ (0 ≤ ar1.toInt ∧ ar1.toInt ≤ (gi 69 10).toInt) → (gi21 70 1).toInt = -1 ∧ ∀ j : Nat, j < 350 → g60 70 j = gi 70 j) from ⟨fun _ b n hn hb hy => (by
                                                            have h1 := j21_0.1 b n hn hb hy
                                                            rcases h1 with ⟨h0, q, D, f, h2, h3, h4⟩ | ⟨h0, p, x, D, hx, h3, h4⟩
                                                            · exact absurd h2.2.2.1 (by omega)
                                                            · have hp : 0 ≤ s_fk b n p x := by
                                                                have hp := s_pos_rv (b := b) (n := n) 901 0 s_D0
                                                                rw [h3] at hp; exact hp
                                                              have h5 := h4.1
                                                              omega), fun hh => absurd (by omega) hh⟩)⟩⟩
              · have l61 : 1 ≤ (gi21 69 18).toInt := t_ltl (t_nle h58) (by decide : (0:Int) ≤ (0:Int32).toInt) rfl
                refine ev_loc f_X12_taken (nx := 16) rfl rfl rfl rfl ?_
                refine ev_bp f_X12_taken (nx := 18) (v := 9) rfl (by decide) rfl ?_
                refine ev_inV2 f_X12_taken (nx := 21) (lo2 := [(0, .ref 69), (1, .int 9)]) rfl rfl rfl rfl f_X12_refuse (hI.wf.s rfl) rfl rfl rfl rfl rfl ?_
                refine ev_loc f_X12_refuse (nx := 1) rfl rfl rfl rfl ?_
                refine ev_loc f_X12_refuse (nx := 2) rfl rfl rfl rfl ?_
                refine ev_putIT f_X12_refuse (nx := 5) rfl (hI.wf.s rfl) rfl rfl rfl (hI.put0 (hI.wf.s rfl) rfl rfl) (hX.upI rfl) (fun g62 e62 hI hX => ?_)
                refine ev_ic f_X12_refuse (nx := 6) (v := -1) rfl (by decide) rfl ?_
                refine ev_retK1 f_X12_refuse rfl rfl rfl ?_
                refine ev_jmp f_X12_taken (nx := 29) rfl rfl rfl ?_
                refine ev_retK1 f_X12_taken rfl rfl rfl ?_
                exact ev_ret f_X12_river rfl rfl rfl ⟨_, _, _, rfl, hI, hX, ⟨_, rfl, (by decide : ((-1):Int) ≤ ((-1):Int32).toInt), (Int.le_trans (by decide : ((-1):Int32).toInt ≤ ((-1):Int)) (by decide : ((-1):Int) ≤ 6)), (show ((0 ≤ ar1.toInt ∧ ar1.toInt ≤ (gi 69 10).toInt) → ∀ (b : Nat → Int32) (n : Nat), (n : Int) = ar1.toInt → (∀ j : Nat, j < n → gi 75 j = b j) → t_by b n → (∃ q2 D2, s_rv b n 901 0 s_D0 = s_ok q2 D2 ∧ t_Cb D2 ∧ ((-1) : Int) = D2 1 ∧ t_MD 0 g62 D2 ∧ (g62 69 16).toInt = 0 ∧ (g62 69 17).toInt = -1) ∨ (∃ p x D2, x ≠ 0 ∧ s_rv b n 901 0 s_D0 = s_bad b n p x D2 ∧ ((-1) : Int) = -1 ∧ (g62 69 16).toInt = s_fk b n p x ∧ (g62 69 17).toInt = (s_F b n p : Nat) ∧ ∀ j : Nat, j < 350 → g62 70 j = gi 70 j)) ∧ (¬ (0 ≤ ar1.toInt ∧ ar1.toInt ≤ (gi 69 10).toInt) → ((-1) : Int) = -1 ∧ ∀ j : Nat, j < 350 → g62 70 j = gi 70 j) from ⟨fun _ b n hn hb hy => (by
                                                            have h1 := j21_0.1 b n hn hb hy
                                                            rcases h1 with ⟨h0, q, D, f, h2, h3, h4⟩ | ⟨h0, p, x, D, hx, h3, h4⟩
                                                            · exact absurd h2.2.2.1 (by omega)
                                                            · refine Or.inr ⟨p, x, D, hx, h3, rfl, ?_, ?_, fun j hj => ?_⟩
                                                              · rw [e62, x_up2_off (Or.inr (by decide)), e57, x_up2_at]; exact h4.1
                                                              · rw [e62, x_up2_off (Or.inr (by decide)), e57, x_up2_off (Or.inr (by decide))]; exact h4.2
                                                              · rw [e62, x_up2_ne (by decide), e57, x_up2_ne (by decide)]; exact j21_0.2 j (by omega)), fun hh => absurd (by omega) hh⟩)⟩⟩
          · have r63 : y21_2.toInt ≠ 0 := fun e => h25 (Int32.toInt_inj.mp (e.trans (by decide : (0:Int) = (0 : Int32).toInt)))
            have l64 : 1 ≤ y21_2.toInt := t_nel h25 l21_2 rfl rfl
            refine ev_loc f_X12_river (nx := 64) rfl rfl rfl rfl ?_
            refine ev_gvI f_X12_river (nx := 67) (w := (gi21 69 12)) rfl (hI.wf.s rfl) rfl rfl rfl rfl ?_
            refine ev_if f_X12_river (t1 := 78) (t2 := 70) rfl rfl rfl (fun h65 => ?_) (fun h65 => ?_)
            · have u66 : (gi21 69 12).toInt ≤ 0 := t_equ h65 (by decide : (0:Int32).toInt ≤ (0:Int))
              refine ev_loc f_X12_river (nx := 79) rfl rfl rfl rfl ?_
              refine ev_getI f_X12_river (nx := 82) rfl (hI.wf.s rfl) rfl rfl rfl ?_
              refine ev_if f_X12_river (t1 := 85) (t2 := 145) rfl rfl rfl (fun h67 => ?_) (fun h67 => ?_)
              · have u68 : (gi21 69 18).toInt ≤ 0 := t_equ h67 (by decide : (0:Int32).toInt ≤ (0:Int))
                have l69 : 0 ≤ (gi21 69 18).toInt := t_eql h67 (by decide : (0:Int) ≤ (0:Int32).toInt)
                refine ev_ic f_X12_river (nx := 86) (v := 0) rfl (by decide) rfl ?_
                refine ev_loc f_X12_river (nx := 87) (lo' := [(3, .int 0), (2, .int y21_2), (0, .ref 69), (1, .int ar1)]) rfl rfl rfl rfl ?_
                have L70 : ∀ (m70 : Nat) (gi70 : Nat → Nat → Int32) (gl70 : Nat → Nat → Int64) (gr70 : Nat → Nat → Value) (y70_3 : Int32), t_I sh gi70 gr70 → t_X wl_n_river sh gi gl gr gi70 gl70 gr70 → 0 ≤ y70_3.toInt → y70_3.toInt ≤ 350 → gi70 69 10 = (gi6 69 10) → gi70 69 16 = (gi 69 16) → gi70 69 18 = (gi21 69 18) → (∀ (b : Nat → Int32) (n : Nat), (n : Int) = ar1.toInt → (∀ j : Nat, j < n → gi 75 j = b j) → t_by b n → t_MV b n y70_3 gi70) → (350 - y70_3.toInt).toNat = m70 → x_Ev X (d + 10) n_X12_river 87 [(3, .int y70_3), (2, .int y21_2), (0, .ref 69), (1, .int ar1)] [] (sh, gi70, gl70, gr70) (t_PI wl_n_river sh gi gl gr (-1) 6 (Q_n_river gi gl gr ar1)) := by
                  intro m70
                  induction m70 using Nat.strongRecOn with
                  | _ m70 ih70 =>
                  intro gi70 gl70 gr70 y70_3 hI hX l70_3 u70_3 c70_0 c70_1 c70_2 j70_0 hm70
                  obtain ⟨l71, u71⟩ := hI.b (hI.wf.s (k := 69) rfl) (t_bdK rfl : t_bd 11 12 = some (0, 4))
                  obtain ⟨l72, u72⟩ := hI.b (hI.wf.s (k := 69) rfl) (t_bdK rfl : t_bd 11 14 = some (0, 900))
                  refine ev_loc f_X12_river (nx := 88) rfl rfl rfl rfl ?_
                  refine ev_sp f_X12_river (nx := 91) (v := 350) rfl (by decide) rfl ?_
                  refine ev_if f_X12_river (t1 := 116) (t2 := 94) rfl rfl rfl (fun h74 => ?_) (fun h74 => ?_)
                  · have l75 : 350 ≤ y70_3.toInt := t_lel h74 (by decide : (350:Int) ≤ (350:Int32).toInt)
                    refine ev_ic f_X12_river (nx := 117) (v := 0) rfl (by decide) rfl ?_
                    refine ev_loc f_X12_river (nx := 118) (lo' := [(3, .int 0), (2, .int y21_2), (0, .ref 69), (1, .int ar1)]) rfl rfl rfl rfl ?_
                    have L76 : ∀ (m76 : Nat) (gi76 : Nat → Nat → Int32) (gl76 : Nat → Nat → Int64) (gr76 : Nat → Nat → Value) (y76_3 : Int32), t_I sh gi76 gr76 → t_X wl_n_river sh gi gl gr gi76 gl76 gr76 → 0 ≤ y76_3.toInt → y76_3.toInt ≤ 18 → gi76 69 10 = (gi6 69 10) → gi76 69 16 = (gi 69 16) → gi76 69 18 = (gi21 69 18) → (∀ (b : Nat → Int32) (n : Nat), (n : Int) = ar1.toInt → (∀ j : Nat, j < n → gi 75 j = b j) → t_by b n → t_MV b n (350 : Int32) gi76) → (18 - y76_3.toInt).toNat = m76 → x_Ev X (d + 10) n_X12_river 118 [(3, .int y76_3), (2, .int y21_2), (0, .ref 69), (1, .int ar1)] [] (sh, gi76, gl76, gr76) (t_PI wl_n_river sh gi gl gr (-1) 6 (Q_n_river gi gl gr ar1)) := by
                      intro m76
                      induction m76 using Nat.strongRecOn with
                      | _ m76 ih76 =>
                      intro gi76 gl76 gr76 y76_3 hI hX l76_3 u76_3 c76_0 c76_1 c76_2 j76_0 hm76
                      obtain ⟨l77, u77⟩ := hI.b (hI.wf.s (k := 69) rfl) (t_bdK rfl : t_bd 11 12 = some (0, 4))
                      obtain ⟨l78, u78⟩ := hI.b (hI.wf.s (k := 69) rfl) (t_bdK rfl : t_bd 11 14 = some (0, 900))
                      refine ev_loc f_X12_river (nx := 119) rfl rfl rfl rfl ?_
                      refine ev_bp f_X12_river (nx := 121) (v := 18) rfl (by decide) rfl ?_
                      refine ev_if f_X12_river (t1 := 145) (t2 := 124) rfl rfl rfl (fun h80 => ?_) (fun h80 => ?_)
                      · have l81 : 18 ≤ y76_3.toInt := t_lel h80 (by decide : (18:Int) ≤ (18:Int32).toInt)
                        refine ev_loc f_X12_river (nx := 146) rfl rfl rfl rfl ?_
                        refine ev_loc f_X12_river (nx := 147) rfl rfl rfl rfl ?_
                        refine ev_getR f_X12_river (nx := 150) rfl (hI.wf.s rfl) rfl rfl (hI.wf.r rfl) rfl rfl ?_
                        refine ev_ic f_X12_river (nx := 151) (v := 1) rfl (by decide) rfl ?_
                        obtain ⟨l82, u82⟩ := hI.ab (by decide +kernel : t_abr 70 1 1 0 6 = true) (Nat.le_refl _) (Nat.le_refl _)
                        refine ev_ialdv f_X12_river (nx := 152) (w := (gi76 70 1)) rfl (hI.wf.s rfl) (by decide) (rfl : (1 : Int32).toNatClampNeg = 1) (by decide) rfl rfl ?_
                        refine ev_inV2 f_X12_river (nx := 155) (lo2 := [(0, .ref 69), (1, .int (gi76 70 1))]) rfl rfl rfl rfl f_X12_taken (hI.wf.s rfl) rfl rfl rfl rfl rfl ?_
                        refine ev_loc f_X12_taken (nx := 1) rfl rfl rfl rfl ?_
                        refine ev_loc f_X12_taken (nx := 2) rfl rfl rfl rfl ?_
                        refine ev_gvI f_X12_taken (nx := 5) (w := (gi21 69 18)) rfl (hI.wf.s rfl) rfl rfl c76_2 rfl ?_
                        refine ev_putIT f_X12_taken (nx := 8) rfl (hI.wf.s rfl) rfl rfl rfl (hI.put0 (hI.wf.s rfl) rfl rfl) (hX.upI rfl) (fun g83 e83 hI hX => ?_)
                        refine ev_loc f_X12_taken (nx := 9) rfl rfl rfl rfl ?_
                        refine ev_gvI f_X12_taken (nx := 12) (w := (gi21 69 18)) rfl (hI.wf.s rfl) rfl rfl ((by rw [e83]; exact x_up2_off (Or.inr (by decide)) : g83 69 18 = gi76 69 18).trans c76_2) rfl ?_
                        refine ev_t f_X12_taken (t1 := 24) (t2 := 15) rfl rfl rfl (t_leT u68 (by decide : (0:Int) ≤ (0:Int32).toInt) (by decide)) ?_
                        refine ev_loc f_X12_taken (nx := 25) rfl rfl rfl rfl ?_
                        refine ev_loc f_X12_taken (nx := 26) rfl rfl rfl rfl ?_
                        refine ev_inV2 f_X12_taken (nx := 29) (lo2 := [(0, .ref 69), (1, .int (gi76 70 1))]) rfl rfl rfl rfl f_X12_gives (hI.wf.s rfl) rfl rfl rfl rfl rfl ?_
                        refine ev_loc f_X12_gives (nx := 1) rfl rfl rfl rfl ?_
                        refine ev_ic f_X12_gives (nx := 2) (v := 0) rfl (by decide) rfl ?_
                        refine ev_putIT f_X12_gives (nx := 5) rfl (hI.wf.s rfl) rfl rfl rfl (hI.put0 (hI.wf.s rfl) rfl rfl) (hX.upI rfl) (fun g84 e84 hI hX => ?_)
                        refine ev_loc f_X12_gives (nx := 6) rfl rfl rfl rfl ?_
                        refine ev_retK1 f_X12_gives rfl rfl rfl ?_
                        refine ev_retK1 f_X12_taken rfl rfl rfl ?_
                        exact ev_ret f_X12_river rfl rfl rfl ⟨_, _, _, rfl, hI, hX, ⟨_, rfl, (Int.le_trans (by decide : ((-1):Int) ≤ 0) l82), u82, (show ((0 ≤ ar1.toInt ∧ ar1.toInt ≤ (gi 69 10).toInt) → ∀ (b : Nat → Int32) (n : Nat), (n : Int) = ar1.toInt → (∀ j : Nat, j < n → gi 75 j = b j) → t_by b n → (∃ q2 D2, s_rv b n 901 0 s_D0 = s_ok q2 D2 ∧ t_Cb D2 ∧ (gi76 70 1).toInt = D2 1 ∧ t_MD 0 g84 D2 ∧ (g84 69 16).toInt = 0 ∧ (g84 69 17).toInt = -1) ∨ (∃ p x D2, x ≠ 0 ∧ s_rv b n 901 0 s_D0 = s_bad b n p x D2 ∧ (gi76 70 1).toInt = -1 ∧ (g84 69 16).toInt = s_fk b n p x ∧ (g84 69 17).toInt = (s_F b n p : Nat) ∧ ∀ j : Nat, j < 350 → g84 70 j = gi 70 j)) ∧ (¬ (0 ≤ ar1.toInt ∧ ar1.toInt ≤ (gi 69 10).toInt) → (gi76 70 1).toInt = -1 ∧ ∀ j : Nat, j < 350 → g84 70 j = gi 70 j) from ⟨fun _ b n hn hb hy => (by
                                                            obtain ⟨q2, D2, ⟨h1, h2⟩, h3, h4, h5⟩ := j76_0 b n hn hb hy
                                                            have h6 := t_MD_cp (g1 := gi76) h3 h2 (fun j hj => h5 j (by have : (350 : Int32).toInt = 350 := rfl; omega) hj)
                                                            have e70 : ∀ j, g84 70 j = gi76 70 j := fun j => by rw [e84, x_up2_ne (by decide), e83, x_up2_ne (by decide)]
                                                            refine Or.inl ⟨q2, D2, h1, h2, ?_, h6.eq e70, ?_, ?_⟩
                                                            · exact h6.1.1.2.1
                                                            · rw [e84, x_up2_off (Or.inr (by decide)), e83, x_up2_at, ← c76_2]; exact h4.1
                                                            · rw [e84, x_up2_off (Or.inr (by decide)), e83, x_up2_off (Or.inr (by decide))]; exact h4.2), fun hh => absurd (by omega) hh⟩)⟩⟩
                      · have u85 : y76_3.toInt ≤ 17 := t_ltu (t_nle h80) (by decide : (18:Int32).toInt ≤ (18:Int)) rfl
                        refine ev_loc f_X12_river (nx := 125) rfl rfl rfl rfl ?_
                        refine ev_getR f_X12_river (nx := 128) rfl (hI.wf.s rfl) rfl rfl (hI.wf.r rfl) rfl rfl ?_
                        refine ev_loc f_X12_river (nx := 129) rfl rfl rfl rfl ?_
                        refine ev_loc f_X12_river (nx := 130) rfl rfl rfl rfl ?_
                        refine ev_getR f_X12_river (nx := 133) rfl (hI.wf.s rfl) rfl rfl (hI.wf.r rfl) rfl rfl ?_
                        refine ev_bp f_X12_river (nx := 135) (v := 72) rfl (by decide) rfl ?_
                        refine ev_loc f_X12_river (nx := 136) rfl rfl rfl rfl ?_
                        refine ev_addK f_X12_river (nx := 137) (c := 72) (l := 72) (u := 89) rfl (by decide) l76_3 u85 rfl rfl (by decide) (by decide) rfl (fun z86 e86 l86 u86 => ?_)
                        refine ev_laldT f_X12_river (nx := 138) rfl (hI.wf.s rfl) l86 (by decide) u86 (by decide) rfl (fun w87 e87 => ?_)
                        refine ev_lastT f_X12_river (nx := 139) rfl (hI.wf.s rfl) l76_3 (by decide) u85 (by decide) rfl (hX.upL (t_inR (p := 0) (m := 17) rfl l76_3 (by decide) u85 (by decide) (by decide))) (fun g88 e88 hX => ?_)
                        refine ev_incR f_X12_river (nx := 142) (c := 1) (l := 1) (u := 18) rfl rfl (by decide) (by decide) l76_3 u85 rfl rfl (by decide) (by decide) rfl (fun z89 e89 l89 u89 => ?_)
                        refine ev_jmp f_X12_river (nx := 118) rfl rfl rfl ?_
                        refine ev_sub (lo := [(3, .int z89), (2, .int y21_2), (0, .ref 69), (1, .int ar1)]) rfl (t_sc rfl (t_sc rfl (t_sc rfl (t_sc rfl t_sn)))) ?_
                        exact ih76 _ (by omega) gi76 g88 gr76 (z89) hI hX  (Int.le_trans (by decide : (0:Int) ≤ 1) l89) u89 c76_0 c76_1 c76_2 (fun b n hn hb hy => j76_0 b n hn hb hy) rfl
                    refine ev_sub (lo := [(3, .int 0), (2, .int y21_2), (0, .ref 69), (1, .int ar1)]) rfl (t_sc rfl (t_sc rfl (t_sc rfl (t_sc rfl t_sn)))) ?_
                    exact L76 _ gi70 gl70 gr70 (0) hI hX  (by decide : (0:Int) ≤ (0:Int32).toInt) (Int.le_trans (by decide : (0:Int32).toInt ≤ (0:Int)) (by decide : (0:Int) ≤ 18)) c70_0 c70_1 c70_2 (fun b n hn hb hy => t_MV_k (j70_0 b n hn hb hy) (by omega)) rfl
                  · have u90 : y70_3.toInt ≤ 349 := t_ltu (t_nle h74) (by decide : (350:Int32).toInt ≤ (350:Int)) rfl
                    refine ev_loc f_X12_river (nx := 95) rfl rfl rfl rfl ?_
                    refine ev_getR f_X12_river (nx := 98) rfl (hI.wf.s rfl) rfl rfl (hI.wf.r rfl) rfl rfl ?_
                    refine ev_loc f_X12_river (nx := 99) rfl rfl rfl rfl ?_
                    refine ev_loc f_X12_river (nx := 100) rfl rfl rfl rfl ?_
                    refine ev_getR f_X12_river (nx := 103) rfl (hI.wf.s rfl) rfl rfl (hI.wf.r rfl) rfl rfl ?_
                    refine ev_sp f_X12_river (nx := 106) (v := 1400) rfl (by decide) rfl ?_
                    refine ev_loc f_X12_river (nx := 107) rfl rfl rfl rfl ?_
                    refine ev_addK f_X12_river (nx := 108) (c := 1400) (l := 1400) (u := 1749) rfl (by decide) l70_3 u90 rfl rfl (by decide) (by decide) rfl (fun z91 e91 l91 u91 => ?_)
                    refine ev_ialdT f_X12_river (nx := 109) rfl (hI.wf.s rfl) l91 (by decide) u91 (by decide) rfl (fun w92 e92 => ?_)
                    refine ev_iastT f_X12_river (nx := 110) rfl (hI.wf.s rfl) l70_3 (by decide) u90 (by decide) rfl (hI.astS (a := 4) (b := 0) (k := y70_3.toInt.toNat) e92 (by omega) (by omega) (by omega) (by omega) (by omega)) (hX.upI (t_inR (p := 0) (m := 349) rfl l70_3 (by decide) u90 (by decide) (by decide))) (fun g93 e93 hI hX => ?_)
                    refine ev_incR f_X12_river (nx := 113) (c := 1) (l := 1) (u := 350) rfl rfl (by decide) (by decide) l70_3 u90 rfl rfl (by decide) (by decide) rfl (fun z94 e94 l94 u94 => ?_)
                    refine ev_jmp f_X12_river (nx := 87) rfl rfl rfl ?_
                    refine ev_sub (lo := [(3, .int z94), (2, .int y21_2), (0, .ref 69), (1, .int ar1)]) rfl (t_sc rfl (t_sc rfl (t_sc rfl (t_sc rfl t_sn)))) ?_
                    exact ih70 _ (by omega) g93 gl70 gr70 (z94) hI hX  (Int.le_trans (by decide : (0:Int) ≤ 1) l94) u94 ((by rw [e93]; exact x_up2_off (Or.inl (by decide)) : g93 69 10 = gi70 69 10).trans c70_0) ((by rw [e93]; exact x_up2_off (Or.inl (by decide)) : g93 69 16 = gi70 69 16).trans c70_1) ((by rw [e93]; exact x_up2_off (Or.inl (by decide)) : g93 69 18 = gi70 69 18).trans c70_2) (fun b n hn hb hy => t_MV_s (i := y70_3.toNatClampNeg) (i2 := z91.toNatClampNeg) (j70_0 b n hn hb hy) (by omega) (by omega) (t_clamp (by omega)) ((t_clamp (i := z91) (by omega)).trans (by omega)) e92 (by omega) e93) rfl
                refine ev_sub (lo := [(3, .int 0), (2, .int y21_2), (0, .ref 69), (1, .int ar1)]) rfl (t_sc rfl (t_sc rfl (t_sc rfl (t_sc rfl t_sn)))) ?_
                exact L70 _ gi21 gl21 gr21 (0) hI hX  (by decide : (0:Int) ≤ (0:Int32).toInt) (Int.le_trans (by decide : (0:Int32).toInt ≤ (0:Int)) (by decide : (0:Int) ≤ 350)) c21_0 c21_1 rfl (fun b n hn hb hy => t_MV_0 (j21_0.1 b n hn hb hy) (by omega) rfl (by omega)) rfl
              · have r95 : (gi21 69 18).toInt ≠ 0 := fun e => h67 (Int32.toInt_inj.mp (e.trans (by decide : (0:Int) = (0 : Int32).toInt)))
                refine ev_loc f_X12_river (nx := 146) rfl rfl rfl rfl ?_
                refine ev_loc f_X12_river (nx := 147) rfl rfl rfl rfl ?_
                refine ev_getR f_X12_river (nx := 150) rfl (hI.wf.s rfl) rfl rfl (hI.wf.r rfl) rfl rfl ?_
                refine ev_ic f_X12_river (nx := 151) (v := 1) rfl (by decide) rfl ?_
                obtain ⟨l96, u96⟩ := hI.ab (by decide +kernel : t_abr 70 1 1 0 6 = true) (Nat.le_refl _) (Nat.le_refl _)
                refine ev_ialdv f_X12_river (nx := 152) (w := (gi21 70 1)) rfl (hI.wf.s rfl) (by decide) (rfl : (1 : Int32).toNatClampNeg = 1) (by decide) rfl rfl ?_
                refine ev_inV2 f_X12_river (nx := 155) (lo2 := [(0, .ref 69), (1, .int (gi21 70 1))]) rfl rfl rfl rfl f_X12_taken (hI.wf.s rfl) rfl rfl rfl rfl rfl ?_
                refine ev_loc f_X12_taken (nx := 1) rfl rfl rfl rfl ?_
                refine ev_loc f_X12_taken (nx := 2) rfl rfl rfl rfl ?_
                refine ev_gvI f_X12_taken (nx := 5) (w := (gi21 69 18)) rfl (hI.wf.s rfl) rfl rfl rfl rfl ?_
                refine ev_putIT f_X12_taken (nx := 8) rfl (hI.wf.s rfl) rfl rfl rfl (hI.put0 (hI.wf.s rfl) rfl rfl) (hX.upI rfl) (fun g97 e97 hI hX => ?_)
                refine ev_loc f_X12_taken (nx := 9) rfl rfl rfl rfl ?_
                refine ev_gvI f_X12_taken (nx := 12) (w := (gi21 69 18)) rfl (hI.wf.s rfl) rfl rfl ((by rw [e97]; exact x_up2_off (Or.inr (by decide)) : g97 69 18 = gi21 69 18).trans rfl) rfl ?_
                refine ev_if f_X12_taken (t1 := 24) (t2 := 15) rfl rfl rfl (fun h98 => ?_) (fun h98 => ?_)
                · have u99 : (gi21 69 18).toInt ≤ 0 := t_leu h98 (by decide : (0:Int32).toInt ≤ (0:Int))
                  refine ev_loc f_X12_taken (nx := 25) rfl rfl rfl rfl ?_
                  refine ev_loc f_X12_taken (nx := 26) rfl rfl rfl rfl ?_
                  refine ev_inV2 f_X12_taken (nx := 29) (lo2 := [(0, .ref 69), (1, .int (gi21 70 1))]) rfl rfl rfl rfl f_X12_gives (hI.wf.s rfl) rfl rfl rfl rfl rfl ?_
                  refine ev_loc f_X12_gives (nx := 1) rfl rfl rfl rfl ?_
                  refine ev_ic f_X12_gives (nx := 2) (v := 0) rfl (by decide) rfl ?_
                  refine ev_putIT f_X12_gives (nx := 5) rfl (hI.wf.s rfl) rfl rfl rfl (hI.put0 (hI.wf.s rfl) rfl rfl) (hX.upI rfl) (fun g100 e100 hI hX => ?_)
                  refine ev_loc f_X12_gives (nx := 6) rfl rfl rfl rfl ?_
                  refine ev_retK1 f_X12_gives rfl rfl rfl ?_
                  refine ev_retK1 f_X12_taken rfl rfl rfl ?_
                  exact ev_ret f_X12_river rfl rfl rfl ⟨_, _, _, rfl, hI, hX, ⟨_, rfl, (Int.le_trans (by decide : ((-1):Int) ≤ 0) l96), u96, (show ((0 ≤ ar1.toInt ∧ ar1.toInt ≤ (gi 69 10).toInt) → ∀ (b : Nat → Int32) (n : Nat), (n : Int) = ar1.toInt → (∀ j : Nat, j < n → gi 75 j = b j) → t_by b n → (∃ q2 D2, s_rv b n 901 0 s_D0 = s_ok q2 D2 ∧ t_Cb D2 ∧ (gi21 70 1).toInt = D2 1 ∧ t_MD 0 g100 D2 ∧ (g100 69 16).toInt = 0 ∧ (g100 69 17).toInt = -1) ∨ (∃ p x D2, x ≠ 0 ∧ s_rv b n 901 0 s_D0 = s_bad b n p x D2 ∧ (gi21 70 1).toInt = -1 ∧ (g100 69 16).toInt = s_fk b n p x ∧ (g100 69 17).toInt = (s_F b n p : Nat) ∧ ∀ j : Nat, j < 350 → g100 70 j = gi 70 j)) ∧ (¬ (0 ≤ ar1.toInt ∧ ar1.toInt ≤ (gi 69 10).toInt) → (gi21 70 1).toInt = -1 ∧ ∀ j : Nat, j < 350 → g100 70 j = gi 70 j) from ⟨fun _ b n hn hb hy => (by
                                                            have h1 := j21_0.1 b n hn hb hy
                                                            rcases h1 with ⟨h0, q, D, f, h2, h3, h4⟩ | ⟨h0, p, x, D, hx, h3, h4⟩
                                                            · exact absurd h2.2.2.1 (by omega)
                                                            · have hp : 0 ≤ s_fk b n p x := by
                                                                have hp := s_pos_rv (b := b) (n := n) 901 0 s_D0
                                                                rw [h3] at hp; exact hp
                                                              have h5 := h4.1
                                                              omega), fun hh => absurd (by omega) hh⟩)⟩⟩
                · have l101 : 1 ≤ (gi21 69 18).toInt := t_ltl (t_nle h98) (by decide : (0:Int) ≤ (0:Int32).toInt) rfl
                  refine ev_loc f_X12_taken (nx := 16) rfl rfl rfl rfl ?_
                  refine ev_bp f_X12_taken (nx := 18) (v := 9) rfl (by decide) rfl ?_
                  refine ev_inV2 f_X12_taken (nx := 21) (lo2 := [(0, .ref 69), (1, .int 9)]) rfl rfl rfl rfl f_X12_refuse (hI.wf.s rfl) rfl rfl rfl rfl rfl ?_
                  refine ev_loc f_X12_refuse (nx := 1) rfl rfl rfl rfl ?_
                  refine ev_loc f_X12_refuse (nx := 2) rfl rfl rfl rfl ?_
                  refine ev_putIT f_X12_refuse (nx := 5) rfl (hI.wf.s rfl) rfl rfl rfl (hI.put0 (hI.wf.s rfl) rfl rfl) (hX.upI rfl) (fun g102 e102 hI hX => ?_)
                  refine ev_ic f_X12_refuse (nx := 6) (v := -1) rfl (by decide) rfl ?_
                  refine ev_retK1 f_X12_refuse rfl rfl rfl ?_
                  refine ev_jmp f_X12_taken (nx := 29) rfl rfl rfl ?_
                  refine ev_retK1 f_X12_taken rfl rfl rfl ?_
                  exact ev_ret f_X12_river rfl rfl rfl ⟨_, _, _, rfl, hI, hX, ⟨_, rfl, (by decide : ((-1):Int) ≤ ((-1):Int32).toInt), (Int.le_trans (by decide : ((-1):Int32).toInt ≤ ((-1):Int)) (by decide : ((-1):Int) ≤ 6)), (show ((0 ≤ ar1.toInt ∧ ar1.toInt ≤ (gi 69 10).toInt) → ∀ (b : Nat → Int32) (n : Nat), (n : Int) = ar1.toInt → (∀ j : Nat, j < n → gi 75 j = b j) → t_by b n → (∃ q2 D2, s_rv b n 901 0 s_D0 = s_ok q2 D2 ∧ t_Cb D2 ∧ ((-1) : Int) = D2 1 ∧ t_MD 0 g102 D2 ∧ (g102 69 16).toInt = 0 ∧ (g102 69 17).toInt = -1) ∨ (∃ p x D2, x ≠ 0 ∧ s_rv b n 901 0 s_D0 = s_bad b n p x D2 ∧ ((-1) : Int) = -1 ∧ (g102 69 16).toInt = s_fk b n p x ∧ (g102 69 17).toInt = (s_F b n p : Nat) ∧ ∀ j : Nat, j < 350 → g102 70 j = gi 70 j)) ∧ (¬ (0 ≤ ar1.toInt ∧ ar1.toInt ≤ (gi 69 10).toInt) → ((-1) : Int) = -1 ∧ ∀ j : Nat, j < 350 → g102 70 j = gi 70 j) from ⟨fun _ b n hn hb hy => (by
                                                            have h1 := j21_0.1 b n hn hb hy
                                                            rcases h1 with ⟨h0, q, D, f, h2, h3, h4⟩ | ⟨h0, p, x, D, hx, h3, h4⟩
                                                            · exact absurd h2.2.2.1 (by omega)
                                                            · refine Or.inr ⟨p, x, D, hx, h3, rfl, ?_, ?_, fun j hj => ?_⟩
                                                              · rw [e102, x_up2_off (Or.inr (by decide)), e97, x_up2_at]; exact h4.1
                                                              · rw [e102, x_up2_off (Or.inr (by decide)), e97, x_up2_off (Or.inr (by decide))]; exact h4.2
                                                              · rw [e102, x_up2_ne (by decide), e97, x_up2_ne (by decide)]; exact j21_0.2 j (by omega)), fun hh => absurd (by omega) hh⟩)⟩⟩
            · have r103 : (gi21 69 12).toInt ≠ 0 := fun e => h65 (Int32.toInt_inj.mp (e.trans (by decide : (0:Int) = (0 : Int32).toInt)))
              have l104 : 1 ≤ (gi21 69 12).toInt := t_nel h65 l22 rfl rfl
              refine ev_loc f_X12_river (nx := 71) rfl rfl rfl rfl ?_
              refine ev_qI f_X12_river (nx := 74) (r := []) rfl rfl rfl rfl rfl rfl rfl (c_n_riverPartB hI ) rfl hX rfl (fun w105 gi105 gl105 gr105 l105 u105 hI hX hC105 q105 => ?_)
              have q105 : ((gi21 69 14).toInt ≤ (gi105 69 14).toInt ∧ (w105.toInt = 1 → (gi105 69 12).toInt ≠ 0 → (gi21 69 14).toInt < (gi105 69 14).toInt) ∧ (1 ≤ (gi21 70 1404).toInt → 1 ≤ (gi105 70 1404).toInt)) ∧ (∀ (b : Nat → Int32) (n q : Nat) (D : s_D), t_MS b n q D gi21 gl21 → (w105.toInt = 1 ∧ ∃ q2 D2, s_semi b n (s_part b n q D) = s_ok q2 D2 ∧ t_MS b n q2 D2 gi105 gl105) ∨ (w105.toInt = 0 ∧ ∃ p x D2, x ≠ 0 ∧ s_semi b n (s_part b n q D) = s_bad b n p x D2 ∧ t_MF gi105 (s_fk b n p x) (s_F b n p))) := q105
              obtain ⟨l106, u106⟩ := hI.b (hI.wf.s (k := 69) rfl) (t_bdK rfl : t_bd 11 12 = some (0, 4))
              obtain ⟨l107, u107⟩ := hI.b (hI.wf.s (k := 69) rfl) (t_bdK rfl : t_bd 11 14 = some (0, 900))
              refine ev_loc f_X12_river (nx := 75) (lo' := [(2, .int w105), (0, .ref 69), (1, .int ar1)]) rfl rfl rfl rfl ?_
              refine ev_jmp f_X12_river (nx := 59) rfl rfl rfl ?_
              refine ev_sub (lo := [(2, .int w105), (0, .ref 69), (1, .int ar1)]) rfl (t_sc rfl (t_sc rfl (t_sc rfl t_sn))) ?_
              exact ih21 _ (by omega) gi105 gl105 gr105 (w105) hI hX  l105 u105 ((hC105.1 69 10 rfl).1.trans c21_0) ((hC105.1 69 16 rfl).1.trans c21_1) ⟨fun b n hn hb hy => t_MU_s (j21_0.1 b n hn hb hy) (by omega) (by omega) (fun q D h => q105.2 b n q D h) q105.1.2.1, fun j hj => ((hC105.1 70 j (t_nG (lo := 0) (hi := 1400) rfl (Nat.zero_le _) hj)).1).trans (j21_0.2 j hj)⟩ rfl
        refine ev_sub (lo := [(2, .int 1), (0, .ref 69), (1, .int ar1)]) rfl (t_sc rfl (t_sc rfl (t_sc rfl t_sn))) ?_
        exact L21 _ g20 gl16 gr16 (1) hI hX  (Int.le_trans (by decide : (0:Int) ≤ 1) (by decide : (1:Int) ≤ (1:Int32).toInt)) (by decide : (1:Int32).toInt ≤ (1:Int)) ((by rw [e20]; exact x_up2_off (Or.inr (by decide)) : g20 69 10 = g19 69 10).trans ((by rw [e19]; exact x_up2_off (Or.inl (by decide)) : g19 69 10 = gi16 69 10).trans c16_0)) ((by rw [e20]; exact x_up2_off (Or.inr (by decide)) : g20 69 16 = g19 69 16).trans ((by rw [e19]; exact x_up2_off (Or.inl (by decide)) : g19 69 16 = gi16 69 16).trans c16_3)) ⟨fun b n hn hb hy => (by
                                                            obtain ⟨h1, h2, h3⟩ := j16_0.1 b n hn hb hy
                                                            have ht := (h1.st e19).eq (g1 := g20) (fun j => by rw [e20, x_up2_ne (by decide)]) (fun j j1 j2 => by rw [e20, x_up2_off (Or.inr (by omega))])
                                                            have hm : t_MS b n 0 s_D0 g20 gl16 := by
                                                              refine t_MS_0 ht (fun j j1 j2 => ?_) ?_ ?_ ?_
                                                              · rw [e20, x_up2_ne (by decide), e19, x_up2_off (Or.inr (show 1400 + j ≠ (1404 : Int32).toNatClampNeg from (by show 1400 + j ≠ 1404; omega)))]; exact h3 j (by omega)
                                                              · rw [e20, x_up2_ne (by decide), e19]; rfl
                                                              · rw [e20, x_up2_at]; rfl
                                                              · unfold t_MF; rw [e20, x_up2_off (Or.inr (by decide)), x_up2_off (Or.inr (by decide)), e19, x_up2_ne (by decide)]; exact h2
                                                            exact Or.inl ⟨by decide, 0, s_D0, 901, hm, rfl, fun _ => by have := (s_E_b (b := b) ht.1.2).1; omega⟩), fun j hj => (by
                                                            rw [e20, x_up2_ne (by decide), e19, x_up2_off (Or.inr (show j ≠ (1404 : Int32).toNatClampNeg from (by show j ≠ 1404; omega)))]; exact j16_0.2 j hj)⟩ rfl
      · have u109 : y16_2.toInt ≤ 349 := t_ltu (t_nle h17) (by decide : (350:Int32).toInt ≤ (350:Int)) rfl
        refine ev_loc f_X12_river (nx := 27) rfl rfl rfl rfl ?_
        refine ev_getR f_X12_river (nx := 30) rfl (hI.wf.s rfl) rfl rfl (hI.wf.r rfl) rfl rfl ?_
        refine ev_sp f_X12_river (nx := 33) (v := 1400) rfl (by decide) rfl ?_
        refine ev_loc f_X12_river (nx := 34) rfl rfl rfl rfl ?_
        refine ev_addK f_X12_river (nx := 35) (c := 1400) (l := 1400) (u := 1749) rfl (by decide) l16_2 u109 rfl rfl (by decide) (by decide) rfl (fun z110 e110 l110 u110 => ?_)
        refine ev_ic f_X12_river (nx := 36) (v := 0) rfl (by decide) rfl ?_
        refine ev_iastT f_X12_river (nx := 37) rfl (hI.wf.s rfl) l110 (by decide) u110 (by decide) rfl (hI.astL (hI.wf.s rfl) (by decide +kernel : t_abw 70 1400 1749 0 0 = true) (t_cl1 l110 (by decide)) (t_cl2 l110 u110 (by decide) (by decide)) (by decide : (0:Int) ≤ (0:Int32).toInt) (by decide : (0:Int32).toInt ≤ (0:Int)) rfl) (hX.upI (t_inR (p := 1400) (m := 1749) rfl l110 (by decide) u110 (by decide) (by decide))) (fun g111 e111 hI hX => ?_)
        refine ev_incR f_X12_river (nx := 40) (c := 1) (l := 1) (u := 350) rfl rfl (by decide) (by decide) l16_2 u109 rfl rfl (by decide) (by decide) rfl (fun z112 e112 l112 u112 => ?_)
        refine ev_jmp f_X12_river (nx := 19) rfl rfl rfl ?_
        refine ev_sub (lo := [(2, .int z112), (0, .ref 69), (1, .int ar1)]) rfl (t_sc rfl (t_sc rfl (t_sc rfl t_sn))) ?_
        exact ih16 _ (by omega) g111 gl16 gr16 (z112) hI hX  (Int.le_trans (by decide : (0:Int) ≤ 1) l112) u112 ((by rw [e111]; exact x_up2_off (Or.inl (by decide)) : g111 69 10 = gi16 69 10).trans c16_0) ((by rw [e111]; exact x_up2_off (Or.inl (by decide)) : g111 69 12 = gi16 69 12).trans c16_1) ((by rw [e111]; exact x_up2_off (Or.inl (by decide)) : g111 69 14 = gi16 69 14).trans c16_2) ((by rw [e111]; exact x_up2_off (Or.inl (by decide)) : g111 69 16 = gi16 69 16).trans c16_3) ((by rw [e111]; exact x_up2_off (Or.inl (by decide)) : g111 69 17 = gi16 69 17).trans c16_4) ⟨fun b n hn hb hy => (by
                                                            obtain ⟨h1, h2, h3⟩ := j16_0.1 b n hn hb hy
                                                            refine ⟨h1.st e111, by unfold t_MF; rw [e111, x_up2_ne (by decide)]; exact h2, fun j hj => ?_⟩
                                                            have c1 := t_clamp (i := z110) (by omega)
                                                            by_cases hj2 : 1400 + j = z110.toNatClampNeg
                                                            · rw [hj2, e111, x_up2_at]; rfl
                                                            · rw [e111, x_up2_off (Or.inr hj2)]; exact h3 j (by omega)), fun j hj => (by
                                                            have c1 := t_clamp (i := z110) (by omega)
                                                            rw [e111, x_up2_off (Or.inr (by omega))]; exact j16_0.2 j hj)⟩ rfl
    refine ev_sub (lo := [(2, .int 0), (0, .ref 69), (1, .int ar1)]) rfl (t_sc rfl (t_sc rfl (t_sc rfl t_sn))) ?_
    exact L16 _ gi6 gl6 gr6 (0) hI hX  (by decide : (0:Int) ≤ (0:Int32).toInt) (Int.le_trans (by decide : (0:Int32).toInt ≤ (0:Int)) (by decide : (0:Int) ≤ 350)) rfl rfl rfl ((hC6.1 69 16 rfl).1.trans rfl) rfl ⟨fun b n hn hb hy => ⟨(q6.1 b n hn hb hy (by omega)).1, (q6.1 b n hn hb hy (by omega)).2, fun j hj => absurd hj (by have : (0 : Int32).toInt = 0 := rfl; omega)⟩, fun j hj => (hC6.1 70 j rfl).1⟩ rfl
/-! ===== what is fed, byte by byte ===== -/
/-- a byte of four -/
noncomputable def s_by (x : Int32) (s : Int) : Int32 := (x >>> (Int32.ofInt s &&& 31)).toInt8.toInt32
theorem s_by_b (x : Int32) (s : Int) : -128 ≤ (s_by x s).toInt ∧ (s_by x s).toInt ≤ 127 := by
  unfold s_by
  rw [Int8.toInt_toInt32]
  have h1 := Int8.le_toInt (x >>> (Int32.ofInt s &&& 31)).toInt8
  have h2 := Int8.toInt_lt (x >>> (Int32.ofInt s &&& 31)).toInt8
  omega
theorem s_by_m {x y z z' w : Int32} {s : Int} (e1 : z = x >>> (y &&& 31)) (e2 : z' = z.toInt8.toInt32) (e3 : w = z'.toInt8.toInt32) (hs : y.toInt = s) : w = s_by x s := by
  subst hs e1 e2 e3
  unfold s_by
  rw [Int32.ofInt_toInt, Int8.toInt8_toInt32]
theorem s_shr8 (x : BitVec 32) (k : Nat) (hk : k ≤ 24) : (x >>> k).setWidth 8 = (x.sshiftRight k).setWidth 8 := by
  apply BitVec.eq_of_getLsbD_eq
  intro i hi
  rw [BitVec.getLsbD_setWidth, BitVec.getLsbD_setWidth, BitVec.getLsbD_ushiftRight, BitVec.getLsbD_sshiftRight]
  rw [if_pos (by omega : k + i < 32)]
  simp [show ¬ 32 ≤ i by omega]
theorem s_sh8_0 (x : Int32) : (x.toUInt32 >>> 0).toInt32.toInt8.toBitVec = (x >>> 0).toInt8.toBitVec := by
  show ((x.toUInt32 >>> 0).toBitVec).signExtend 8 = ((x >>> 0).toBitVec).signExtend 8
  rw [BitVec.signExtend_eq_setWidth_of_le _ (by decide), BitVec.signExtend_eq_setWidth_of_le _ (by decide)]
  rw [UInt32.toBitVec_shiftRight, Int32.toBitVec_shiftRight]
  rw [show ((0 : UInt32).toBitVec % 32) = 0#32 from by decide, show ((0 : Int32).toBitVec.smod 32) = 0#32 from by decide]
  exact s_shr8 x.toBitVec 0 (by decide)
theorem s_sh8_8 (x : Int32) : (x.toUInt32 >>> 8).toInt32.toInt8.toBitVec = (x >>> 8).toInt8.toBitVec := by
  show ((x.toUInt32 >>> 8).toBitVec).signExtend 8 = ((x >>> 8).toBitVec).signExtend 8
  rw [BitVec.signExtend_eq_setWidth_of_le _ (by decide), BitVec.signExtend_eq_setWidth_of_le _ (by decide)]
  rw [UInt32.toBitVec_shiftRight, Int32.toBitVec_shiftRight]
  rw [show ((8 : UInt32).toBitVec % 32) = 8#32 from by decide, show ((8 : Int32).toBitVec.smod 32) = 8#32 from by decide]
  exact s_shr8 x.toBitVec 8 (by decide)
theorem s_sh8_16 (x : Int32) : (x.toUInt32 >>> 16).toInt32.toInt8.toBitVec = (x >>> 16).toInt8.toBitVec := by
  show ((x.toUInt32 >>> 16).toBitVec).signExtend 8 = ((x >>> 16).toBitVec).signExtend 8
  rw [BitVec.signExtend_eq_setWidth_of_le _ (by decide), BitVec.signExtend_eq_setWidth_of_le _ (by decide)]
  rw [UInt32.toBitVec_shiftRight, Int32.toBitVec_shiftRight]
  rw [show ((16 : UInt32).toBitVec % 32) = 16#32 from by decide, show ((16 : Int32).toBitVec.smod 32) = 16#32 from by decide]
  exact s_shr8 x.toBitVec 16 (by decide)
theorem s_sh8_24 (x : Int32) : (x.toUInt32 >>> 24).toInt32.toInt8.toBitVec = (x >>> 24).toInt8.toBitVec := by
  show ((x.toUInt32 >>> 24).toBitVec).signExtend 8 = ((x >>> 24).toBitVec).signExtend 8
  rw [BitVec.signExtend_eq_setWidth_of_le _ (by decide), BitVec.signExtend_eq_setWidth_of_le _ (by decide)]
  rw [UInt32.toBitVec_shiftRight, Int32.toBitVec_shiftRight]
  rw [show ((24 : UInt32).toBitVec % 32) = 24#32 from by decide, show ((24 : Int32).toBitVec.smod 32) = 24#32 from by decide]
  exact s_shr8 x.toBitVec 24 (by decide)
theorem s_by_h {x y z z' w : Int32} {s : Int} (e1 : z = (x.toUInt32 >>> (y.toUInt32 &&& Int32.toUInt32 31)).toInt32) (e2 : z' = z.toInt8.toInt32) (e3 : w = z'.toInt8.toInt32) (hs : y.toInt = s) (h4 : s = 0 ∨ s = 8 ∨ s = 16 ∨ s = 24) : w = s_by x s := by
  have hy : y = Int32.ofInt s := by rw [← hs, Int32.ofInt_toInt]
  subst e3 e2 e1
  unfold s_by
  rw [Int8.toInt8_toInt32]
  congr 1
  apply Int8.toBitVec_inj.mp
  rcases h4 with rfl | rfl | rfl | rfl
  · subst hy
    rw [show ((Int32.ofInt 0).toUInt32 &&& Int32.toUInt32 31) = 0 from by decide, show (Int32.ofInt 0 &&& 31 : Int32) = 0 from by decide]
    exact s_sh8_0 x
  · subst hy
    rw [show ((Int32.ofInt 8).toUInt32 &&& Int32.toUInt32 31) = 8 from by decide, show (Int32.ofInt 8 &&& 31 : Int32) = 8 from by decide]
    exact s_sh8_8 x
  · subst hy
    rw [show ((Int32.ofInt 16).toUInt32 &&& Int32.toUInt32 31) = 16 from by decide, show (Int32.ofInt 16 &&& 31 : Int32) = 16 from by decide]
    exact s_sh8_16 x
  · subst hy
    rw [show ((Int32.ofInt 24).toUInt32 &&& Int32.toUInt32 31) = 24 from by decide, show (Int32.ofInt 24 &&& 31 : Int32) = 24 from by decide]
    exact s_sh8_24 x
noncomputable def s_fe (f : Nat → Int32) (c e : Int) (x : Int32) (j : Nat) : Int32 := if c ≤ (j : Int) ∧ (j : Int) < e then s_by x (24 - 8 * ((j : Int) - c)) else f j
noncomputable def s_fd (f : Nat → Int32) (c : Int) (x : Int32) : Nat → Int32 := s_fe f c (c + 4) x
noncomputable def s_f5 (f : Nat → Int32) (c : Int) (x1 x2 x3 x4 x5 : Int32) : Nat → Int32 := s_fd (s_fd (s_fd (s_fd (s_fd f c x1) (c + 4) x2) (c + 4 + 4) x3) (c + 4 + 4 + 4) x4) (c + 4 + 4 + 4 + 4) x5
theorem t_fe_0 {f : Nat → Int32} {c e : Int} {x : Int32} (h : e ≤ c) (j : Nat) : s_fe f c e x j = f j := by
  unfold s_fe; rw [if_neg (by omega)]
theorem t_fe_s {f g g2 : Nat → Int32} {c e e' s : Int} {x v i : Int32} (h : ∀ j, g j = s_fe f c e x j) (h0 : 0 ≤ i.toInt) (hi : i.toInt = e) (hc : c ≤ e) (hs : s = 24 - 8 * (e - c)) (hv : v = s_by x s) (e2 : ∀ j, g2 j = if j = i.toNatClampNeg then v else g j) (he : e' = e + 1) : ∀ j, g2 j = s_fe f c e' x j := by
  intro j
  have hk := t_clamp h0
  rw [e2 j]
  unfold s_fe
  by_cases hj : j = i.toNatClampNeg
  · rw [if_pos hj, if_pos (by omega), hv, hs, show (j : Int) - c = e - c by omega]
  · rw [if_neg hj, h j]
    unfold s_fe
    by_cases hr : c ≤ (j : Int) ∧ (j : Int) < e
    · rw [if_pos hr, if_pos (by omega)]
    · rw [if_neg hr, if_neg (by omega)]
theorem t_f5 {g0 g1 g2 g3 g4 g5 : Nat → Int32} {c0 c1 c2 c3 c4 : Int} {x1 x2 x3 x4 x5 : Int32} (h1 : ∀ j, g1 j = s_fd g0 c0 x1 j) (e1 : c1 = c0 + 4) (h2 : ∀ j, g2 j = s_fd g1 c1 x2 j) (e2 : c2 = c1 + 4) (h3 : ∀ j, g3 j = s_fd g2 c2 x3 j) (e3 : c3 = c2 + 4) (h4 : ∀ j, g4 j = s_fd g3 c3 x4 j) (e4 : c4 = c3 + 4) (h5 : ∀ j, g5 j = s_fd g4 c4 x5 j) : ∀ j, g5 j = s_f5 g0 c0 x1 x2 x3 x4 x5 j := by
  subst e1 e2 e3 e4
  obtain rfl := funext h1
  obtain rfl := funext h2
  obtain rfl := funext h3
  obtain rfl := funext h4
  exact h5
/-- tapes that agree so far, in bytes -/
noncomputable def t_ag (f g : Nat → Int32) (c : Int) : Prop := ∀ j : Nat, (j : Int) < c → f j = g j ∧ -128 ≤ (f j).toInt ∧ (f j).toInt ≤ 127
theorem t_ag_4 {f g : Nat → Int32} {c : Int} {x : Int32} (h : t_ag f g c) : t_ag (s_fd f c x) (s_fd g c x) (c + 4) := by
  intro j hj
  unfold s_fd s_fe
  by_cases hr : c ≤ (j : Int) ∧ (j : Int) < c + 4
  · rw [if_pos hr, if_pos hr]; exact ⟨rfl, s_by_b _ _⟩
  · rw [if_neg hr, if_neg hr]; exact h j (by omega)
theorem t_ag_20 {f g : Nat → Int32} {c : Int} {x1 x2 x3 x4 x5 : Int32} (h : t_ag f g c) : t_ag (s_f5 f c x1 x2 x3 x4 x5) (s_f5 g c x1 x2 x3 x4 x5) (c + 4 + 4 + 4 + 4 + 4) := t_ag_4 (t_ag_4 (t_ag_4 (t_ag_4 (t_ag_4 h))))
/-! ===== printed by riv.py: feed ===== -/
noncomputable def wl_s_four : List (Nat × Nat) := [(0, 5), (2, 9999)]
noncomputable def Q_s_four (gi : Nat → Nat → Int32) (gl : Nat → Nat → Int64) (gr : Nat → Nat → Value) (ar1 : Int32) : (Nat → Nat → Int32) → (Nat → Nat → Int64) → (Nat → Nat → Value) → Prop := fun (gi2 : Nat → Nat → Int32) (gl2 : Nat → Nat → Int64) (gr2 : Nat → Nat → Value) => ((gi2 0 5).toInt = (gi 0 5).toInt + 4) ∧ (∀ j : Nat, gi2 2 j = s_fd (gi 2) (gi 0 5).toInt ar1 j)
theorem c_s_four {X : x_Ext} {d : Nat} {sh : List (Nat ⊕ (Nat × Nat))} {gi : Nat → Nat → Int32} {gl : Nat → Nat → Int64} {gr : Nat → Nat → Value} (hI : t_I sh gi gr) (ar1 : Int32) (e_p0 : (gi 0 5).toInt + 4 ≤ 900) : x_Me X (d + 1) n_X11_feedOne [.ref 0, .int ar1] (sh, gi, gl, gr) (t_PN wl_s_four sh gi gl gr (Q_s_four gi gl gr ar1)) := by
  have hX : t_X wl_s_four sh gi gl gr gi gl gr := t_X.rf
  refine me_i f_X11_feedOne (hI.wf.s rfl) rfl rfl rfl ?_
  obtain ⟨l1, u1⟩ := hI.b (hI.wf.s (k := 0) rfl) (t_bdK rfl : t_bd 10 5 = some (0, 900))
  refine ev_bp f_X11_feedOne (nx := 2) (v := 24) rfl (by decide) rfl ?_
  refine ev_loc f_X11_feedOne (nx := 3) (lo' := [(2, .int 24), (0, .ref 0), (1, .int ar1)]) rfl rfl rfl rfl ?_
  have L2 : ∀ (m2 : Nat) (gi2 : Nat → Nat → Int32) (gl2 : Nat → Nat → Int64) (gr2 : Nat → Nat → Value) (y2_2 : Int32), t_I sh gi2 gr2 → t_X wl_s_four sh gi gl gr gi2 gl2 gr2 → (-8) ≤ y2_2.toInt → y2_2.toInt ≤ 24 → 8 * (gi2 0 5).toInt + y2_2.toInt = 8 * (gi 0 5).toInt + 24 → (∀ j : Nat, gi2 2 j = s_fe (gi 2) (gi 0 5).toInt (gi2 0 5).toInt ar1 j) → (y2_2.toInt - (-8)).toNat = m2 → x_Ev X (d + 1) n_X11_feedOne 3 [(2, .int y2_2), (0, .ref 0), (1, .int ar1)] [] (sh, gi2, gl2, gr2) (t_PN wl_s_four sh gi gl gr (Q_s_four gi gl gr ar1)) := by
    intro m2
    induction m2 using Nat.strongRecOn with
    | _ m2 ih2 =>
    intro gi2 gl2 gr2 y2_2 hI hX l2_2 u2_2 j2_0 j2_1 hm2
    obtain ⟨l3, u3⟩ := hI.b (hI.wf.s (k := 0) rfl) (t_bdK rfl : t_bd 10 5 = some (0, 900))
    refine ev_loc f_X11_feedOne (nx := 4) rfl rfl rfl rfl ?_
    refine ev_if f_X11_feedOne (t1 := 48) (t2 := 7) rfl rfl rfl (fun h4 => ?_) (fun h4 => ?_)
    · have u5 : y2_2.toInt ≤ (-1) := t_ltu h4 (by decide : (0:Int32).toInt ≤ (0:Int)) rfl
      exact ev_ret f_X11_feedOne rfl rfl rfl ⟨_, _, _, rfl, hI, hX, ⟨rfl, (show ((gi2 0 5).toInt = (gi 0 5).toInt + 4) ∧ (∀ j : Nat, gi2 2 j = s_fd (gi 2) (gi 0 5).toInt ar1 j) from ⟨(show ((gi2 0 5).toInt = (gi 0 5).toInt + 4) from (by omega)), fun j => (j2_1 j).trans (by rw [show (gi2 0 5).toInt = (gi 0 5).toInt + 4 from (by omega)]; rfl)⟩)⟩⟩
    · have l6 : 0 ≤ y2_2.toInt := t_lel (t_nlt h4) (by decide : (0:Int) ≤ (0:Int32).toInt)
      refine ev_loc f_X11_feedOne (nx := 8) rfl rfl rfl rfl ?_
      refine ev_gvI f_X11_feedOne (nx := 11) (w := (gi2 0 5)) rfl (hI.wf.s rfl) rfl rfl rfl rfl ?_
      refine ev_loc f_X11_feedOne (nx := 12) rfl rfl rfl rfl ?_
      refine ev_getR f_X11_feedOne (nx := 15) rfl (hI.wf.s rfl) rfl rfl (hI.wf.r rfl) rfl rfl ?_
      refine ev_alenv f_X11_feedOne (nx := 16) (w := 900) rfl (hI.wf.s rfl) rfl (by decide) rfl ?_
      refine ev_if f_X11_feedOne (t1 := 48) (t2 := 19) rfl rfl rfl (fun h7 => ?_) (fun h7 => ?_)
      · have l8 : 900 ≤ (gi2 0 5).toInt := t_lel h7 (by decide : (900:Int) ≤ (900:Int32).toInt)
        exact ev_ret f_X11_feedOne rfl rfl rfl ⟨_, _, _, rfl, hI, hX, ⟨rfl, (show ((gi2 0 5).toInt = (gi 0 5).toInt + 4) ∧ (∀ j : Nat, gi2 2 j = s_fd (gi 2) (gi 0 5).toInt ar1 j) from ⟨(show ((gi2 0 5).toInt = (gi 0 5).toInt + 4) from (by omega)), fun j => (j2_1 j).trans (by rw [show (gi2 0 5).toInt = (gi 0 5).toInt + 4 from (by omega)]; rfl)⟩)⟩⟩
      · have u9 : (gi2 0 5).toInt ≤ 899 := t_ltu (t_nle h7) (by decide : (900:Int32).toInt ≤ (900:Int)) rfl
        refine ev_loc f_X11_feedOne (nx := 20) rfl rfl rfl rfl ?_
        refine ev_getR f_X11_feedOne (nx := 23) rfl (hI.wf.s rfl) rfl rfl (hI.wf.r rfl) rfl rfl ?_
        refine ev_loc f_X11_feedOne (nx := 24) rfl rfl rfl rfl ?_
        refine ev_gvI f_X11_feedOne (nx := 27) (w := (gi2 0 5)) rfl (hI.wf.s rfl) rfl rfl rfl rfl ?_
        refine ev_loc f_X11_feedOne (nx := 28) rfl rfl rfl rfl ?_
        refine ev_loc f_X11_feedOne (nx := 29) rfl rfl rfl rfl ?_
        refine ev_anyIE f_X11_feedOne (nx := 30) rfl rfl rfl rfl (fun z10 e10 => ?_)
        refine ev_anyIE f_X11_feedOne (nx := 31) rfl rfl rfl rfl (fun z11 e11 => ?_)
        refine ev_bastE f_X11_feedOne (nx := 32) rfl (hI.wf.s rfl) l3 (by decide) u9 (by decide) rfl (fun x => (hI.astG (hI.wf.s rfl) (fun lo hi e => absurd e (t_nob (by decide +kernel) _)) (fun k hk e => by have := hk.2.1; omega))) (fun x => hX.upI (t_inA_ok rfl)) (fun g12 x12 f12 e12 hI hX => ?_)
        refine ev_loc f_X11_feedOne (nx := 33) rfl rfl rfl rfl ?_
        refine ev_alu f_X11_feedOne (nx := 34) rfl rfl rfl rfl ?_
        refine ev_gvI f_X11_feedOne (nx := 37) (w := (gi2 0 5)) rfl (hI.wf.s rfl) rfl rfl ((by rw [e12]; exact x_up2_off (Or.inl (by decide)) : g12 0 5 = gi2 0 5).trans rfl) rfl ?_
        refine ev_ic f_X11_feedOne (nx := 38) (v := 1) rfl (by decide) rfl ?_
        refine ev_addC f_X11_feedOne (nx := 39) (c := 1) (l := 1) (u := 900) rfl (by decide) l3 u9 rfl rfl (by decide) (by decide) rfl (fun z13 e13 l13 u13 => ?_)
        refine ev_putIT f_X11_feedOne (nx := 42) rfl (hI.wf.s rfl) rfl rfl rfl (hI.putB (hI.wf.s rfl) rfl rfl l13 (by decide) u13 (by decide)) (hX.upI rfl) (fun g14 e14 hI hX => ?_)
        refine ev_incR f_X11_feedOne (nx := 45) (c := (-8)) (l := (-8)) (u := 16) rfl rfl (by decide) (by decide) l6 u2_2 rfl rfl (by decide) (by decide) rfl (fun z15 e15 l15 u15 => ?_)
        refine ev_jmp f_X11_feedOne (nx := 3) rfl rfl rfl ?_
        refine ev_sub (lo := [(2, .int z15), (0, .ref 0), (1, .int ar1)]) rfl (t_sc rfl (t_sc rfl (t_sc rfl t_sn))) ?_
        exact ih2 _ (by omega) g14 gl2 gr2 (z15) hI hX  l15 (Int.le_trans u15 (by decide : (16:Int) ≤ 24)) (by have ff16 : (g14 0 5).toInt = z13.toInt := congrArg Int32.toInt (by rw [e14]; exact x_up2_at _ _ _ _ : g14 0 5 = z13); omega) (t_fe_s (i := (gi2 0 5)) (e := (gi2 0 5).toInt) (s := y2_2.toInt) j2_1 (by omega) (by have ff0 : (g14 0 5).toInt = z13.toInt := congrArg Int32.toInt (by rw [e14]; exact x_up2_at _ _ _ _ : g14 0 5 = z13); omega) (by omega) (by omega) (s_by_h e10 e11 f12 rfl (by omega)) (fun j => by rw [e14, x_up2_ne (by decide), e12, x_up2_same]) (by have ff0 : (g14 0 5).toInt = z13.toInt := congrArg Int32.toInt (by rw [e14]; exact x_up2_at _ _ _ _ : g14 0 5 = z13); omega)) rfl
  refine ev_sub (lo := [(2, .int 24), (0, .ref 0), (1, .int ar1)]) rfl (t_sc rfl (t_sc rfl (t_sc rfl t_sn))) ?_
  exact L2 _ gi gl gr (24) hI hX  (Int.le_trans (by decide : ((-8):Int) ≤ 24) (by decide : (24:Int) ≤ (24:Int32).toInt)) (by decide : (24:Int32).toInt ≤ (24:Int)) (by have kf17 : (24 : Int32).toInt = 24 := (by decide); omega) (fun j => (t_fe_0 (by omega) j).symm) rfl
noncomputable def wl_s_feed : List (Nat × Nat) := [(0, 5), (2, 9999)]
noncomputable def Q_s_feed (gi : Nat → Nat → Int32) (gl : Nat → Nat → Int64) (gr : Nat → Nat → Value) (ar1 : Int32) (ar2 : Int32) (ar3 : Int32) (ar4 : Int32) (ar5 : Int32) : Int32 → (Nat → Nat → Int32) → (Nat → Nat → Int64) → (Nat → Nat → Value) → Prop := fun (v : Int32) (gi2 : Nat → Nat → Int32) (gl2 : Nat → Nat → Int64) (gr2 : Nat → Nat → Value) => ((gi 0 5).toInt + 20 ≤ 900 → ∀ j : Nat, gi2 2 j = s_f5 (gi 2) (gi 0 5).toInt ar1 ar2 ar3 ar4 ar5 j) ∧ (900 < (gi 0 5).toInt + 20 → ∀ j : Nat, gi2 2 j = gi 2 j)
theorem c_s_feed {X : x_Ext} {d : Nat} {sh : List (Nat ⊕ (Nat × Nat))} {gi : Nat → Nat → Int32} {gl : Nat → Nat → Int64} {gr : Nat → Nat → Value} (hI : t_I sh gi gr) (ar1 : Int32) (ar2 : Int32) (ar3 : Int32) (ar4 : Int32) (ar5 : Int32) : x_Me X (d + 2) n_X11_feed [.ref 0, .int ar1, .int ar2, .int ar3, .int ar4, .int ar5] (sh, gi, gl, gr) (t_PI wl_s_feed sh gi gl gr (-1) 900 (Q_s_feed gi gl gr ar1 ar2 ar3 ar4 ar5)) := by
  have hX : t_X wl_s_feed sh gi gl gr gi gl gr := t_X.rf
  refine me_i f_X11_feed (hI.wf.s rfl) rfl rfl rfl ?_
  obtain ⟨l1, u1⟩ := hI.b (hI.wf.s (k := 0) rfl) (t_bdK rfl : t_bd 10 5 = some (0, 900))
  refine ev_loc f_X11_feed (nx := 1) rfl rfl rfl rfl ?_
  refine ev_gvI f_X11_feed (nx := 4) (w := (gi 0 5)) rfl (hI.wf.s rfl) rfl rfl rfl rfl ?_
  refine ev_bp f_X11_feed (nx := 6) (v := 20) rfl (by decide) rfl ?_
  refine ev_addC f_X11_feed (nx := 7) (c := 20) (l := 20) (u := 920) rfl (by decide) l1 u1 rfl rfl (by decide) (by decide) rfl (fun z2 e2 l2 u2 => ?_)
  refine ev_loc f_X11_feed (nx := 8) rfl rfl rfl rfl ?_
  refine ev_getR f_X11_feed (nx := 11) rfl (hI.wf.s rfl) rfl rfl (hI.wf.r rfl) rfl rfl ?_
  refine ev_alenv f_X11_feed (nx := 12) (w := 900) rfl (hI.wf.s rfl) rfl (by decide) rfl ?_
  refine ev_if f_X11_feed (t1 := 17) (t2 := 15) rfl rfl rfl (fun h3 => ?_) (fun h3 => ?_)
  · have u4 : z2.toInt ≤ 900 := t_leu h3 (by decide : (900:Int32).toInt ≤ (900:Int))
    refine ev_loc f_X11_feed (nx := 18) rfl rfl rfl rfl ?_
    refine ev_loc f_X11_feed (nx := 19) rfl rfl rfl rfl ?_
    refine ev_qN f_X11_feed (nx := 22) (r := []) rfl rfl rfl rfl rfl rfl rfl (c_s_four hI (ar1) (by omega)) rfl hX rfl (fun gi5 gl5 gr5 hI hX hC5 q5 => ?_)
    have q5 : ((gi5 0 5).toInt = (gi 0 5).toInt + 4) ∧ (∀ j : Nat, gi5 2 j = s_fd (gi 2) (gi 0 5).toInt ar1 j) := q5
    obtain ⟨l6, u6⟩ := hI.b (hI.wf.s (k := 0) rfl) (t_bdK rfl : t_bd 10 5 = some (0, 900))
    refine ev_loc f_X11_feed (nx := 23) rfl rfl rfl rfl ?_
    refine ev_loc f_X11_feed (nx := 24) rfl rfl rfl rfl ?_
    refine ev_qN f_X11_feed (nx := 27) (r := []) rfl rfl rfl rfl rfl rfl rfl (c_s_four hI (ar2) (by omega)) rfl hX rfl (fun gi7 gl7 gr7 hI hX hC7 q7 => ?_)
    have q7 : ((gi7 0 5).toInt = (gi5 0 5).toInt + 4) ∧ (∀ j : Nat, gi7 2 j = s_fd (gi5 2) (gi5 0 5).toInt ar2 j) := q7
    obtain ⟨l8, u8⟩ := hI.b (hI.wf.s (k := 0) rfl) (t_bdK rfl : t_bd 10 5 = some (0, 900))
    refine ev_loc f_X11_feed (nx := 28) rfl rfl rfl rfl ?_
    refine ev_loc f_X11_feed (nx := 29) rfl rfl rfl rfl ?_
    refine ev_qN f_X11_feed (nx := 32) (r := []) rfl rfl rfl rfl rfl rfl rfl (c_s_four hI (ar3) (by omega)) rfl hX rfl (fun gi9 gl9 gr9 hI hX hC9 q9 => ?_)
    have q9 : ((gi9 0 5).toInt = (gi7 0 5).toInt + 4) ∧ (∀ j : Nat, gi9 2 j = s_fd (gi7 2) (gi7 0 5).toInt ar3 j) := q9
    obtain ⟨l10, u10⟩ := hI.b (hI.wf.s (k := 0) rfl) (t_bdK rfl : t_bd 10 5 = some (0, 900))
    refine ev_loc f_X11_feed (nx := 33) rfl rfl rfl rfl ?_
    refine ev_loc f_X11_feed (nx := 35) rfl rfl rfl rfl ?_
    refine ev_qN f_X11_feed (nx := 38) (r := []) rfl rfl rfl rfl rfl rfl rfl (c_s_four hI (ar4) (by omega)) rfl hX rfl (fun gi11 gl11 gr11 hI hX hC11 q11 => ?_)
    have q11 : ((gi11 0 5).toInt = (gi9 0 5).toInt + 4) ∧ (∀ j : Nat, gi11 2 j = s_fd (gi9 2) (gi9 0 5).toInt ar4 j) := q11
    obtain ⟨l12, u12⟩ := hI.b (hI.wf.s (k := 0) rfl) (t_bdK rfl : t_bd 10 5 = some (0, 900))
    refine ev_loc f_X11_feed (nx := 39) rfl rfl rfl rfl ?_
    refine ev_loc f_X11_feed (nx := 41) rfl rfl rfl rfl ?_
    refine ev_qN f_X11_feed (nx := 44) (r := []) rfl rfl rfl rfl rfl rfl rfl (c_s_four hI (ar5) (by omega)) rfl hX rfl (fun gi13 gl13 gr13 hI hX hC13 q13 => ?_)
    have q13 : ((gi13 0 5).toInt = (gi11 0 5).toInt + 4) ∧ (∀ j : Nat, gi13 2 j = s_fd (gi11 2) (gi11 0 5).toInt ar5 j) := q13
    obtain ⟨l14, u14⟩ := hI.b (hI.wf.s (k := 0) rfl) (t_bdK rfl : t_bd 10 5 = some (0, 900))
    refine ev_loc f_X11_feed (nx := 45) rfl rfl rfl rfl ?_
    refine ev_gvI f_X11_feed (nx := 48) (w := (gi13 0 5)) rfl (hI.wf.s rfl) rfl rfl rfl rfl ?_
    exact ev_ret f_X11_feed rfl rfl rfl ⟨_, _, _, rfl, hI, hX, ⟨_, rfl, (Int.le_trans (by decide : ((-1):Int) ≤ 0) l14), u14, (show ((gi 0 5).toInt + 20 ≤ 900 → ∀ j : Nat, gi13 2 j = s_f5 (gi 2) (gi 0 5).toInt ar1 ar2 ar3 ar4 ar5 j) ∧ (900 < (gi 0 5).toInt + 20 → ∀ j : Nat, gi13 2 j = gi 2 j) from ⟨fun _ => t_f5 q5.2 q5.1 q7.2 q7.1 q9.2 q9.1 q11.2 q11.1 q13.2, fun h => absurd h (by omega)⟩)⟩⟩
  · have l15 : 901 ≤ z2.toInt := t_ltl (t_nle h3) (by decide : (900:Int) ≤ (900:Int32).toInt) rfl
    refine ev_ic f_X11_feed (nx := 16) (v := -1) rfl (by decide) rfl ?_
    exact ev_ret f_X11_feed rfl rfl rfl ⟨_, _, _, rfl, hI, hX, ⟨_, rfl, (by decide : ((-1):Int) ≤ ((-1):Int32).toInt), (Int.le_trans (by decide : ((-1):Int32).toInt ≤ ((-1):Int)) (by decide : ((-1):Int) ≤ 900)), (show ((gi 0 5).toInt + 20 ≤ 900 → ∀ j : Nat, gi 2 j = s_f5 (gi 2) (gi 0 5).toInt ar1 ar2 ar3 ar4 ar5 j) ∧ (900 < (gi 0 5).toInt + 20 → ∀ j : Nat, gi 2 j = gi 2 j) from ⟨fun h => absurd h (by omega), fun _ j => rfl⟩)⟩⟩
noncomputable def wl_n_four : List (Nat × Nat) := [(69, 10), (75, 9999)]
noncomputable def Q_n_four (gi : Nat → Nat → Int32) (gl : Nat → Nat → Int64) (gr : Nat → Nat → Value) (ar1 : Int32) : (Nat → Nat → Int32) → (Nat → Nat → Int64) → (Nat → Nat → Value) → Prop := fun (gi2 : Nat → Nat → Int32) (gl2 : Nat → Nat → Int64) (gr2 : Nat → Nat → Value) => ((gi2 69 10).toInt = (gi 69 10).toInt + 4) ∧ (∀ j : Nat, gi2 75 j = s_fd (gi 75) (gi 69 10).toInt ar1 j)
theorem c_n_four {X : x_Ext} {d : Nat} {sh : List (Nat ⊕ (Nat × Nat))} {gi : Nat → Nat → Int32} {gl : Nat → Nat → Int64} {gr : Nat → Nat → Value} (hI : t_I sh gi gr) (ar1 : Int32) (e_p0 : (gi 69 10).toInt + 4 ≤ 900) : x_Me X (d + 1) n_X12_four [.ref 69, .int ar1] (sh, gi, gl, gr) (t_PN wl_n_four sh gi gl gr (Q_n_four gi gl gr ar1)) := by
  have hX : t_X wl_n_four sh gi gl gr gi gl gr := t_X.rf
  refine me_i f_X12_four (hI.wf.s rfl) rfl rfl rfl ?_
  obtain ⟨l1, u1⟩ := hI.b (hI.wf.s (k := 69) rfl) (t_bdK rfl : t_bd 11 10 = some (0, 900))
  refine ev_bp f_X12_four (nx := 2) (v := 24) rfl (by decide) rfl ?_
  refine ev_loc f_X12_four (nx := 3) (lo' := [(2, .int 24), (0, .ref 69), (1, .int ar1)]) rfl rfl rfl rfl ?_
  have L2 : ∀ (m2 : Nat) (gi2 : Nat → Nat → Int32) (gl2 : Nat → Nat → Int64) (gr2 : Nat → Nat → Value) (y2_2 : Int32), t_I sh gi2 gr2 → t_X wl_n_four sh gi gl gr gi2 gl2 gr2 → (-8) ≤ y2_2.toInt → y2_2.toInt ≤ 24 → 8 * (gi2 69 10).toInt + y2_2.toInt = 8 * (gi 69 10).toInt + 24 → (∀ j : Nat, gi2 75 j = s_fe (gi 75) (gi 69 10).toInt (gi2 69 10).toInt ar1 j) → (y2_2.toInt - (-8)).toNat = m2 → x_Ev X (d + 1) n_X12_four 3 [(2, .int y2_2), (0, .ref 69), (1, .int ar1)] [] (sh, gi2, gl2, gr2) (t_PN wl_n_four sh gi gl gr (Q_n_four gi gl gr ar1)) := by
    intro m2
    induction m2 using Nat.strongRecOn with
    | _ m2 ih2 =>
    intro gi2 gl2 gr2 y2_2 hI hX l2_2 u2_2 j2_0 j2_1 hm2
    obtain ⟨l3, u3⟩ := hI.b (hI.wf.s (k := 69) rfl) (t_bdK rfl : t_bd 11 10 = some (0, 900))
    refine ev_loc f_X12_four (nx := 4) rfl rfl rfl rfl ?_
    refine ev_if f_X12_four (t1 := 36) (t2 := 7) rfl rfl rfl (fun h4 => ?_) (fun h4 => ?_)
    · have u5 : y2_2.toInt ≤ (-1) := t_ltu h4 (by decide : (0:Int32).toInt ≤ (0:Int)) rfl
      exact ev_ret f_X12_four rfl rfl rfl ⟨_, _, _, rfl, hI, hX, ⟨rfl, (show ((gi2 69 10).toInt = (gi 69 10).toInt + 4) ∧ (∀ j : Nat, gi2 75 j = s_fd (gi 75) (gi 69 10).toInt ar1 j) from ⟨(show ((gi2 69 10).toInt = (gi 69 10).toInt + 4) from (by omega)), fun j => (j2_1 j).trans (by rw [show (gi2 69 10).toInt = (gi 69 10).toInt + 4 from (by omega)]; rfl)⟩)⟩⟩
    · have l6 : 0 ≤ y2_2.toInt := t_lel (t_nlt h4) (by decide : (0:Int) ≤ (0:Int32).toInt)
      refine ev_loc f_X12_four (nx := 8) rfl rfl rfl rfl ?_
      refine ev_getR f_X12_four (nx := 11) rfl (hI.wf.s rfl) rfl rfl (hI.wf.r rfl) rfl rfl ?_
      refine ev_loc f_X12_four (nx := 12) rfl rfl rfl rfl ?_
      refine ev_gvI f_X12_four (nx := 15) (w := (gi2 69 10)) rfl (hI.wf.s rfl) rfl rfl rfl rfl ?_
      refine ev_loc f_X12_four (nx := 16) rfl rfl rfl rfl ?_
      refine ev_loc f_X12_four (nx := 17) rfl rfl rfl rfl ?_
      refine ev_anyIE f_X12_four (nx := 18) rfl rfl rfl rfl (fun z7 e7 => ?_)
      refine ev_anyIE f_X12_four (nx := 19) rfl rfl rfl rfl (fun z8 e8 => ?_)
      have u10 : (gi2 69 10).toInt ≤ (899:Int) := (by omega)
      refine ev_bastE f_X12_four (nx := 20) rfl (hI.wf.s rfl) l3 (by decide) u10 (by decide) rfl (fun x => (hI.astG (hI.wf.s rfl) (fun lo hi e => absurd e (t_nob (by decide +kernel) _)) (fun k hk e => by have := hk.2.1; omega))) (fun x => hX.upI (t_inA_ok rfl)) (fun g9 x9 f9 e9 hI hX => ?_)
      refine ev_loc f_X12_four (nx := 21) rfl rfl rfl rfl ?_
      refine ev_alu f_X12_four (nx := 22) rfl rfl rfl rfl ?_
      refine ev_gvI f_X12_four (nx := 25) (w := (gi2 69 10)) rfl (hI.wf.s rfl) rfl rfl ((by rw [e9]; exact x_up2_off (Or.inl (by decide)) : g9 69 10 = gi2 69 10).trans rfl) rfl ?_
      refine ev_ic f_X12_four (nx := 26) (v := 1) rfl (by decide) rfl ?_
      refine ev_addC f_X12_four (nx := 27) (c := 1) (l := 1) (u := 900) rfl (by decide) l3 u10 rfl rfl (by decide) (by decide) rfl (fun z11 e11 l11 u11 => ?_)
      refine ev_putIT f_X12_four (nx := 30) rfl (hI.wf.s rfl) rfl rfl rfl (hI.putB (hI.wf.s rfl) rfl rfl l11 (by decide) u11 (by decide)) (hX.upI rfl) (fun g12 e12 hI hX => ?_)
      refine ev_incR f_X12_four (nx := 33) (c := (-8)) (l := (-8)) (u := 16) rfl rfl (by decide) (by decide) l6 u2_2 rfl rfl (by decide) (by decide) rfl (fun z13 e13 l13 u13 => ?_)
      refine ev_jmp f_X12_four (nx := 3) rfl rfl rfl ?_
      refine ev_sub (lo := [(2, .int z13), (0, .ref 69), (1, .int ar1)]) rfl (t_sc rfl (t_sc rfl (t_sc rfl t_sn))) ?_
      exact ih2 _ (by omega) g12 gl2 gr2 (z13) hI hX  l13 (Int.le_trans u13 (by decide : (16:Int) ≤ 24)) (by have ff14 : (g12 69 10).toInt = z11.toInt := congrArg Int32.toInt (by rw [e12]; exact x_up2_at _ _ _ _ : g12 69 10 = z11); omega) (t_fe_s (i := (gi2 69 10)) (e := (gi2 69 10).toInt) (s := y2_2.toInt) j2_1 (by omega) (by have ff0 : (g12 69 10).toInt = z11.toInt := congrArg Int32.toInt (by rw [e12]; exact x_up2_at _ _ _ _ : g12 69 10 = z11); omega) (by omega) (by omega) (s_by_m e7 e8 f9 rfl) (fun j => by rw [e12, x_up2_ne (by decide), e9, x_up2_same]) (by have ff0 : (g12 69 10).toInt = z11.toInt := congrArg Int32.toInt (by rw [e12]; exact x_up2_at _ _ _ _ : g12 69 10 = z11); omega)) rfl
  refine ev_sub (lo := [(2, .int 24), (0, .ref 69), (1, .int ar1)]) rfl (t_sc rfl (t_sc rfl (t_sc rfl t_sn))) ?_
  exact L2 _ gi gl gr (24) hI hX  (Int.le_trans (by decide : ((-8):Int) ≤ 24) (by decide : (24:Int) ≤ (24:Int32).toInt)) (by decide : (24:Int32).toInt ≤ (24:Int)) (by have kf15 : (24 : Int32).toInt = 24 := (by decide); omega) (fun j => (t_fe_0 (by omega) j).symm) rfl
noncomputable def wl_n_feed : List (Nat × Nat) := [(69, 10), (75, 9999)]
noncomputable def Q_n_feed (gi : Nat → Nat → Int32) (gl : Nat → Nat → Int64) (gr : Nat → Nat → Value) (ar1 : Int32) (ar2 : Int32) (ar3 : Int32) (ar4 : Int32) (ar5 : Int32) : Int32 → (Nat → Nat → Int32) → (Nat → Nat → Int64) → (Nat → Nat → Value) → Prop := fun (v : Int32) (gi2 : Nat → Nat → Int32) (gl2 : Nat → Nat → Int64) (gr2 : Nat → Nat → Value) => ((gi 69 10).toInt + 20 ≤ 900 → ∀ j : Nat, gi2 75 j = s_f5 (gi 75) (gi 69 10).toInt ar1 ar2 ar3 ar4 ar5 j) ∧ (900 < (gi 69 10).toInt + 20 → ∀ j : Nat, gi2 75 j = gi 75 j)
theorem c_n_feed {X : x_Ext} {d : Nat} {sh : List (Nat ⊕ (Nat × Nat))} {gi : Nat → Nat → Int32} {gl : Nat → Nat → Int64} {gr : Nat → Nat → Value} (hI : t_I sh gi gr) (ar1 : Int32) (ar2 : Int32) (ar3 : Int32) (ar4 : Int32) (ar5 : Int32) : x_Me X (d + 2) n_X12_feed [.ref 69, .int ar1, .int ar2, .int ar3, .int ar4, .int ar5] (sh, gi, gl, gr) (t_PI wl_n_feed sh gi gl gr (-1) 900 (Q_n_feed gi gl gr ar1 ar2 ar3 ar4 ar5)) := by
  have hX : t_X wl_n_feed sh gi gl gr gi gl gr := t_X.rf
  refine me_i f_X12_feed (hI.wf.s rfl) rfl rfl rfl ?_
  obtain ⟨l1, u1⟩ := hI.b (hI.wf.s (k := 69) rfl) (t_bdK rfl : t_bd 11 10 = some (0, 900))
  refine ev_loc f_X12_feed (nx := 1) rfl rfl rfl rfl ?_
  refine ev_gvI f_X12_feed (nx := 4) (w := (gi 69 10)) rfl (hI.wf.s rfl) rfl rfl rfl rfl ?_
  refine ev_bp f_X12_feed (nx := 6) (v := 20) rfl (by decide) rfl ?_
  refine ev_addC f_X12_feed (nx := 7) (c := 20) (l := 20) (u := 920) rfl (by decide) l1 u1 rfl rfl (by decide) (by decide) rfl (fun z2 e2 l2 u2 => ?_)
  refine ev_sp f_X12_feed (nx := 10) (v := 900) rfl (by decide) rfl ?_
  refine ev_if f_X12_feed (t1 := 15) (t2 := 13) rfl rfl rfl (fun h3 => ?_) (fun h3 => ?_)
  · have u4 : z2.toInt ≤ 900 := t_leu h3 (by decide : (900:Int32).toInt ≤ (900:Int))
    refine ev_loc f_X12_feed (nx := 16) rfl rfl rfl rfl ?_
    refine ev_loc f_X12_feed (nx := 17) rfl rfl rfl rfl ?_
    refine ev_qN f_X12_feed (nx := 20) (r := []) rfl rfl rfl rfl rfl rfl rfl (c_n_four hI (ar1) (by omega)) rfl hX rfl (fun gi5 gl5 gr5 hI hX hC5 q5 => ?_)
    have q5 : ((gi5 69 10).toInt = (gi 69 10).toInt + 4) ∧ (∀ j : Nat, gi5 75 j = s_fd (gi 75) (gi 69 10).toInt ar1 j) := q5
    obtain ⟨l6, u6⟩ := hI.b (hI.wf.s (k := 69) rfl) (t_bdK rfl : t_bd 11 10 = some (0, 900))
    refine ev_loc f_X12_feed (nx := 21) rfl rfl rfl rfl ?_
    refine ev_loc f_X12_feed (nx := 22) rfl rfl rfl rfl ?_
    refine ev_qN f_X12_feed (nx := 25) (r := []) rfl rfl rfl rfl rfl rfl rfl (c_n_four hI (ar2) (by omega)) rfl hX rfl (fun gi7 gl7 gr7 hI hX hC7 q7 => ?_)
    have q7 : ((gi7 69 10).toInt = (gi5 69 10).toInt + 4) ∧ (∀ j : Nat, gi7 75 j = s_fd (gi5 75) (gi5 69 10).toInt ar2 j) := q7
    obtain ⟨l8, u8⟩ := hI.b (hI.wf.s (k := 69) rfl) (t_bdK rfl : t_bd 11 10 = some (0, 900))
    refine ev_loc f_X12_feed (nx := 26) rfl rfl rfl rfl ?_
    refine ev_loc f_X12_feed (nx := 27) rfl rfl rfl rfl ?_
    refine ev_qN f_X12_feed (nx := 30) (r := []) rfl rfl rfl rfl rfl rfl rfl (c_n_four hI (ar3) (by omega)) rfl hX rfl (fun gi9 gl9 gr9 hI hX hC9 q9 => ?_)
    have q9 : ((gi9 69 10).toInt = (gi7 69 10).toInt + 4) ∧ (∀ j : Nat, gi9 75 j = s_fd (gi7 75) (gi7 69 10).toInt ar3 j) := q9
    obtain ⟨l10, u10⟩ := hI.b (hI.wf.s (k := 69) rfl) (t_bdK rfl : t_bd 11 10 = some (0, 900))
    refine ev_loc f_X12_feed (nx := 31) rfl rfl rfl rfl ?_
    refine ev_loc f_X12_feed (nx := 33) rfl rfl rfl rfl ?_
    refine ev_qN f_X12_feed (nx := 36) (r := []) rfl rfl rfl rfl rfl rfl rfl (c_n_four hI (ar4) (by omega)) rfl hX rfl (fun gi11 gl11 gr11 hI hX hC11 q11 => ?_)
    have q11 : ((gi11 69 10).toInt = (gi9 69 10).toInt + 4) ∧ (∀ j : Nat, gi11 75 j = s_fd (gi9 75) (gi9 69 10).toInt ar4 j) := q11
    obtain ⟨l12, u12⟩ := hI.b (hI.wf.s (k := 69) rfl) (t_bdK rfl : t_bd 11 10 = some (0, 900))
    refine ev_loc f_X12_feed (nx := 37) rfl rfl rfl rfl ?_
    refine ev_loc f_X12_feed (nx := 39) rfl rfl rfl rfl ?_
    refine ev_qN f_X12_feed (nx := 42) (r := []) rfl rfl rfl rfl rfl rfl rfl (c_n_four hI (ar5) (by omega)) rfl hX rfl (fun gi13 gl13 gr13 hI hX hC13 q13 => ?_)
    have q13 : ((gi13 69 10).toInt = (gi11 69 10).toInt + 4) ∧ (∀ j : Nat, gi13 75 j = s_fd (gi11 75) (gi11 69 10).toInt ar5 j) := q13
    obtain ⟨l14, u14⟩ := hI.b (hI.wf.s (k := 69) rfl) (t_bdK rfl : t_bd 11 10 = some (0, 900))
    refine ev_loc f_X12_feed (nx := 43) rfl rfl rfl rfl ?_
    refine ev_gvI f_X12_feed (nx := 46) (w := (gi13 69 10)) rfl (hI.wf.s rfl) rfl rfl rfl rfl ?_
    exact ev_ret f_X12_feed rfl rfl rfl ⟨_, _, _, rfl, hI, hX, ⟨_, rfl, (Int.le_trans (by decide : ((-1):Int) ≤ 0) l14), u14, (show ((gi 69 10).toInt + 20 ≤ 900 → ∀ j : Nat, gi13 75 j = s_f5 (gi 75) (gi 69 10).toInt ar1 ar2 ar3 ar4 ar5 j) ∧ (900 < (gi 69 10).toInt + 20 → ∀ j : Nat, gi13 75 j = gi 75 j) from ⟨fun _ => t_f5 q5.2 q5.1 q7.2 q7.1 q9.2 q9.1 q11.2 q11.1 q13.2, fun h => absurd h (by omega)⟩)⟩⟩
  · have l15 : 901 ≤ z2.toInt := t_ltl (t_nle h3) (by decide : (900:Int) ≤ (900:Int32).toInt) rfl
    refine ev_ic f_X12_feed (nx := 14) (v := -1) rfl (by decide) rfl ?_
    exact ev_ret f_X12_feed rfl rfl rfl ⟨_, _, _, rfl, hI, hX, ⟨_, rfl, (by decide : ((-1):Int) ≤ ((-1):Int32).toInt), (Int.le_trans (by decide : ((-1):Int32).toInt ≤ ((-1):Int)) (by decide : ((-1):Int) ≤ 900)), (show ((gi 69 10).toInt + 20 ≤ 900 → ∀ j : Nat, gi 75 j = s_f5 (gi 75) (gi 69 10).toInt ar1 ar2 ar3 ar4 ar5 j) ∧ (900 < (gi 69 10).toInt + 20 → ∀ j : Nat, gi 75 j = gi 75 j) from ⟨fun h => absurd h (by omega), fun _ j => rfl⟩)⟩⟩
/-! ===== the tapes of both sides, through the law's loop ===== -/
noncomputable def t_TP (gi : Nat → Nat → Int32) : Prop := t_ag (gi 2) (gi 75) (gi 0 5).toInt
noncomputable def t_nc (w : List (Nat × Nat)) (c : Nat) : Bool := w.all (fun q => !(q.1 == c))
section LTP
variable {gi g1 g2 : Nat → Nat → Int32} {gl l1 l2 : Nat → Nat → Int64} {gr r1 r2 : Nat → Nat → Value} {w w1 w2 : List (Nat × Nat)}
theorem t_nc_in {c j : Nat} (h : t_nc w c = true) : t_in w c j = false := by
  unfold t_in
  rw [List.any_eq_false]
  intro q hq hh
  have h1 := List.all_eq_true.mp h q hq
  have h2 := ((Bool.and_eq_true _ _).mp hh).1
  rw [h2] at h1
  cases h1
theorem t_F_nc (f : t_F w gi gl gr g1 l1 r1) {c : Nat} (h : t_nc w c = true) (hc : c < 102) : g1 c = gi c := funext fun j => (f c j hc (t_nc_in h)).1
theorem t_TP_gen (hT : t_TP gi) (f1 : t_F w1 gi gl gr g1 l1 r1) (f2 : t_F w2 g1 l1 r1 g2 l2 r2) (h : (t_nc w1 2 && (t_nc w2 2 && (t_nc w1 75 && t_nc w2 75))) = true) (h5 : g2 0 5 = gi 0 5 ∨ (g2 0 5).toInt = 0) : t_TP g2 := by
  obtain ⟨a1, h⟩ := (Bool.and_eq_true _ _).mp h
  obtain ⟨a2, h⟩ := (Bool.and_eq_true _ _).mp h
  obtain ⟨a3, a4⟩ := (Bool.and_eq_true _ _).mp h
  unfold t_TP
  rw [t_F_nc f2 a2 (by decide), t_F_nc f1 a1 (by decide), t_F_nc f2 a4 (by decide), t_F_nc f1 a3 (by decide)]
  rcases h5 with h5 | h5
  · rw [h5]; exact hT
  · rw [h5]; exact fun j hj => absurd hj (by omega)
theorem t_TP_same (hT : t_TP gi) (f1 : t_F w1 gi gl gr g1 l1 r1) (f2 : t_F w2 g1 l1 r1 g2 l2 r2) (h : (t_nc w1 2 && (t_nc w2 2 && (t_nc w1 75 && t_nc w2 75))) = true) (h1 : t_in w1 0 5 = false) (h2 : t_in w2 0 5 = false) : t_TP g2 :=
  t_TP_gen hT f1 f2 h (Or.inl ((f2 0 5 (by decide) h2).1.trans (f1 0 5 (by decide) h1).1))
theorem t_TP_text (hT : t_TP gi) (f1 : t_F w1 gi gl gr g1 l1 r1) (f2 : t_F w2 g1 l1 r1 g2 l2 r2) (h : (t_nc w1 2 && (t_nc w2 2 && (t_nc w1 75 && t_nc w2 75))) = true) (h2 : t_in w2 0 5 = false) {C : Prop} (q : (C → (g1 0 5).toInt = 0) ∧ (¬ C → g1 0 5 = gi 0 5)) : t_TP g2 := by
  refine t_TP_gen hT f1 f2 h ?_
  rw [(f2 0 5 (by decide) h2).1]
  by_cases hc : C
  · exact Or.inr (q.1 hc)
  · exact Or.inl (q.2 hc)
theorem t_TP_feed {A1 A2 A3 A4 A5 x1 x2 : Int32} (hT : t_TP gi) (hR : t_R gi gr) (f1 : t_F wl_h_feed2 gi gl gr g1 l1 r1) (f2 : t_F wl_m_feed g1 l1 r1 g2 l2 r2) (q1 : ((gi 0 5).toInt + 20 ≤ 900 → x1.toInt = (gi 0 5).toInt + 20 ∧ (g1 0 5).toInt = (gi 0 5).toInt + 20) ∧ (900 < (gi 0 5).toInt + 20 → x1.toInt = -1 ∧ (g1 0 5).toInt = (gi 0 5).toInt)) (qs : Q_s_feed gi gl gr A1 A2 A3 A4 A5 x1 g1 l1 r1) (qn : Q_n_feed g1 l1 r1 A1 A2 A3 A4 A5 x2 g2 l2 r2) : t_TP g2 := by
  have e0 : (gi 0 5).toInt = (gi 69 10).toInt := congrArg Int32.toInt (t_R_fed hR)
  have e1 : (g1 69 10).toInt = (gi 69 10).toInt := congrArg Int32.toInt (f1 69 10 (by decide) rfl).1
  have e2 : (g2 0 5).toInt = (g1 0 5).toInt := congrArg Int32.toInt (f2 0 5 (by decide) rfl).1
  have r2 : g2 2 = g1 2 := t_F_nc f2 rfl (by decide)
  have r75 : g1 75 = gi 75 := t_F_nc f1 rfl (by decide)
  obtain ⟨s1, s2⟩ := qs
  obtain ⟨n1, n2⟩ := qn
  unfold t_TP
  by_cases h : (gi 0 5).toInt + 20 ≤ 900
  · have h1 := (q1.1 h).2
    have a1 : g1 2 = _ := funext (s1 h)
    have a2 : g2 75 = _ := funext (n1 (by omega))
    rw [r2, a1, a2, r75, show (g1 69 10).toInt = (gi 0 5).toInt by omega]
    exact fun j hj => t_ag_20 hT j (by omega)
  · have h1 := (q1.2 (by omega)).2
    have a1 : g1 2 = gi 2 := funext (s2 (by omega))
    have a2 : g2 75 = g1 75 := funext (n2 (by omega))
    rw [r2, a1, a2, r75, e2, h1]
    exact hT
theorem s_ok_D {q q' : Nat} {D D' : s_D} (h : s_ok q D = s_ok q' D') : D = D' := congrArg (fun r : s_R => r.2.2) h
theorem s_ok_bad {b : Nat → Int32} {n p q : Nat} {x : Int} {D D' : s_D} (hx : x ≠ 0) (h : s_ok q D = s_bad b n p x D') : False :=
  s_fk_ne (b := b) (n := n) (p := p) hx (congrArg (fun r : s_R => r.1.1) h).symm
theorem t_L_river {N N2 : Nat} {A x1 x2 : Int32} (hT : t_TP gi) (hR : t_R gi gr) (f1 : t_F w1 gi gl gr g1 l1 r1) (h75 : t_nc w1 75 = true) (h69 : t_in w1 69 10 = false) (q1 : ((0 ≤ A.toInt ∧ A.toInt ≤ (gi 0 5).toInt) → ∀ n : Nat, (n : Int) = A.toInt → t_RES gi gl gr N (gi 2) n x1 g1 l1 r1) ∧ (¬ (0 ≤ A.toInt ∧ A.toInt ≤ (gi 0 5).toInt) → x1.toInt = -1 ∧ (∀ K, K ≠ 0 → g1 K = gi K ∧ l1 K = gl K ∧ r1 K = gr K) ∧ r1 0 6 = gr 0 6 ∧ r1 0 7 = gr 0 7) ∧ (0 ≤ A.toInt ∧ A.toInt ≤ (gi 0 5).toInt → N + 18 ≤ N2)) (q2 : Q_n_river g1 l1 r1 A x2 g2 l2 r2) : x1 = x2 := by
  have e0 : (gi 0 5).toInt = (gi 69 10).toInt := congrArg Int32.toInt (t_R_fed hR)
  have e1 : (g1 69 10).toInt = (gi 69 10).toInt := congrArg Int32.toInt (f1 69 10 (by decide) h69).1
  have r75 : g1 75 = gi 75 := t_F_nc f1 h75 (by decide)
  obtain ⟨m1, m2⟩ := q2
  apply Int32.toInt_inj.mp
  by_cases hin : 0 ≤ A.toInt ∧ A.toInt ≤ (gi 0 5).toInt
  · obtain ⟨n, hn⟩ : ∃ n : Nat, (n : Int) = A.toInt := ⟨A.toInt.toNat, by omega⟩
    have k1 := (q1.1 hin n hn).1
    have k2 := m1 (by omega) (gi 2) n hn (fun j hj => by rw [r75]; exact (hT j (by omega)).1.symm) (fun j hj => (hT j (by omega)).2)
    rcases k1 with ⟨q, D, a1, a2, -⟩ | ⟨p, x, D, a0, a1, a2, -⟩
    · rcases k2 with ⟨q', D', b1, -, b2, -⟩ | ⟨p', x', D', b0, b1, b2, -⟩
      · have hd := s_ok_D (a1.symm.trans b1)
        rw [a2, b2, hd]
      · exact (s_ok_bad b0 (a1.symm.trans b1)).elim
    · rcases k2 with ⟨q', D', b1, -, b2, -⟩ | ⟨p', x', D', b0, b1, b2, -⟩
      · exact (s_ok_bad a0 (b1.symm.trans a1)).elim
      · rw [a2, b2]
  · rw [(q1.2.1 hin).1, (m2 (by omega)).1]
end LTP
noncomputable def t_LT (c : Nat) (sh : List (Nat ⊕ (Nat × Nat))) (gi : Nat → Nat → Int32) (gl : Nat → Nat → Int64) (gr : Nat → Nat → Value) : Prop := t_LR c sh gi gl gr ∧ t_TP gi
theorem W1_TP {sh : List (Nat ⊕ (Nat × Nat))} {gi : Nat → Nat → Int32} {gl : Nat → Nat → Int64} {gr : Nat → Nat → Value} (hR : x_R W1 (sh, gi, gl, gr)) : t_TP gi := by
  have hrd : ∀ {k j : Nat} {c : x_C}, x_gc W1 k = some c → j < 2 ^ x_dp c.1 → gi k j = x_cI c j := fun hc hj => ((x_gc_R hR hc).2.2.2 _ hj).1
  have h : gi 0 5 = 0 := hrd (c := w1_c0) rfl (by decide)
  have h0 : (0 : Int32).toInt = 0 := by decide
  intro j hj
  rw [h] at hj
  omega
/-! ===== the RULES read: what it comes to ===== -/
/-- not, or a bracket that opens -/
noncomputable def s_nst (b : Nat → Int32) (n p : Nat) : Prop := s_W b n p = some 20 ∨ s_isS b n p 40
noncomputable def s_opn (b : Nat → Int32) (n p : Nat) : Prop := s_W b n p = some 15 ∨ s_W b n p = some 16
noncomputable def s_fct (b : Nat → Int32) (n p : Nat) : Prop := s_opn b n p ∨ s_W b n p = some 22 ∨ s_W b n p = some 23 ∨ s_W b n p = some 24 ∨ s_W b n p = some 25 ∨ s_W b n p = some 26
noncomputable def s_cmp (b : Nat → Int32) (n p : Nat) : Prop := s_isS b n p 60 ∨ s_isS b n p 62 ∨ s_isS b n p 61
noncomputable def s_jnd (b : Nat → Int32) (n p : Nat) : Prop := s_W b n p = some 18 ∨ s_W b n p = some 19
/-- a FAULT (0 none), its place; where it goes on, how many CASES -/
noncomputable abbrev s_Q : Type := (Int × Int) × (Nat × Nat)
noncomputable def s_qb (b : Nat → Int32) (n p : Nat) (x : Int) : s_Q := ((s_fk b n p x, ((s_F b n p : Nat) : Int)), (p, 0))
noncomputable def s_qk (p c : Nat) : s_Q := ((0, 0), (p, c))
noncomputable def s_pop : List Int → List Int
  | [] => []
  | x :: T => if x = 20 then s_pop T else x :: T
noncomputable def s_brk (b : Nat → Int32) (n p : Nat) : Int := s_if (s_isS b n p 40) 40 20
/-- one CASE that compares -/
noncomputable def s_cse (b : Nat → Int32) (n p : Nat) (k : Nat → s_Q) : s_Q := s_if (s_opn b n p) (k (s_E b n p)) (s_if (s_cmp b n (s_E b n p)) (s_if (s_K b n (s_E b n (s_E b n p)) = 3) (s_if (s_isV b n (s_E b n (s_E b n p)) 0 300) (k (s_E b n (s_E b n (s_E b n p)))) (s_qb b n (s_E b n (s_E b n p)) 4)) (s_qb b n (s_E b n (s_E b n p)) 2)) (s_qb b n (s_E b n p) 2))
/-- false: one is asked for; true: behind one -/
noncomputable def s_cnd (b : Nat → Int32) (n : Nat) : Nat → Bool → Nat → Nat → List Int → s_Q
  | 0, _, p, c, _ => s_qk p c
  | m + 1, false, p, c, T => s_if (s_nst b n p) (s_if (T.length = 6) (s_qb b n p 7) (s_cnd b n m false (s_E b n p) c (s_brk b n p :: T))) (s_if (s_fct b n p) (s_if (24 ≤ c) (s_qb b n p 6) (s_if (T.length = 6) (s_qb b n p 7) (s_cse b n p fun p2 => s_cnd b n m true p2 (c + 1) (s_pop T)))) (s_qb b n p 2))
  | m + 1, true, p, c, T => s_if (s_isS b n p 41 ∧ T ≠ []) (s_cnd b n m true (s_E b n p) c (s_pop T.tail)) (s_if (s_jnd b n p) (s_cnd b n m false (s_E b n p) c T) (s_if (T ≠ []) (s_qb b n p 2) (s_qk p c)))
noncomputable def s_Cnd (b : Nat → Int32) (n : Nat) (a : Bool) (p c : Nat) (T : List Int) : s_Q := s_cnd b n (n + 1 - p) a p c T
section RUL
variable {b : Nat → Int32} {n p : Nat}
theorem s_E_gt (hk : s_K b n p ≠ 0) : p < s_E b n p ∧ s_E b n p ≤ n := by
  have hF : ¬ n ≤ s_F b n p := fun h => hk (by unfold s_K; rw [if_pos h])
  have h1 : p ≤ s_F b n p := s_rn_b.1
  have h2 := s_E_b (b := b) (n := n) (p := p) (by omega)
  refine ⟨?_, h2.2⟩
  unfold s_E
  rw [if_neg hF]
  split
  · rename_i h; have := s_rn_lt (n := n) (by omega) h; omega
  split
  · rename_i h; have := s_rn_lt (n := n) (by omega) h; omega
  · omega
theorem s_W_K {i : Nat} (h : s_W b n p = some i) : s_K b n p = 2 := by
  unfold s_W at h
  split at h
  · rename_i hh; exact hh.1
  · cases h
theorem s_W_gt {i : Nat} (h : s_W b n p = some i) : p < s_E b n p ∧ s_E b n p ≤ n := s_E_gt (by rw [s_W_K h]; decide)
theorem s_isS_gt {c : Int} (h : s_isS b n p c) : p < s_E b n p ∧ s_E b n p ≤ n := s_E_gt (by rw [h.1]; decide)
theorem s_nst_gt (h : s_nst b n p) : p < s_E b n p ∧ s_E b n p ≤ n := h.elim s_W_gt s_isS_gt
theorem s_opn_gt (h : s_opn b n p) : p < s_E b n p ∧ s_E b n p ≤ n := h.elim s_W_gt s_W_gt
theorem s_fct_gt (h : s_fct b n p) : p < s_E b n p ∧ s_E b n p ≤ n := by
  rcases h with h | h | h | h | h | h
  · exact s_opn_gt h
  · exact s_W_gt h
  · exact s_W_gt h
  · exact s_W_gt h
  · exact s_W_gt h
  · exact s_W_gt h
theorem s_cmp_gt (h : s_cmp b n p) : p < s_E b n p ∧ s_E b n p ≤ n := by
  rcases h with h | h | h
  · exact s_isS_gt h
  · exact s_isS_gt h
  · exact s_isS_gt h
theorem s_jnd_gt (h : s_jnd b n p) : p < s_E b n p ∧ s_E b n p ≤ n := h.elim s_W_gt s_W_gt
theorem s_if_c {α : Type} {c : Prop} {x y x' y' : α} (h1 : c → x = x') (h2 : ¬ c → y = y') : s_if c x y = s_if c x' y' := by
  by_cases h : c
  · rw [s_ifT h, s_ifT h, h1 h]
  · rw [s_ifF h, s_ifF h, h2 h]
theorem s_cse_c {k k' : Nat → s_Q} (hf : s_fct b n p) (h : ∀ q, p < q → q ≤ n → k q = k' q) : s_cse b n p k = s_cse b n p k' := by
  have h1 := s_fct_gt hf
  unfold s_cse
  refine s_if_c (fun _ => h _ h1.1 h1.2) (fun _ => s_if_c (fun hc => s_if_c (fun hk => s_if_c (fun _ => ?_) (fun _ => rfl)) (fun _ => rfl)) (fun _ => rfl))
  have h2 := s_cmp_gt hc
  have h3 := s_E_gt (b := b) (n := n) (p := s_E b n (s_E b n p)) (by rw [hk]; decide)
  exact h _ (by omega) h3.2
/-- enough is enough -/
theorem s_cnd_m : ∀ (m m' : Nat) (a : Bool) (p c : Nat) (T : List Int), p ≤ n → n + 1 - p ≤ m → n + 1 - p ≤ m' → s_cnd b n m a p c T = s_cnd b n m' a p c T
  | 0, _, _, p, _, _, hp, h1, _ => by omega
  | _ + 1, 0, _, p, _, _, hp, _, h2 => by omega
  | m + 1, m' + 1, false, p, c, T, hp, h1, h2 => by
    unfold s_cnd
    refine s_if_c (fun h => s_if_c (fun _ => rfl) (fun _ => ?_)) (fun _ => s_if_c (fun hf => s_if_c (fun _ => rfl) (fun _ => s_if_c (fun _ => rfl) (fun _ => s_cse_c hf fun q q1 q2 => ?_))) (fun _ => rfl))
    · have := s_nst_gt h; exact s_cnd_m m m' _ _ _ _ this.2 (by omega) (by omega)
    · exact s_cnd_m m m' _ _ _ _ q2 (by omega) (by omega)
  | m + 1, m' + 1, true, p, c, T, hp, h1, h2 => by
    unfold s_cnd
    refine s_if_c (fun h => ?_) (fun _ => s_if_c (fun h => ?_) (fun _ => rfl))
    · have := s_isS_gt h.1; exact s_cnd_m m m' _ _ _ _ this.2 (by omega) (by omega)
    · have := s_jnd_gt h; exact s_cnd_m m m' _ _ _ _ this.2 (by omega) (by omega)
theorem s_cnd_f {m c : Nat} {T : List Int} : s_cnd b n (m + 1) false p c T = s_if (s_nst b n p) (s_if (T.length = 6) (s_qb b n p 7) (s_cnd b n m false (s_E b n p) c (s_brk b n p :: T))) (s_if (s_fct b n p) (s_if (24 ≤ c) (s_qb b n p 6) (s_if (T.length = 6) (s_qb b n p 7) (s_cse b n p fun p2 => s_cnd b n m true p2 (c + 1) (s_pop T)))) (s_qb b n p 2)) := rfl
theorem s_cnd_t {m c : Nat} {T : List Int} : s_cnd b n (m + 1) true p c T = s_if (s_isS b n p 41 ∧ T ≠ []) (s_cnd b n m true (s_E b n p) c (s_pop T.tail)) (s_if (s_jnd b n p) (s_cnd b n m false (s_E b n p) c T) (s_if (T ≠ []) (s_qb b n p 2) (s_qk p c))) := rfl
theorem s_Cnd_1 {c : Nat} {T : List Int} (hp : p ≤ n) : s_Cnd b n false p c T = s_if (s_nst b n p) (s_if (T.length = 6) (s_qb b n p 7) (s_Cnd b n false (s_E b n p) c (s_brk b n p :: T))) (s_if (s_fct b n p) (s_if (24 ≤ c) (s_qb b n p 6) (s_if (T.length = 6) (s_qb b n p 7) (s_cse b n p fun p2 => s_Cnd b n true p2 (c + 1) (s_pop T)))) (s_qb b n p 2)) := by
  unfold s_Cnd
  rw [show n + 1 - p = (n - p) + 1 by omega]
  refine s_cnd_f.trans (s_if_c (fun h => s_if_c (fun _ => rfl) (fun _ => ?_)) (fun _ => s_if_c (fun hf => s_if_c (fun _ => rfl) (fun _ => s_if_c (fun _ => rfl) (fun _ => s_cse_c hf fun q q1 q2 => ?_))) (fun _ => rfl)))
  · have := s_nst_gt h; exact s_cnd_m (n - p) _ _ _ _ _ this.2 (by omega) (Nat.le_refl _)
  · exact s_cnd_m (n - p) _ _ _ _ _ q2 (by omega) (Nat.le_refl _)
theorem s_Cnd_2 {c : Nat} {T : List Int} (hp : p ≤ n) : s_Cnd b n true p c T = s_if (s_isS b n p 41 ∧ T ≠ []) (s_Cnd b n true (s_E b n p) c (s_pop T.tail)) (s_if (s_jnd b n p) (s_Cnd b n false (s_E b n p) c T) (s_if (T ≠ []) (s_qb b n p 2) (s_qk p c))) := by
  unfold s_Cnd
  rw [show n + 1 - p = (n - p) + 1 by omega]
  refine s_cnd_t.trans (s_if_c (fun h => ?_) (fun _ => s_if_c (fun h => ?_) (fun _ => rfl)))
  · have := s_isS_gt h.1; exact s_cnd_m (n - p) _ _ _ _ _ this.2 (by omega) (Nat.le_refl _)
  · have := s_jnd_gt h; exact s_cnd_m (n - p) _ _ _ _ _ this.2 (by omega) (Nat.le_refl _)
end RUL
/-- behind the CONDITIONS: do, what, and a sign -/
noncomputable def s_act (b : Nat → Int32) (n p : Nat) (k : Nat → (Int × Int) × Nat) : (Int × Int) × Nat := s_if (s_W b n p = some 14) (s_if (s_W b n (s_E b n p) = some 15 ∨ s_W b n (s_E b n p) = some 16 ∨ s_W b n (s_E b n p) = some 17) (s_if (s_isS b n (s_E b n (s_E b n p)) 59) (k (s_E b n (s_E b n (s_E b n p)))) ((s_qb b n (s_E b n (s_E b n p)) 2).1, 0)) ((s_qb b n (s_E b n p) 2).1, 0)) ((s_qb b n p 2).1, 0)
/-- the RULES from p on, with c CASES and r RULES so far: a FAULT, its place, or how many -/
noncomputable def s_rls (b : Nat → Int32) (n : Nat) : Nat → Nat → Nat → Nat → (Int × Int) × Nat
  | 0, _, _, r => ((0, 0), r)
  | m + 1, p, c, r => s_if (s_K b n p = 0) ((0, 0), r) (s_if (s_W b n p = some 13) (s_if (r = 12) ((s_qb b n p 6).1, 0) (s_if ((s_Cnd b n false (s_E b n p) c []).1.1 = 0) (s_act b n (s_Cnd b n false (s_E b n p) c []).2.1 fun p2 => s_rls b n m p2 (s_Cnd b n false (s_E b n p) c []).2.2 (r + 1)) ((s_Cnd b n false (s_E b n p) c []).1, 0))) ((s_qb b n p 2).1, 0))
section RLS
variable {b : Nat → Int32} {n q p q2 c c2 r m : Nat} {x : Int} {k : Nat → (Int × Int) × Nat}
theorem s_rls_e (hK : s_K b n q = 0) : s_rls b n (m + 1) q c r = ((0, 0), r) := by
  unfold s_rls; rw [s_ifT hK]
theorem s_rls_i (hK : s_K b n q ≠ 0) (hW : s_W b n q ≠ some 13) : s_rls b n (m + 1) q c r = ((s_qb b n q 2).1, 0) := by
  unfold s_rls; rw [s_ifF hK, s_ifF hW]
theorem s_rls_m (hK : s_K b n q ≠ 0) (hW : s_W b n q = some 13) (hr : r = 12) : s_rls b n (m + 1) q c r = ((s_qb b n q 6).1, 0) := by
  unfold s_rls; rw [s_ifF hK, s_ifT hW, s_ifT hr]
theorem s_rls_c (hK : s_K b n q ≠ 0) (hW : s_W b n q = some 13) (hr : r ≠ 12) (hC : s_Cnd b n false (s_E b n q) c [] = s_qb b n p x) (hx : x ≠ 0) : s_rls b n (m + 1) q c r = ((s_qb b n p x).1, 0) := by
  unfold s_rls; rw [s_ifF hK, s_ifT hW, s_ifF hr, hC]; exact s_ifF (s_fk_ne (b := b) (n := n) (p := p) hx)
theorem s_rls_k (hK : s_K b n q ≠ 0) (hW : s_W b n q = some 13) (hr : r ≠ 12) (hC : s_Cnd b n false (s_E b n q) c [] = s_qk q2 c2) : s_rls b n (m + 1) q c r = s_act b n q2 fun p2 => s_rls b n m p2 c2 (r + 1) := by
  show s_if _ _ _ = _
  rw [s_ifF hK, s_ifT hW, s_ifF hr, hC, s_ifT (show (s_qk q2 c2).1.1 = 0 from rfl)]; rfl
theorem s_act_d (h : s_W b n p ≠ some 14) : s_act b n p k = ((s_qb b n p 2).1, 0) := s_ifF h
theorem s_act_a (h : s_W b n p = some 14) (ha : ¬ (s_W b n (s_E b n p) = some 15 ∨ s_W b n (s_E b n p) = some 16 ∨ s_W b n (s_E b n p) = some 17)) : s_act b n p k = ((s_qb b n (s_E b n p) 2).1, 0) := (s_ifT h).trans (s_ifF ha)
theorem s_act_s (h : s_W b n p = some 14) (ha : s_W b n (s_E b n p) = some 15 ∨ s_W b n (s_E b n p) = some 16 ∨ s_W b n (s_E b n p) = some 17) (hs : ¬ s_isS b n (s_E b n (s_E b n p)) 59) : s_act b n p k = ((s_qb b n (s_E b n (s_E b n p)) 2).1, 0) := (s_ifT h).trans ((s_ifT ha).trans (s_ifF hs))
theorem s_act_k (h : s_W b n p = some 14) (ha : s_W b n (s_E b n p) = some 15 ∨ s_W b n (s_E b n p) = some 16 ∨ s_W b n (s_E b n p) = some 17) (hs : s_isS b n (s_E b n (s_E b n p)) 59) : s_act b n p k = k (s_E b n (s_E b n (s_E b n p))) := (s_ifT h).trans ((s_ifT ha).trans (s_ifT hs))
end RLS
/-! ===== the class's reader of RULES: what stands in its cells ===== -/
noncomputable def t_UQ (sh : List (Nat ⊕ (Nat × Nat))) (gr : Nat → Nat → Value) (k : Nat) : Prop := sh[k]? = some (.inl 7) ∧ 102 ≤ k ∧ (gr k 0 = .ref (k + 1) ∧ t_Tk sh gr (k + 1)) ∧ gr k 1 = .ref (k + 2) ∧ t_Ru sh gr (k + 2)
theorem t_UQ.ext {sh : List (Nat ⊕ (Nat × Nat))} {gr gr' : Nat → Nat → Value} {k : Nat} (h : t_UQ sh gr k) (he : t_eqf sh gr gr') : t_UQ sh gr' k := by
  obtain ⟨h0, h1, h2, h3, h4⟩ := h
  exact ⟨h0, h1, ⟨by rw [he k 7 0 h0 rfl]; exact h2.1, h2.2.ext he⟩, by rw [he k 7 1 h0 rfl]; exact h3, h4.ext he⟩
noncomputable def t_US (b : Nat → Int32) (n q c : Nat) (gi : Nat → Nat → Int32) (gl : Nat → Nat → Int64) (gr : Nat → Nat → Value) (r : Nat) : Prop := t_TC b n q gi gl gr (r + 1) ∧ (n ≤ 300 ∧ (gi r 2).toInt = (c : Int)) ∧ t_FL gi (r + 1) 0 (-1)
section USL
variable {b : Nat → Int32} {n p q q' c r : Nat} {T : List Int} {gi g1 : Nat → Nat → Int32} {gl l1 : Nat → Nat → Int64} {gr r1 : Nat → Nat → Value} {S : List Nat}
theorem t_US.on (h : t_US b n q c gi gl gr r) (ht : t_TC b n q' g1 l1 r1 (r + 1)) (hf : t_nf gi g1 (r + 1)) (ho : t_on (r + 1) gi gl gr g1 l1 r1) : t_US b n q' c g1 l1 r1 r :=
  ⟨ht, ⟨h.2.1.1, by rw [(ho r (by omega)).1]; exact h.2.1.2⟩, by rw [hf.1]; exact h.2.2.1, by rw [hf.2]; exact h.2.2.2⟩
theorem t_US.xc (h : t_US b n q c gi gl gr r) (f : t_xc S gi gl gr g1 l1 r1) (h1 : ∀ x, x ∈ S → r ≠ x ∧ r + 1 ≠ x ∧ 2 ≠ x) : t_US b n q c g1 l1 r1 r := by
  have f0 := f r (fun x hx => (h1 x hx).1)
  have f1 := f (r + 1) (fun x hx => (h1 x hx).2.1)
  have f2 := f 2 (fun x hx => (h1 x hx).2.2)
  exact ⟨h.1.eq f2.1 f1.1 f1.2.1 f1.2.2, ⟨h.2.1.1, by rw [f0.1]; exact h.2.1.2⟩, by rw [f1.1]; exact h.2.2.1, by rw [f1.1]; exact h.2.2.2⟩
theorem t_US.qn (h : t_US b n q c gi gl gr r) : q ≤ n := h.1.1.2.2
/-- a CASE more -/
theorem t_US.c1 (h : t_US b n q c gi gl gr r) {j : Nat} {z : Int32} (hj : j = 2) (hr : 102 ≤ r) (hz : z.toInt = (c : Int) + 1) (e : g1 = x_up2 gi r j z) : t_US b n q (c + 1) g1 gl gr r := by
  subst hj e
  refine ⟨h.1.eq (x_up2_ne (by omega)) (x_up2_ne (by omega)) rfl rfl, ⟨h.2.1.1, ?_⟩, ?_, ?_⟩
  · rw [x_up2_at, hz]; omega
  · rw [x_up2_ne (by omega)]; exact h.2.2.1
  · rw [x_up2_ne (by omega)]; exact h.2.2.2
theorem s_no41 (h : s_jnd b n p) : ¬ s_isS b n p 41 := fun hh => by
  have h1 := hh.1
  rcases h with h | h <;> (rw [s_W_K h] at h1; cases h1)
theorem s_Cnd_j (hp : p ≤ n) (h : s_jnd b n p) : s_Cnd b n true p c T = s_Cnd b n false (s_E b n p) c T := by
  rw [s_Cnd_2 hp, s_ifF (fun hh => s_no41 h hh.1), s_ifT h]
theorem s_Cnd_c (hp : p ≤ n) (h : s_isS b n p 41) : s_Cnd b n true p c (40 :: T) = s_Cnd b n true (s_E b n p) c (s_pop T) := by
  rw [s_Cnd_2 hp, s_ifT ⟨h, List.cons_ne_nil _ _⟩]; rfl
theorem s_Cnd_x (hp : p ≤ n) (h1 : ¬ s_isS b n p 41) (h2 : ¬ s_jnd b n p) : s_Cnd b n true p c (40 :: T) = s_qb b n p 2 := by
  rw [s_Cnd_2 hp, s_ifF (fun hh => h1 hh.1), s_ifF h2, s_ifT (List.cons_ne_nil _ _)]
theorem s_Cnd_e (hp : p ≤ n) (h2 : ¬ s_jnd b n p) : s_Cnd b n true p c [] = s_qk p c := by
  rw [s_Cnd_2 hp, s_ifF (fun hh => hh.2 rfl), s_ifF h2, s_ifF (fun hh => hh rfl)]
theorem s_pop20 : s_pop (20 :: T) = s_pop T := if_pos rfl
theorem s_pop40 : s_pop (40 :: T) = 40 :: T := if_neg (by decide)
theorem s_brk40 (h : s_isS b n p 40) : s_brk b n p = 40 := s_ifT h
theorem s_brk20 (h : s_W b n p = some 20) : s_brk b n p = 20 := s_ifF (fun hh => by have h1 := hh.1; rw [s_W_K h] at h1; cases h1)
/-- one that nests -/
theorem s_Cnd_n (hp : p ≤ n) (h : s_nst b n p) (hT : T.length ≠ 6) : s_Cnd b n false p c T = s_Cnd b n false (s_E b n p) c (s_brk b n p :: T) := by
  rw [s_Cnd_1 hp, s_ifT h, s_ifF hT]
theorem s_Cnd_n6 (hp : p ≤ n) (h : s_nst b n p) (hT : T.length = 6) : s_Cnd b n false p c T = s_qb b n p 7 := by
  rw [s_Cnd_1 hp, s_ifT h, s_ifT hT]
theorem s_Cnd_f (hp : p ≤ n) (h : ¬ s_nst b n p) (hf : ¬ s_fct b n p) : s_Cnd b n false p c T = s_qb b n p 2 := by
  rw [s_Cnd_1 hp, s_ifF h, s_ifF hf]
theorem s_Cnd_m (hp : p ≤ n) (h : ¬ s_nst b n p) (hf : s_fct b n p) (hc : 24 ≤ c) : s_Cnd b n false p c T = s_qb b n p 6 := by
  rw [s_Cnd_1 hp, s_ifF h, s_ifT hf, s_ifT hc]
theorem s_Cnd_d (hp : p ≤ n) (h : ¬ s_nst b n p) (hf : s_fct b n p) (hc : ¬ 24 ≤ c) (hT : T.length = 6) : s_Cnd b n false p c T = s_qb b n p 7 := by
  rw [s_Cnd_1 hp, s_ifF h, s_ifT hf, s_ifF hc, s_ifT hT]
theorem s_Cnd_s (hp : p ≤ n) (h : ¬ s_nst b n p) (hf : s_fct b n p) (hc : ¬ 24 ≤ c) (hT : T.length ≠ 6) : s_Cnd b n false p c T = s_cse b n p fun p2 => s_Cnd b n true p2 (c + 1) (s_pop T) := by
  rw [s_Cnd_1 hp, s_ifF h, s_ifT hf, s_ifF hc, s_ifF hT]
end USL
theorem t_cdO {sh : List (Nat ⊕ (Nat × Nat))} {k : Nat} {s : Nat ⊕ (Nat × Nat)} (h : sh[k]? = some s) (h102 : 102 ≤ k) : t_cd sh k = t_cs s := by
  unfold t_cd
  rw [if_neg (by omega), h]
/-! ===== printed by riv.py: the RULES of the class ===== -/
noncomputable def wl_u_addStep : List (Nat × Nat) := [(116, 3), (130, 9999)]
noncomputable def Q_u_addStep (gi : Nat → Nat → Int32) (gl : Nat → Nat → Int64) (gr : Nat → Nat → Value) (ar0 : Nat) (ar1 : Int32) (ar2 : Int32) (ar3 : Int32) : (Nat → Nat → Int32) → (Nat → Nat → Int64) → (Nat → Nat → Value) → Prop := fun (gi2 : Nat → Nat → Int32) (gl2 : Nat → Nat → Int64) (gr2 : Nat → Nat → Value) => t_xc [ar0, ar0 + 3, ar0 + 4, ar0 + 5] gi gl gr gi2 gl2 gr2 ∧ gi2 ar0 0 = gi ar0 0
theorem c_u_addStep {X : x_Ext} {d : Nat} {sh : List (Nat ⊕ (Nat × Nat))} {gi : Nat → Nat → Int32} {gl : Nat → Nat → Int64} {gr : Nat → Nat → Value} (hI : t_I sh gi gr) (ar0 : Nat) (p_a0 : t_Ru sh gr ar0) (ar1 : Int32) (ar2 : Int32) (ar3 : Int32) : x_Me X (d + 1) n_X7_addStep [.ref ar0, .int ar1, .int ar2, .int ar3] (sh, gi, gl, gr) (t_PN wl_u_addStep sh gi gl gr (Q_u_addStep gi gl gr ar0 ar1 ar2 ar3)) := by
  have hX : t_X wl_u_addStep sh gi gl gr gi gl gr := t_X.rf
  refine me_i f_X7_addStep p_a0.1 rfl rfl rfl ?_
  refine ev_loc f_X7_addStep (nx := 1) rfl rfl rfl rfl ?_
  obtain ⟨hk1, d1, r1_1, r2_1, s1_1, s2_1, n1, hn1, r4_1, r5_1, r6_1, s4_1, s5_1, s6_1⟩ := id p_a0
  have q2 := hI.2.2.2.2.1 ar0 n1 p_a0 s4_1
  refine ev_getI f_X7_addStep (nx := 4) rfl p_a0.1 rfl rfl rfl ?_
  obtain ⟨l3, u3⟩ := hI.b p_a0.1 (t_bdK rfl : t_bd 6 3 = some (0, 300))
  refine ev_loc f_X7_addStep (nx := 5) rfl rfl rfl rfl ?_
  refine ev_getR f_X7_addStep (nx := 8) (v := .ref (ar0 + 3)) rfl p_a0.1 rfl rfl r4_1 rfl rfl ?_
  obtain ⟨l4, u4⟩ := t_lenb hn1
  refine ev_alen f_X7_addStep (nx := 9) rfl s4_1 rfl rfl ?_
  refine ev_if f_X7_addStep (t1 := 52) (t2 := 12) rfl rfl rfl (fun h5 => ?_) (fun h5 => ?_)
  · have r6 : (Int32.ofNat n1).toInt ≤ (gi ar0 3).toInt := Int32.le_iff_toInt_le.mp h5
    exact ev_ret f_X7_addStep rfl rfl rfl ⟨_, _, _, rfl, hI, hX, ⟨rfl, (show t_xc [ar0, ar0 + 3, ar0 + 4, ar0 + 5] gi gl gr gi gl gr ∧ gi ar0 0 = gi ar0 0 from ⟨t_xc.rf, rfl⟩)⟩⟩
  · have r7 : (gi ar0 3).toInt < (Int32.ofNat n1).toInt := Int32.lt_iff_toInt_lt.mp (t_nle h5)
    have u8 : (gi ar0 3).toInt ≤ 299 := t_ltu (t_nle h5) u4 rfl
    have l9 : 1 ≤ (Int32.ofNat n1).toInt := t_ltl (t_nle h5) l3 rfl
    refine ev_loc f_X7_addStep (nx := 13) rfl rfl rfl rfl ?_
    refine ev_getR f_X7_addStep (nx := 16) (v := .ref (ar0 + 3)) rfl p_a0.1 rfl rfl r4_1 rfl rfl ?_
    refine ev_loc f_X7_addStep (nx := 17) rfl rfl rfl rfl ?_
    refine ev_gvI f_X7_addStep (nx := 20) (w := (gi ar0 3)) rfl p_a0.1 rfl rfl rfl rfl ?_
    refine ev_loc f_X7_addStep (nx := 21) rfl rfl rfl rfl ?_
    refine ev_iastS f_X7_addStep (nx := 22) rfl s4_1 (t_ixs l3 (t_lenlt (t_nle h5) hn1)) rfl (hI.astD s4_1 (by omega) (fun k hk e => absurd e (t_Ru.ne p_a0 hk (by decide)))) (hX.upI (t_inOD s4_1 (by omega) rfl)) (fun g10 e10 hI hX => ?_)
    refine ev_loc f_X7_addStep (nx := 23) rfl rfl rfl rfl ?_
    refine ev_getR f_X7_addStep (nx := 26) (v := .ref (ar0 + 4)) rfl p_a0.1 rfl rfl r5_1 rfl rfl ?_
    refine ev_loc f_X7_addStep (nx := 27) rfl rfl rfl rfl ?_
    refine ev_gvI f_X7_addStep (nx := 30) (w := (gi ar0 3)) rfl p_a0.1 rfl rfl ((by rw [e10]; exact x_up2_off (Or.inl (t_noobj s4_1 p_a0.1)) : g10 ar0 3 = gi ar0 3).trans rfl) rfl ?_
    refine ev_loc f_X7_addStep (nx := 31) rfl rfl rfl rfl ?_
    refine ev_iastS f_X7_addStep (nx := 32) rfl s5_1 (t_ixs l3 (t_lenlt (t_nle h5) hn1)) rfl (hI.astD s5_1 (by omega) (fun k hk e => absurd e (t_Ru.ne p_a0 hk (by decide)))) (hX.upI (t_inOD s5_1 (by omega) rfl)) (fun g11 e11 hI hX => ?_)
    refine ev_loc f_X7_addStep (nx := 33) rfl rfl rfl rfl ?_
    refine ev_getR f_X7_addStep (nx := 36) (v := .ref (ar0 + 5)) rfl p_a0.1 rfl rfl r6_1 rfl rfl ?_
    refine ev_loc f_X7_addStep (nx := 37) rfl rfl rfl rfl ?_
    refine ev_gvI f_X7_addStep (nx := 40) (w := (gi ar0 3)) rfl p_a0.1 rfl rfl ((by rw [e11]; exact x_up2_off (Or.inl (t_noobj s5_1 p_a0.1)) : g11 ar0 3 = g10 ar0 3).trans ((by rw [e10]; exact x_up2_off (Or.inl (t_noobj s4_1 p_a0.1)) : g10 ar0 3 = gi ar0 3).trans rfl)) rfl ?_
    refine ev_loc f_X7_addStep (nx := 41) rfl rfl rfl rfl ?_
    refine ev_iastS f_X7_addStep (nx := 42) rfl s6_1 (t_ixs l3 (t_lenlt (t_nle h5) hn1)) rfl (hI.astD s6_1 (by omega) (fun k hk e => absurd e (t_Ru.ne p_a0 hk (by decide)))) (hX.upI (t_inOD s6_1 (by omega) rfl)) (fun g12 e12 hI hX => ?_)
    refine ev_loc f_X7_addStep (nx := 43) rfl rfl rfl rfl ?_
    refine ev_alu f_X7_addStep (nx := 44) rfl rfl rfl rfl ?_
    refine ev_gvI f_X7_addStep (nx := 47) (w := (gi ar0 3)) rfl p_a0.1 rfl rfl ((by rw [e12]; exact x_up2_off (Or.inl (t_noobj s6_1 p_a0.1)) : g12 ar0 3 = g11 ar0 3).trans ((by rw [e11]; exact x_up2_off (Or.inl (t_noobj s5_1 p_a0.1)) : g11 ar0 3 = g10 ar0 3).trans ((by rw [e10]; exact x_up2_off (Or.inl (t_noobj s4_1 p_a0.1)) : g10 ar0 3 = gi ar0 3).trans rfl))) rfl ?_
    refine ev_ic f_X7_addStep (nx := 48) (v := 1) rfl (by decide) rfl ?_
    refine ev_addC f_X7_addStep (nx := 49) (c := 1) (l := 1) (u := 300) rfl (by decide) l3 u8 rfl rfl (by decide) (by decide) rfl (fun z13 e13 l13 u13 => ?_)
    have q14 := t_lenlt (t_nle h5) hn1
    refine ev_putIT f_X7_addStep (nx := 52) rfl p_a0.1 rfl rfl rfl (hI.putG p_a0.1 (fun lo hi e => by have e : some ((0 : Int), (300 : Int)) = some (lo, hi) := e; have := hn1; cases e; exact ⟨by omega, by omega⟩) (fun _ _ n2 hn2 => by rw [s4_1] at hn2; cases hn2; omega)) (hX.upI (t_inO hI.wf p_a0.1 (t_outO hI.wf p_a0.1 rfl) rfl)) (fun g14 e14 hI hX => ?_)
    exact ev_ret f_X7_addStep rfl rfl rfl ⟨_, _, _, rfl, hI, hX, ⟨rfl, (show t_xc [ar0, ar0 + 3, ar0 + 4, ar0 + 5] gi gl gr g14 gl gr ∧ g14 ar0 0 = gi ar0 0 from ⟨(t_xc.I (t_xc.I (t_xc.I (t_xc.I t_xc.rf (by simp) e10) (by simp) e11) (by simp) e12) (by simp) e14), by rw [e14, x_up2_off (Or.inr (by decide)), e12, x_up2_ne (by omega), e11, x_up2_ne (by omega), e10, x_up2_ne (by omega)]⟩)⟩⟩
noncomputable def wl_u_endRule : List (Nat × Nat) := [(116, 0), (130, 9999)]
noncomputable def Q_u_endRule (gi : Nat → Nat → Int32) (gl : Nat → Nat → Int64) (gr : Nat → Nat → Value) (ar0 : Nat) (ar1 : Int32) : (Nat → Nat → Int32) → (Nat → Nat → Int64) → (Nat → Nat → Value) → Prop := fun (gi2 : Nat → Nat → Int32) (gl2 : Nat → Nat → Int64) (gr2 : Nat → Nat → Value) => ((gi ar0 0).toInt < 12 → (gi2 ar0 0).toInt = (gi ar0 0).toInt + 1) ∧ t_xc [ar0, ar0 + 1, ar0 + 2] gi gl gr gi2 gl2 gr2
theorem c_u_endRule {X : x_Ext} {d : Nat} {sh : List (Nat ⊕ (Nat × Nat))} {gi : Nat → Nat → Int32} {gl : Nat → Nat → Int64} {gr : Nat → Nat → Value} (hI : t_I sh gi gr) (ar0 : Nat) (p_a0 : t_Ru sh gr ar0) (ar1 : Int32) : x_Me X (d + 1) n_X7_endRule [.ref ar0, .int ar1] (sh, gi, gl, gr) (t_PN wl_u_endRule sh gi gl gr (Q_u_endRule gi gl gr ar0 ar1)) := by
  have hX : t_X wl_u_endRule sh gi gl gr gi gl gr := t_X.rf
  refine me_i f_X7_endRule p_a0.1 rfl rfl rfl ?_
  refine ev_loc f_X7_endRule (nx := 1) rfl rfl rfl rfl ?_
  refine ev_getI f_X7_endRule (nx := 4) rfl p_a0.1 rfl rfl rfl ?_
  obtain ⟨l1, u1⟩ := hI.b p_a0.1 (t_bdK rfl : t_bd 6 0 = some (0, 12))
  refine ev_bp f_X7_endRule (nx := 6) (v := 12) rfl (by decide) rfl ?_
  refine ev_if f_X7_endRule (t1 := 42) (t2 := 9) rfl rfl rfl (fun h2 => ?_) (fun h2 => ?_)
  · have l3 : 12 ≤ (gi ar0 0).toInt := t_lel h2 (by decide : (12:Int) ≤ (12:Int32).toInt)
    exact ev_ret f_X7_endRule rfl rfl rfl ⟨_, _, _, rfl, hI, hX, ⟨rfl, (show ((gi ar0 0).toInt < 12 → (gi ar0 0).toInt = (gi ar0 0).toInt + 1) ∧ t_xc [ar0, ar0 + 1, ar0 + 2] gi gl gr gi gl gr from ⟨fun h => absurd h (by omega), t_xc.rf⟩)⟩⟩
  · have u4 : (gi ar0 0).toInt ≤ 11 := t_ltu (t_nle h2) (by decide : (12:Int32).toInt ≤ (12:Int)) rfl
    refine ev_loc f_X7_endRule (nx := 10) rfl rfl rfl rfl ?_
    obtain ⟨hk6, d6, r1_6, r2_6, s1_6, s2_6, n6, hn6, r4_6, r5_6, r6_6, s4_6, s5_6, s6_6⟩ := id p_a0
    refine ev_getR f_X7_endRule (nx := 13) (v := .ref (ar0 + 1)) rfl p_a0.1 rfl rfl r1_6 rfl rfl ?_
    refine ev_loc f_X7_endRule (nx := 14) rfl rfl rfl rfl ?_
    refine ev_gvI f_X7_endRule (nx := 17) (w := (gi ar0 0)) rfl p_a0.1 rfl rfl rfl rfl ?_
    refine ev_loc f_X7_endRule (nx := 18) rfl rfl rfl rfl ?_
    refine ev_iastT f_X7_endRule (nx := 19) rfl s1_6 l1 (by decide) u4 (by decide) rfl (hI.astD s1_6 (by omega) (fun k hk e => absurd e (t_Ru.ne p_a0 hk (by decide)))) (hX.upI (t_inOA hI.wf s1_6 (Or.inr (by omega)) rfl)) (fun g7 e7 hI hX => ?_)
    refine ev_loc f_X7_endRule (nx := 20) rfl rfl rfl rfl ?_
    refine ev_getR f_X7_endRule (nx := 23) (v := .ref (ar0 + 2)) rfl p_a0.1 rfl rfl r2_6 rfl rfl ?_
    refine ev_loc f_X7_endRule (nx := 24) rfl rfl rfl rfl ?_
    refine ev_gvI f_X7_endRule (nx := 27) (w := (gi ar0 0)) rfl p_a0.1 rfl rfl ((by rw [e7]; exact x_up2_off (Or.inl (t_noobj s1_6 p_a0.1)) : g7 ar0 0 = gi ar0 0).trans rfl) rfl ?_
    refine ev_loc f_X7_endRule (nx := 28) rfl rfl rfl rfl ?_
    have q8 := hI.2.2.2.2.1 ar0 n6 p_a0 s4_6
    refine ev_getI f_X7_endRule (nx := 31) rfl p_a0.1 rfl rfl rfl ?_
    obtain ⟨l9, u9⟩ := hI.b p_a0.1 (t_bdK rfl : t_bd 6 3 = some (0, 300))
    refine ev_iastT f_X7_endRule (nx := 32) rfl s2_6 l1 (by decide) u4 (by decide) rfl (hI.astD s2_6 (by omega) (fun k hk e => l9)) (hX.upI (t_inOA hI.wf s2_6 (Or.inr (by omega)) rfl)) (fun g10 e10 hI hX => ?_)
    refine ev_loc f_X7_endRule (nx := 33) rfl rfl rfl rfl ?_
    refine ev_alu f_X7_endRule (nx := 34) rfl rfl rfl rfl ?_
    refine ev_gvI f_X7_endRule (nx := 37) (w := (gi ar0 0)) rfl p_a0.1 rfl rfl ((by rw [e10]; exact x_up2_off (Or.inl (t_noobj s2_6 p_a0.1)) : g10 ar0 0 = g7 ar0 0).trans ((by rw [e7]; exact x_up2_off (Or.inl (t_noobj s1_6 p_a0.1)) : g7 ar0 0 = gi ar0 0).trans rfl)) rfl ?_
    refine ev_ic f_X7_endRule (nx := 38) (v := 1) rfl (by decide) rfl ?_
    refine ev_addC f_X7_endRule (nx := 39) (c := 1) (l := 1) (u := 12) rfl (by decide) l1 u4 rfl rfl (by decide) (by decide) rfl (fun z11 e11 l11 u11 => ?_)
    refine ev_putIT f_X7_endRule (nx := 42) rfl p_a0.1 rfl rfl rfl (hI.putB p_a0.1 rfl rfl l11 (by decide) u11 (by decide)) (hX.upI (t_inO hI.wf p_a0.1 (t_outO hI.wf p_a0.1 rfl) rfl)) (fun g12 e12 hI hX => ?_)
    exact ev_ret f_X7_endRule rfl rfl rfl ⟨_, _, _, rfl, hI, hX, ⟨rfl, (show ((gi ar0 0).toInt < 12 → (g12 ar0 0).toInt = (gi ar0 0).toInt + 1) ∧ t_xc [ar0, ar0 + 1, ar0 + 2] gi gl gr g12 gl gr from ⟨fun h => (by have ff5 : (g12 ar0 3).toInt = (g7 ar0 3).toInt := congrArg Int32.toInt ((by rw [e12]; exact x_up2_off (Or.inr (by decide)) : g12 ar0 3 = g10 ar0 3).trans ((by rw [e10]; exact x_up2_off (Or.inl (t_noobj s2_6 p_a0.1)) : g10 ar0 3 = g7 ar0 3).trans rfl)); have ff6 : (g12 ar0 0).toInt = z11.toInt := congrArg Int32.toInt (by rw [e12]; exact x_up2_at _ _ _ _ : g12 ar0 0 = z11); omega), (t_xc.I (t_xc.I (t_xc.I t_xc.rf (by simp) e7) (by simp) e10) (by simp) e12)⟩)⟩⟩
noncomputable def wl_u_factTold : List (Nat × Nat) := []
noncomputable def Q_u_factTold (gi : Nat → Nat → Int32) (gl : Nat → Nat → Int64) (gr : Nat → Nat → Value) (ar0 : Nat) : Int32 → (Nat → Nat → Int32) → (Nat → Nat → Int64) → (Nat → Nat → Value) → Prop := fun (v : Int32) (gi2 : Nat → Nat → Int32) (gl2 : Nat → Nat → Int64) (gr2 : Nat → Nat → Value) => ∀ (b : Nat → Int32) (n q : Nat), t_TC b n q gi gl gr (ar0 + 1) → (v.toInt ≠ -1 ↔ s_fct b n q) ∧ (v.toInt = 0 ↔ s_opn b n q)
theorem c_u_factTold {X : x_Ext} {d : Nat} {sh : List (Nat ⊕ (Nat × Nat))} {gi : Nat → Nat → Int32} {gl : Nat → Nat → Int64} {gr : Nat → Nat → Value} (hI : t_I sh gi gr) (ar0 : Nat) (p_a0 : t_UQ sh gr ar0) : x_Me X (d + 1) n_X8_factTold [.ref ar0] (sh, gi, gl, gr) (t_PI wl_u_factTold sh gi gl gr (-1) 5 (Q_u_factTold gi gl gr ar0)) := by
  have hX : t_X wl_u_factTold sh gi gl gr gi gl gr := t_X.rf
  refine me_i f_X8_factTold p_a0.1 rfl rfl rfl ?_
  refine ev_loc f_X8_factTold (nx := 1) rfl rfl rfl rfl ?_
  have e1 := p_a0.2.2.1.1
  have p1 := p_a0.2.2.1.2
  refine ev_getR f_X8_factTold (nx := 4) rfl p_a0.1 rfl rfl e1 rfl rfl ?_
  have k2 := hI.2.2.2.1.2.2.2.2.2 (ar0 + 1) p1.1
  obtain ⟨v2, e2⟩ : ∃ v, gr (ar0 + 1) 7 = v := ⟨_, rfl⟩
  rw [e2] at k2
  refine ev_getR f_X8_factTold (nx := 7) rfl p1.1 rfl rfl e2 (t_KwR k2) rfl ?_
  refine ev_heap f_X8_factTold (nx := 10) rfl rfl rfl rfl ?_
  refine ev_ack f_X8_factTold (t1 := 26) (t2 := 13) rfl rfl rfl (t_knw k2) rfl (fun h3 => ?_) (fun h3 => ?_)
  · refine ev_ic f_X8_factTold (nx := 27) (v := 0) rfl (by decide) rfl ?_
    exact ev_ret f_X8_factTold rfl rfl rfl ⟨_, _, _, rfl, hI, hX, ⟨_, rfl, (Int.le_trans (by decide : ((-1):Int) ≤ 0) (by decide : (0:Int) ≤ (0:Int32).toInt)), (Int.le_trans (by decide : (0:Int32).toInt ≤ (0:Int)) (by decide : (0:Int) ≤ 5)), (show ∀ (b : Nat → Int32) (n q : Nat), t_TC b n q gi gl gr (ar0 + 1) → ((0 : Int) ≠ -1 ↔ s_fct b n q) ∧ ((0 : Int) = 0 ↔ s_opn b n q) from (fun b n q h => ⟨⟨fun _ => Or.inl (Or.inl (h.kwT e2 h3)), fun _ => by decide⟩, ⟨fun _ => Or.inl (h.kwT e2 h3), fun _ => rfl⟩⟩))⟩⟩
  · refine ev_loc f_X8_factTold (nx := 14) rfl rfl rfl rfl ?_
    refine ev_getR f_X8_factTold (nx := 17) (v := .ref (ar0 + 1)) rfl p_a0.1 rfl rfl e1 rfl rfl ?_
    refine ev_getR f_X8_factTold (nx := 20) (v := v2) rfl p1.1 rfl rfl e2 (t_KwR k2) rfl ?_
    refine ev_heap f_X8_factTold (nx := 23) rfl rfl rfl rfl ?_
    refine ev_ack f_X8_factTold (t1 := 26) (t2 := 28) rfl rfl rfl (t_knw k2) rfl (fun h4 => ?_) (fun h4 => ?_)
    · refine ev_ic f_X8_factTold (nx := 27) (v := 0) rfl (by decide) rfl ?_
      exact ev_ret f_X8_factTold rfl rfl rfl ⟨_, _, _, rfl, hI, hX, ⟨_, rfl, (Int.le_trans (by decide : ((-1):Int) ≤ 0) (by decide : (0:Int) ≤ (0:Int32).toInt)), (Int.le_trans (by decide : (0:Int32).toInt ≤ (0:Int)) (by decide : (0:Int) ≤ 5)), (show ∀ (b : Nat → Int32) (n q : Nat), t_TC b n q gi gl gr (ar0 + 1) → ((0 : Int) ≠ -1 ↔ s_fct b n q) ∧ ((0 : Int) = 0 ↔ s_opn b n q) from (fun b n q h => ⟨⟨fun _ => Or.inl (Or.inr (h.kwT e2 h4)), fun _ => by decide⟩, ⟨fun _ => Or.inr (h.kwT e2 h4), fun _ => rfl⟩⟩))⟩⟩
    · refine ev_loc f_X8_factTold (nx := 29) rfl rfl rfl rfl ?_
      refine ev_getR f_X8_factTold (nx := 32) (v := .ref (ar0 + 1)) rfl p_a0.1 rfl rfl e1 rfl rfl ?_
      refine ev_getR f_X8_factTold (nx := 35) (v := v2) rfl p1.1 rfl rfl e2 (t_KwR k2) rfl ?_
      refine ev_heap f_X8_factTold (nx := 38) rfl rfl rfl rfl ?_
      refine ev_ack f_X8_factTold (t1 := 41) (t2 := 43) rfl rfl rfl (t_knw k2) rfl (fun h5 => ?_) (fun h5 => ?_)
      · refine ev_ic f_X8_factTold (nx := 42) (v := 1) rfl (by decide) rfl ?_
        exact ev_ret f_X8_factTold rfl rfl rfl ⟨_, _, _, rfl, hI, hX, ⟨_, rfl, (Int.le_trans (by decide : ((-1):Int) ≤ 1) (by decide : (1:Int) ≤ (1:Int32).toInt)), (Int.le_trans (by decide : (1:Int32).toInt ≤ (1:Int)) (by decide : (1:Int) ≤ 5)), (show ∀ (b : Nat → Int32) (n q : Nat), t_TC b n q gi gl gr (ar0 + 1) → ((1 : Int) ≠ -1 ↔ s_fct b n q) ∧ ((1 : Int) = 0 ↔ s_opn b n q) from (fun b n q h => ⟨⟨fun _ => Or.inr (Or.inl (h.kwT e2 h5)), fun _ => by decide⟩, ⟨fun hh => absurd hh (by decide), fun hh => hh.elim (fun x => absurd x (h.kwF e2 h3)) (fun x => absurd x (h.kwF e2 h4))⟩⟩))⟩⟩
      · refine ev_loc f_X8_factTold (nx := 44) rfl rfl rfl rfl ?_
        refine ev_getR f_X8_factTold (nx := 47) (v := .ref (ar0 + 1)) rfl p_a0.1 rfl rfl e1 rfl rfl ?_
        refine ev_getR f_X8_factTold (nx := 50) (v := v2) rfl p1.1 rfl rfl e2 (t_KwR k2) rfl ?_
        refine ev_heap f_X8_factTold (nx := 53) rfl rfl rfl rfl ?_
        refine ev_ack f_X8_factTold (t1 := 56) (t2 := 58) rfl rfl rfl (t_knw k2) rfl (fun h6 => ?_) (fun h6 => ?_)
        · refine ev_ic f_X8_factTold (nx := 57) (v := 2) rfl (by decide) rfl ?_
          exact ev_ret f_X8_factTold rfl rfl rfl ⟨_, _, _, rfl, hI, hX, ⟨_, rfl, (Int.le_trans (by decide : ((-1):Int) ≤ 2) (by decide : (2:Int) ≤ (2:Int32).toInt)), (Int.le_trans (by decide : (2:Int32).toInt ≤ (2:Int)) (by decide : (2:Int) ≤ 5)), (show ∀ (b : Nat → Int32) (n q : Nat), t_TC b n q gi gl gr (ar0 + 1) → ((2 : Int) ≠ -1 ↔ s_fct b n q) ∧ ((2 : Int) = 0 ↔ s_opn b n q) from (fun b n q h => ⟨⟨fun _ => Or.inr (Or.inr (Or.inl (h.kwT e2 h6))), fun _ => by decide⟩, ⟨fun hh => absurd hh (by decide), fun hh => hh.elim (fun x => absurd x (h.kwF e2 h3)) (fun x => absurd x (h.kwF e2 h4))⟩⟩))⟩⟩
        · refine ev_loc f_X8_factTold (nx := 59) rfl rfl rfl rfl ?_
          refine ev_getR f_X8_factTold (nx := 62) (v := .ref (ar0 + 1)) rfl p_a0.1 rfl rfl e1 rfl rfl ?_
          refine ev_getR f_X8_factTold (nx := 65) (v := v2) rfl p1.1 rfl rfl e2 (t_KwR k2) rfl ?_
          refine ev_heap f_X8_factTold (nx := 68) rfl rfl rfl rfl ?_
          refine ev_ack f_X8_factTold (t1 := 71) (t2 := 73) rfl rfl rfl (t_knw k2) rfl (fun h7 => ?_) (fun h7 => ?_)
          · refine ev_ic f_X8_factTold (nx := 72) (v := 3) rfl (by decide) rfl ?_
            exact ev_ret f_X8_factTold rfl rfl rfl ⟨_, _, _, rfl, hI, hX, ⟨_, rfl, (Int.le_trans (by decide : ((-1):Int) ≤ 3) (by decide : (3:Int) ≤ (3:Int32).toInt)), (Int.le_trans (by decide : (3:Int32).toInt ≤ (3:Int)) (by decide : (3:Int) ≤ 5)), (show ∀ (b : Nat → Int32) (n q : Nat), t_TC b n q gi gl gr (ar0 + 1) → ((3 : Int) ≠ -1 ↔ s_fct b n q) ∧ ((3 : Int) = 0 ↔ s_opn b n q) from (fun b n q h => ⟨⟨fun _ => Or.inr (Or.inr (Or.inr (Or.inl (h.kwT e2 h7)))), fun _ => by decide⟩, ⟨fun hh => absurd hh (by decide), fun hh => hh.elim (fun x => absurd x (h.kwF e2 h3)) (fun x => absurd x (h.kwF e2 h4))⟩⟩))⟩⟩
          · refine ev_loc f_X8_factTold (nx := 74) rfl rfl rfl rfl ?_
            refine ev_getR f_X8_factTold (nx := 77) (v := .ref (ar0 + 1)) rfl p_a0.1 rfl rfl e1 rfl rfl ?_
            refine ev_getR f_X8_factTold (nx := 80) (v := v2) rfl p1.1 rfl rfl e2 (t_KwR k2) rfl ?_
            refine ev_heap f_X8_factTold (nx := 83) rfl rfl rfl rfl ?_
            refine ev_ack f_X8_factTold (t1 := 86) (t2 := 88) rfl rfl rfl (t_knw k2) rfl (fun h8 => ?_) (fun h8 => ?_)
            · refine ev_ic f_X8_factTold (nx := 87) (v := 4) rfl (by decide) rfl ?_
              exact ev_ret f_X8_factTold rfl rfl rfl ⟨_, _, _, rfl, hI, hX, ⟨_, rfl, (Int.le_trans (by decide : ((-1):Int) ≤ 4) (by decide : (4:Int) ≤ (4:Int32).toInt)), (Int.le_trans (by decide : (4:Int32).toInt ≤ (4:Int)) (by decide : (4:Int) ≤ 5)), (show ∀ (b : Nat → Int32) (n q : Nat), t_TC b n q gi gl gr (ar0 + 1) → ((4 : Int) ≠ -1 ↔ s_fct b n q) ∧ ((4 : Int) = 0 ↔ s_opn b n q) from (fun b n q h => ⟨⟨fun _ => Or.inr (Or.inr (Or.inr (Or.inr (Or.inl (h.kwT e2 h8))))), fun _ => by decide⟩, ⟨fun hh => absurd hh (by decide), fun hh => hh.elim (fun x => absurd x (h.kwF e2 h3)) (fun x => absurd x (h.kwF e2 h4))⟩⟩))⟩⟩
            · refine ev_loc f_X8_factTold (nx := 89) rfl rfl rfl rfl ?_
              refine ev_getR f_X8_factTold (nx := 92) (v := .ref (ar0 + 1)) rfl p_a0.1 rfl rfl e1 rfl rfl ?_
              refine ev_getR f_X8_factTold (nx := 95) (v := v2) rfl p1.1 rfl rfl e2 (t_KwR k2) rfl ?_
              refine ev_heap f_X8_factTold (nx := 98) rfl rfl rfl rfl ?_
              refine ev_ack f_X8_factTold (t1 := 101) (t2 := 105) rfl rfl rfl (t_knw k2) rfl (fun h9 => ?_) (fun h9 => ?_)
              · refine ev_ic f_X8_factTold (nx := 102) (v := 5) rfl (by decide) rfl ?_
                refine ev_jmp f_X8_factTold (nx := 106) rfl rfl rfl ?_
                exact ev_ret f_X8_factTold rfl rfl rfl ⟨_, _, _, rfl, hI, hX, ⟨_, rfl, (Int.le_trans (by decide : ((-1):Int) ≤ 5) (by decide : (5:Int) ≤ (5:Int32).toInt)), (by decide : (5:Int32).toInt ≤ (5:Int)), (show ∀ (b : Nat → Int32) (n q : Nat), t_TC b n q gi gl gr (ar0 + 1) → ((5 : Int) ≠ -1 ↔ s_fct b n q) ∧ ((5 : Int) = 0 ↔ s_opn b n q) from (fun b n q h => ⟨⟨fun _ => Or.inr (Or.inr (Or.inr (Or.inr (Or.inr (h.kwT e2 h9))))), fun _ => by decide⟩, ⟨fun hh => absurd hh (by decide), fun hh => hh.elim (fun x => absurd x (h.kwF e2 h3)) (fun x => absurd x (h.kwF e2 h4))⟩⟩))⟩⟩
              · refine ev_ic f_X8_factTold (nx := 106) (v := -1) rfl (by decide) rfl ?_
                exact ev_ret f_X8_factTold rfl rfl rfl ⟨_, _, _, rfl, hI, hX, ⟨_, rfl, (by decide : ((-1):Int) ≤ ((-1):Int32).toInt), (Int.le_trans (by decide : ((-1):Int32).toInt ≤ ((-1):Int)) (by decide : ((-1):Int) ≤ 5)), (show ∀ (b : Nat → Int32) (n q : Nat), t_TC b n q gi gl gr (ar0 + 1) → (((-1) : Int) ≠ -1 ↔ s_fct b n q) ∧ (((-1) : Int) = 0 ↔ s_opn b n q) from (fun b n q h => ⟨⟨fun hh => absurd (by decide) hh, fun hh => (by
                                                            rcases hh with (x | x) | x | x | x | x | x
                                                            · exact absurd x (h.kwF e2 h3)
                                                            · exact absurd x (h.kwF e2 h4)
                                                            · exact absurd x (h.kwF e2 h5)
                                                            · exact absurd x (h.kwF e2 h6)
                                                            · exact absurd x (h.kwF e2 h7)
                                                            · exact absurd x (h.kwF e2 h8)
                                                            · exact absurd x (h.kwF e2 h9))⟩, ⟨fun hh => absurd hh (by decide), fun hh => hh.elim (fun x => absurd x (h.kwF e2 h3)) (fun x => absurd x (h.kwF e2 h4))⟩⟩))⟩⟩
noncomputable def wl_u_comparesTold : List (Nat × Nat) := []
noncomputable def Q_u_comparesTold (gi : Nat → Nat → Int32) (gl : Nat → Nat → Int64) (gr : Nat → Nat → Value) (ar0 : Nat) : Int32 → (Nat → Nat → Int32) → (Nat → Nat → Int64) → (Nat → Nat → Value) → Prop := fun (v : Int32) (gi2 : Nat → Nat → Int32) (gl2 : Nat → Nat → Int64) (gr2 : Nat → Nat → Value) => ∀ (b : Nat → Int32) (n q : Nat), t_TC b n q gi gl gr (ar0 + 1) → (v.toInt ≠ -1 ↔ s_cmp b n q)
theorem c_u_comparesTold {X : x_Ext} {d : Nat} {sh : List (Nat ⊕ (Nat × Nat))} {gi : Nat → Nat → Int32} {gl : Nat → Nat → Int64} {gr : Nat → Nat → Value} (hI : t_I sh gi gr) (ar0 : Nat) (p_a0 : t_UQ sh gr ar0) : x_Me X (d + 2) n_X8_comparesTold [.ref ar0] (sh, gi, gl, gr) (t_PI wl_u_comparesTold sh gi gl gr (-1) 2 (Q_u_comparesTold gi gl gr ar0)) := by
  have hX : t_X wl_u_comparesTold sh gi gl gr gi gl gr := t_X.rf
  refine me_i f_X8_comparesTold p_a0.1 rfl rfl rfl ?_
  refine ev_loc f_X8_comparesTold (nx := 1) rfl rfl rfl rfl ?_
  have e1 := p_a0.2.2.1.1
  have p1 := p_a0.2.2.1.2
  refine ev_getR f_X8_comparesTold (nx := 4) rfl p_a0.1 rfl rfl e1 rfl rfl ?_
  refine ev_bp f_X8_comparesTold (nx := 6) (v := 60) rfl (by decide) rfl ?_
  refine ev_qI0 f_X8_comparesTold (nx := 9) (r := []) rfl rfl rfl rfl rfl rfl rfl (c_s_isSignOf hI ((ar0 + 1)) p1 (60)) rfl (fun w2 l2 u2 q2 => ?_)
  have q2 : ∀ (b : Nat → Int32) (n q : Nat), t_TC b n q gi gl gr (ar0 + 1) → (w2.toInt = 1 ↔ s_isS b n q 60) := q2
  refine ev_if f_X8_comparesTold (t1 := 14) (t2 := 12) rfl rfl rfl (fun h3 => ?_) (fun h3 => ?_)
  · have u4 : w2.toInt ≤ 0 := t_equ h3 (by decide : (0:Int32).toInt ≤ (0:Int))
    refine ev_loc f_X8_comparesTold (nx := 15) rfl rfl rfl rfl ?_
    refine ev_getR f_X8_comparesTold (nx := 18) (v := .ref (ar0 + 1)) rfl p_a0.1 rfl rfl e1 rfl rfl ?_
    refine ev_bp f_X8_comparesTold (nx := 20) (v := 62) rfl (by decide) rfl ?_
    refine ev_qI0 f_X8_comparesTold (nx := 23) (r := []) rfl rfl rfl rfl rfl rfl rfl (c_s_isSignOf hI ((ar0 + 1)) p1 (62)) rfl (fun w5 l5 u5 q5 => ?_)
    have q5 : ∀ (b : Nat → Int32) (n q : Nat), t_TC b n q gi gl gr (ar0 + 1) → (w5.toInt = 1 ↔ s_isS b n q 62) := q5
    refine ev_if f_X8_comparesTold (t1 := 28) (t2 := 26) rfl rfl rfl (fun h6 => ?_) (fun h6 => ?_)
    · have u7 : w5.toInt ≤ 0 := t_equ h6 (by decide : (0:Int32).toInt ≤ (0:Int))
      refine ev_loc f_X8_comparesTold (nx := 29) rfl rfl rfl rfl ?_
      refine ev_getR f_X8_comparesTold (nx := 32) (v := .ref (ar0 + 1)) rfl p_a0.1 rfl rfl e1 rfl rfl ?_
      refine ev_bp f_X8_comparesTold (nx := 34) (v := 61) rfl (by decide) rfl ?_
      refine ev_qI0 f_X8_comparesTold (nx := 37) (r := []) rfl rfl rfl rfl rfl rfl rfl (c_s_isSignOf hI ((ar0 + 1)) p1 (61)) rfl (fun w8 l8 u8 q8 => ?_)
      have q8 : ∀ (b : Nat → Int32) (n q : Nat), t_TC b n q gi gl gr (ar0 + 1) → (w8.toInt = 1 ↔ s_isS b n q 61) := q8
      refine ev_if f_X8_comparesTold (t1 := 44) (t2 := 40) rfl rfl rfl (fun h9 => ?_) (fun h9 => ?_)
      · have u10 : w8.toInt ≤ 0 := t_equ h9 (by decide : (0:Int32).toInt ≤ (0:Int))
        refine ev_ic f_X8_comparesTold (nx := 45) (v := -1) rfl (by decide) rfl ?_
        exact ev_ret f_X8_comparesTold rfl rfl rfl ⟨_, _, _, rfl, hI, hX, ⟨_, rfl, (by decide : ((-1):Int) ≤ ((-1):Int32).toInt), (Int.le_trans (by decide : ((-1):Int32).toInt ≤ ((-1):Int)) (by decide : ((-1):Int) ≤ 2)), (show ∀ (b : Nat → Int32) (n q : Nat), t_TC b n q gi gl gr (ar0 + 1) → (((-1) : Int) ≠ -1 ↔ s_cmp b n q) from (fun b n q h => ⟨fun hh => absurd (by decide) hh, fun hh => (by
                                                            rcases hh with x | x | x
                                                            · exact absurd ((q2 b n q h).mpr x) (by omega)
                                                            · exact absurd ((q5 b n q h).mpr x) (by omega)
                                                            · exact absurd ((q8 b n q h).mpr x) (by omega))⟩))⟩⟩
      · have r11 : w8.toInt ≠ 0 := fun e => h9 (Int32.toInt_inj.mp (e.trans (by decide : (0:Int) = (0 : Int32).toInt)))
        have l12 : 1 ≤ w8.toInt := t_nel h9 l8 rfl rfl
        refine ev_ic f_X8_comparesTold (nx := 41) (v := 2) rfl (by decide) rfl ?_
        refine ev_jmp f_X8_comparesTold (nx := 45) rfl rfl rfl ?_
        exact ev_ret f_X8_comparesTold rfl rfl rfl ⟨_, _, _, rfl, hI, hX, ⟨_, rfl, (Int.le_trans (by decide : ((-1):Int) ≤ 2) (by decide : (2:Int) ≤ (2:Int32).toInt)), (by decide : (2:Int32).toInt ≤ (2:Int)), (show ∀ (b : Nat → Int32) (n q : Nat), t_TC b n q gi gl gr (ar0 + 1) → ((2 : Int) ≠ -1 ↔ s_cmp b n q) from (fun b n q h => ⟨fun _ => Or.inr (Or.inr ((q8 b n q h).mp (by omega))), fun _ => by decide⟩))⟩⟩
    · have r13 : w5.toInt ≠ 0 := fun e => h6 (Int32.toInt_inj.mp (e.trans (by decide : (0:Int) = (0 : Int32).toInt)))
      have l14 : 1 ≤ w5.toInt := t_nel h6 l5 rfl rfl
      refine ev_ic f_X8_comparesTold (nx := 27) (v := 1) rfl (by decide) rfl ?_
      exact ev_ret f_X8_comparesTold rfl rfl rfl ⟨_, _, _, rfl, hI, hX, ⟨_, rfl, (Int.le_trans (by decide : ((-1):Int) ≤ 1) (by decide : (1:Int) ≤ (1:Int32).toInt)), (Int.le_trans (by decide : (1:Int32).toInt ≤ (1:Int)) (by decide : (1:Int) ≤ 2)), (show ∀ (b : Nat → Int32) (n q : Nat), t_TC b n q gi gl gr (ar0 + 1) → ((1 : Int) ≠ -1 ↔ s_cmp b n q) from (fun b n q h => ⟨fun _ => Or.inr (Or.inl ((q5 b n q h).mp (by omega))), fun _ => by decide⟩))⟩⟩
  · have r15 : w2.toInt ≠ 0 := fun e => h3 (Int32.toInt_inj.mp (e.trans (by decide : (0:Int) = (0 : Int32).toInt)))
    have l16 : 1 ≤ w2.toInt := t_nel h3 l2 rfl rfl
    refine ev_ic f_X8_comparesTold (nx := 13) (v := 0) rfl (by decide) rfl ?_
    exact ev_ret f_X8_comparesTold rfl rfl rfl ⟨_, _, _, rfl, hI, hX, ⟨_, rfl, (Int.le_trans (by decide : ((-1):Int) ≤ 0) (by decide : (0:Int) ≤ (0:Int32).toInt)), (Int.le_trans (by decide : (0:Int32).toInt ≤ (0:Int)) (by decide : (0:Int) ≤ 2)), (show ∀ (b : Nat → Int32) (n q : Nat), t_TC b n q gi gl gr (ar0 + 1) → ((0 : Int) ≠ -1 ↔ s_cmp b n q) from (fun b n q h => ⟨fun _ => Or.inl ((q2 b n q h).mp (by omega)), fun _ => by decide⟩))⟩⟩
noncomputable def wl_u_actTold : List (Nat × Nat) := []
noncomputable def Q_u_actTold (gi : Nat → Nat → Int32) (gl : Nat → Nat → Int64) (gr : Nat → Nat → Value) (ar0 : Nat) : Int32 → (Nat → Nat → Int32) → (Nat → Nat → Int64) → (Nat → Nat → Value) → Prop := fun (v : Int32) (gi2 : Nat → Nat → Int32) (gl2 : Nat → Nat → Int64) (gr2 : Nat → Nat → Value) => ∀ (b : Nat → Int32) (n q : Nat), t_TC b n q gi gl gr (ar0 + 1) → (v.toInt ≠ -1 ↔ (s_W b n q = some 15 ∨ s_W b n q = some 16 ∨ s_W b n q = some 17))
theorem c_u_actTold {X : x_Ext} {d : Nat} {sh : List (Nat ⊕ (Nat × Nat))} {gi : Nat → Nat → Int32} {gl : Nat → Nat → Int64} {gr : Nat → Nat → Value} (hI : t_I sh gi gr) (ar0 : Nat) (p_a0 : t_UQ sh gr ar0) : x_Me X (d + 1) n_X8_actTold [.ref ar0] (sh, gi, gl, gr) (t_PI wl_u_actTold sh gi gl gr (-1) 2 (Q_u_actTold gi gl gr ar0)) := by
  have hX : t_X wl_u_actTold sh gi gl gr gi gl gr := t_X.rf
  refine me_i f_X8_actTold p_a0.1 rfl rfl rfl ?_
  refine ev_loc f_X8_actTold (nx := 1) rfl rfl rfl rfl ?_
  have e1 := p_a0.2.2.1.1
  have p1 := p_a0.2.2.1.2
  refine ev_getR f_X8_actTold (nx := 4) rfl p_a0.1 rfl rfl e1 rfl rfl ?_
  have k2 := hI.2.2.2.1.2.2.2.2.2 (ar0 + 1) p1.1
  obtain ⟨v2, e2⟩ : ∃ v, gr (ar0 + 1) 7 = v := ⟨_, rfl⟩
  rw [e2] at k2
  refine ev_getR f_X8_actTold (nx := 7) rfl p1.1 rfl rfl e2 (t_KwR k2) rfl ?_
  refine ev_heap f_X8_actTold (nx := 10) rfl rfl rfl rfl ?_
  refine ev_ack f_X8_actTold (t1 := 13) (t2 := 15) rfl rfl rfl (t_knw k2) rfl (fun h3 => ?_) (fun h3 => ?_)
  · refine ev_ic f_X8_actTold (nx := 14) (v := 0) rfl (by decide) rfl ?_
    exact ev_ret f_X8_actTold rfl rfl rfl ⟨_, _, _, rfl, hI, hX, ⟨_, rfl, (Int.le_trans (by decide : ((-1):Int) ≤ 0) (by decide : (0:Int) ≤ (0:Int32).toInt)), (Int.le_trans (by decide : (0:Int32).toInt ≤ (0:Int)) (by decide : (0:Int) ≤ 2)), (show ∀ (b : Nat → Int32) (n q : Nat), t_TC b n q gi gl gr (ar0 + 1) → ((0 : Int) ≠ -1 ↔ (s_W b n q = some 15 ∨ s_W b n q = some 16 ∨ s_W b n q = some 17)) from (fun b n q h => ⟨fun _ => Or.inl (h.kwT e2 h3), fun _ => by decide⟩))⟩⟩
  · refine ev_loc f_X8_actTold (nx := 16) rfl rfl rfl rfl ?_
    refine ev_getR f_X8_actTold (nx := 19) (v := .ref (ar0 + 1)) rfl p_a0.1 rfl rfl e1 rfl rfl ?_
    refine ev_getR f_X8_actTold (nx := 22) (v := v2) rfl p1.1 rfl rfl e2 (t_KwR k2) rfl ?_
    refine ev_heap f_X8_actTold (nx := 25) rfl rfl rfl rfl ?_
    refine ev_ack f_X8_actTold (t1 := 28) (t2 := 30) rfl rfl rfl (t_knw k2) rfl (fun h4 => ?_) (fun h4 => ?_)
    · refine ev_ic f_X8_actTold (nx := 29) (v := 1) rfl (by decide) rfl ?_
      exact ev_ret f_X8_actTold rfl rfl rfl ⟨_, _, _, rfl, hI, hX, ⟨_, rfl, (Int.le_trans (by decide : ((-1):Int) ≤ 1) (by decide : (1:Int) ≤ (1:Int32).toInt)), (Int.le_trans (by decide : (1:Int32).toInt ≤ (1:Int)) (by decide : (1:Int) ≤ 2)), (show ∀ (b : Nat → Int32) (n q : Nat), t_TC b n q gi gl gr (ar0 + 1) → ((1 : Int) ≠ -1 ↔ (s_W b n q = some 15 ∨ s_W b n q = some 16 ∨ s_W b n q = some 17)) from (fun b n q h => ⟨fun _ => Or.inr (Or.inl (h.kwT e2 h4)), fun _ => by decide⟩))⟩⟩
    · refine ev_loc f_X8_actTold (nx := 31) rfl rfl rfl rfl ?_
      refine ev_getR f_X8_actTold (nx := 34) (v := .ref (ar0 + 1)) rfl p_a0.1 rfl rfl e1 rfl rfl ?_
      refine ev_getR f_X8_actTold (nx := 37) (v := v2) rfl p1.1 rfl rfl e2 (t_KwR k2) rfl ?_
      refine ev_heap f_X8_actTold (nx := 40) rfl rfl rfl rfl ?_
      refine ev_ack f_X8_actTold (t1 := 43) (t2 := 47) rfl rfl rfl (t_knw k2) rfl (fun h5 => ?_) (fun h5 => ?_)
      · refine ev_ic f_X8_actTold (nx := 44) (v := 2) rfl (by decide) rfl ?_
        refine ev_jmp f_X8_actTold (nx := 48) rfl rfl rfl ?_
        exact ev_ret f_X8_actTold rfl rfl rfl ⟨_, _, _, rfl, hI, hX, ⟨_, rfl, (Int.le_trans (by decide : ((-1):Int) ≤ 2) (by decide : (2:Int) ≤ (2:Int32).toInt)), (by decide : (2:Int32).toInt ≤ (2:Int)), (show ∀ (b : Nat → Int32) (n q : Nat), t_TC b n q gi gl gr (ar0 + 1) → ((2 : Int) ≠ -1 ↔ (s_W b n q = some 15 ∨ s_W b n q = some 16 ∨ s_W b n q = some 17)) from (fun b n q h => ⟨fun _ => Or.inr (Or.inr (h.kwT e2 h5)), fun _ => by decide⟩))⟩⟩
      · refine ev_ic f_X8_actTold (nx := 48) (v := -1) rfl (by decide) rfl ?_
        exact ev_ret f_X8_actTold rfl rfl rfl ⟨_, _, _, rfl, hI, hX, ⟨_, rfl, (by decide : ((-1):Int) ≤ ((-1):Int32).toInt), (Int.le_trans (by decide : ((-1):Int32).toInt ≤ ((-1):Int)) (by decide : ((-1):Int) ≤ 2)), (show ∀ (b : Nat → Int32) (n q : Nat), t_TC b n q gi gl gr (ar0 + 1) → (((-1) : Int) ≠ -1 ↔ (s_W b n q = some 15 ∨ s_W b n q = some 16 ∨ s_W b n q = some 17)) from (fun b n q h => ⟨fun hh => absurd (by decide) hh, fun hh => (by
                                                            rcases hh with x | x | x
                                                            · exact absurd x (h.kwF e2 h3)
                                                            · exact absurd x (h.kwF e2 h4)
                                                            · exact absurd x (h.kwF e2 h5))⟩))⟩⟩
noncomputable def wl_u_readCase : List (Nat × Nat) := [(116, 3), (117, 2), (118, 2), (118, 3), (118, 4), (118, 5), (118, 6), (118, 7), (118, 8), (118, 9), (118, 10), (118, 11), (130, 9999)]
noncomputable def Q_u_readCase (gi : Nat → Nat → Int32) (gl : Nat → Nat → Int64) (gr : Nat → Nat → Value) (ar0 : Nat) (ar1 : Int32) : Int32 → (Nat → Nat → Int32) → (Nat → Nat → Int64) → (Nat → Nat → Value) → Prop := fun (v : Int32) (gi2 : Nat → Nat → Int32) (gl2 : Nat → Nat → Int64) (gr2 : Nat → Nat → Value) => (∀ (b : Nat → Int32) (n q c : Nat), t_US b n q c gi gl gr ar0 → (ar1.toInt = 0 ↔ s_opn b n q) → s_fct b n q → (v.toInt = 1 ∧ ∃ q2, (∀ k, s_cse b n q k = k q2) ∧ q < q2 ∧ t_US b n q2 (c + 1) gi2 gl2 gr2 ar0) ∨ (v.toInt = 0 ∧ ∃ p x, x ≠ 0 ∧ (∀ k, s_cse b n q k = s_qb b n p x) ∧ t_FL gi2 (ar0 + 1) (s_fk b n p x) (s_F b n p))) ∧ t_lq ar0 gi gl gr gi2 gl2 gr2
theorem c_u_readCase {X : x_Ext} {d : Nat} {sh : List (Nat ⊕ (Nat × Nat))} {gi : Nat → Nat → Int32} {gl : Nat → Nat → Int64} {gr : Nat → Nat → Value} (hI : t_I sh gi gr) (ar0 : Nat) (p_a0 : t_UQ sh gr ar0) (ar1 : Int32) (l_a1 : 0 ≤ ar1.toInt) (u_a1 : ar1.toInt ≤ 5) (e_p0 : (gi ar0 2).toInt ≤ 23) : x_Me X (d + 4) n_X8_readCase [.ref ar0, .int ar1] (sh, gi, gl, gr) (t_PI wl_u_readCase sh gi gl gr 0 1 (Q_u_readCase gi gl gr ar0 ar1)) := by
  have hX : t_X wl_u_readCase sh gi gl gr gi gl gr := t_X.rf
  refine me_i f_X8_readCase p_a0.1 rfl rfl rfl ?_
  refine ev_loc f_X8_readCase (nx := 1) rfl rfl rfl rfl ?_
  refine ev_alu f_X8_readCase (nx := 2) rfl rfl rfl rfl ?_
  refine ev_gvI f_X8_readCase (nx := 5) (w := (gi ar0 2)) rfl p_a0.1 rfl rfl rfl rfl ?_
  refine ev_ic f_X8_readCase (nx := 6) (v := 1) rfl (by decide) rfl ?_
  refine ev_addC f_X8_readCase (nx := 7) (c := 1) (l := (-2147483647)) (u := 24) rfl (by decide) (t_lo (gi ar0 2)) e_p0 rfl rfl (by decide) (by decide) rfl (fun z1 e1 l1 u1 => ?_)
  refine ev_putIT f_X8_readCase (nx := 10) rfl p_a0.1 rfl rfl rfl (hI.put0 p_a0.1 rfl rfl) (hX.upI (t_inO hI.wf p_a0.1 (t_outO hI.wf p_a0.1 rfl) rfl)) (fun g2 e2 hI hX => ?_)
  refine ev_loc f_X8_readCase (nx := 11) rfl rfl rfl rfl ?_
  refine ev_if f_X8_readCase (t1 := 14) (t2 := 50) rfl rfl rfl (fun h3 => ?_) (fun h3 => ?_)
  · have u4 : ar1.toInt ≤ 0 := t_equ h3 (by decide : (0:Int32).toInt ≤ (0:Int))
    refine ev_loc f_X8_readCase (nx := 15) rfl rfl rfl rfl ?_
    have e5 := p_a0.2.2.2.1
    have p5 := p_a0.2.2.2.2
    refine ev_getR f_X8_readCase (nx := 18) rfl p_a0.1 rfl rfl e5 rfl rfl ?_
    refine ev_ic f_X8_readCase (nx := 19) (v := 2) rfl (by decide) rfl ?_
    refine ev_loc f_X8_readCase (nx := 20) rfl rfl rfl rfl ?_
    refine ev_loc f_X8_readCase (nx := 21) rfl rfl rfl rfl ?_
    have e6 := p_a0.2.2.1.1
    have p6 := p_a0.2.2.1.2
    refine ev_getR f_X8_readCase (nx := 24) rfl p_a0.1 rfl rfl e6 rfl rfl ?_
    have k7 := hI.2.2.2.1.2.2.2.2.2 (ar0 + 1) p6.1
    obtain ⟨v7, e7⟩ : ∃ v, gr (ar0 + 1) 7 = v := ⟨_, rfl⟩
    rw [e7] at k7
    refine ev_getR f_X8_readCase (nx := 27) rfl p6.1 rfl rfl e7 (t_KwR k7) rfl ?_
    refine ev_heap f_X8_readCase (nx := 30) rfl rfl rfl rfl ?_
    refine ev_ack f_X8_readCase (t1 := 33) (t2 := 37) rfl rfl rfl (t_knw k7) rfl (fun h8 => ?_) (fun h8 => ?_)
    · refine ev_ic f_X8_readCase (nx := 34) (v := 1) rfl (by decide) rfl ?_
      refine ev_jmp f_X8_readCase (nx := 38) rfl rfl rfl ?_
      refine ev_qN f_X8_readCase (nx := 41) (r := []) rfl rfl rfl rfl rfl rfl rfl (c_u_addStep hI ((ar0 + 2)) p5 (2) (ar1) (1)) rfl hX rfl (fun gi9 gl9 gr9 hI hX hC9 q9 => ?_)
      have q9 : t_xc [(ar0 + 2), (ar0 + 2) + 3, (ar0 + 2) + 4, (ar0 + 2) + 5] g2 gl gr gi9 gl9 gr9 ∧ gi9 (ar0 + 2) 0 = g2 (ar0 + 2) 0 := q9
      replace p_a0 := p_a0.ext hC9.2
      replace p5 := p5.ext hC9.2
      replace p6 := p6.ext hC9.2
      refine ev_loc f_X8_readCase (nx := 42) rfl rfl rfl rfl ?_
      refine ev_getR f_X8_readCase (nx := 45) (v := .ref (ar0 + 1)) rfl p_a0.1 rfl rfl ((hC9.1 ar0 0 (t_ninO hI.wf p_a0.1 (t_outO hI.wf p_a0.1 rfl) rfl)).2.2.trans e6) rfl rfl ?_
      refine ev_qN f_X8_readCase (nx := 48) (r := []) rfl rfl rfl rfl rfl rfl rfl (c_s_step hI ((ar0 + 1)) p6) rfl hX rfl (fun gi10 gl10 gr10 hI hX hC10 q10 => ?_)
      have q10 : (∀ (b : Nat → Int32) (n q : Nat), t_Sp b n q gi9 (ar0 + 1) → t_TC b n q gi10 gl10 gr10 (ar0 + 1)) ∧ t_nf gi9 gi10 (ar0 + 1) ∧ t_on (ar0 + 1) gi9 gl9 gr9 gi10 gl10 gr10 := q10
      replace p_a0 := p_a0.ext hC10.2
      replace p5 := p5.ext hC10.2
      replace p6 := p6.ext hC10.2
      refine ev_ic f_X8_readCase (nx := 49) (v := 1) rfl (by decide) rfl ?_
      exact ev_ret f_X8_readCase rfl rfl rfl ⟨_, _, _, rfl, hI, hX, ⟨_, rfl, (Int.le_trans (by decide : (0:Int) ≤ 1) (by decide : (1:Int) ≤ (1:Int32).toInt)), (by decide : (1:Int32).toInt ≤ (1:Int)), (show (∀ (b : Nat → Int32) (n q c : Nat), t_US b n q c gi gl gr ar0 → (ar1.toInt = 0 ↔ s_opn b n q) → s_fct b n q → ((1 : Int) = 1 ∧ ∃ q2, (∀ k, s_cse b n q k = k q2) ∧ q < q2 ∧ t_US b n q2 (c + 1) gi10 gl10 gr10 ar0) ∨ ((1 : Int) = 0 ∧ ∃ p x, x ≠ 0 ∧ (∀ k, s_cse b n q k = s_qb b n p x) ∧ t_FL gi10 (ar0 + 1) (s_fk b n p x) (s_F b n p))) ∧ t_lq ar0 gi gl gr gi10 gl10 gr10 from ⟨(by
                                                            intro b n q c h ho hf
                                                            have h102 := p_a0.2.1
                                                            have hq := h.qn
                                                            have hcc := h.2.1.2
                                                            have h1 := h.c1 rfl (by omega) (z := z1) (by omega) e2
                                                            have hO : s_opn b n q := ho.mp (by omega)
                                                            have h2 := h1.xc q9.1 (by intro x hx; simp only [List.mem_cons, List.not_mem_nil, or_false] at hx; omega)
                                                            have h3 := h2.on (q10.1 b n _ h2.1.S) q10.2.1 q10.2.2
                                                            exact Or.inl ⟨rfl, _, fun k => by unfold s_cse; rw [s_ifT hO], (s_opn_gt hO).1, h3⟩), (t_lq.on (t_lq.ex (t_lq.I t_lq.rf (by omega) e2) q9.1 (by intro x hx; simp only [List.mem_cons, List.not_mem_nil, or_false] at hx; omega)) q10.2.2 (by omega))⟩)⟩⟩
    · refine ev_ic f_X8_readCase (nx := 38) (v := 0) rfl (by decide) rfl ?_
      refine ev_qN f_X8_readCase (nx := 41) (r := []) rfl rfl rfl rfl rfl rfl rfl (c_u_addStep hI ((ar0 + 2)) p5 (2) (ar1) (0)) rfl hX rfl (fun gi11 gl11 gr11 hI hX hC11 q11 => ?_)
      have q11 : t_xc [(ar0 + 2), (ar0 + 2) + 3, (ar0 + 2) + 4, (ar0 + 2) + 5] g2 gl gr gi11 gl11 gr11 ∧ gi11 (ar0 + 2) 0 = g2 (ar0 + 2) 0 := q11
      replace p_a0 := p_a0.ext hC11.2
      replace p5 := p5.ext hC11.2
      replace p6 := p6.ext hC11.2
      refine ev_loc f_X8_readCase (nx := 42) rfl rfl rfl rfl ?_
      refine ev_getR f_X8_readCase (nx := 45) (v := .ref (ar0 + 1)) rfl p_a0.1 rfl rfl ((hC11.1 ar0 0 (t_ninO hI.wf p_a0.1 (t_outO hI.wf p_a0.1 rfl) rfl)).2.2.trans e6) rfl rfl ?_
      refine ev_qN f_X8_readCase (nx := 48) (r := []) rfl rfl rfl rfl rfl rfl rfl (c_s_step hI ((ar0 + 1)) p6) rfl hX rfl (fun gi12 gl12 gr12 hI hX hC12 q12 => ?_)
      have q12 : (∀ (b : Nat → Int32) (n q : Nat), t_Sp b n q gi11 (ar0 + 1) → t_TC b n q gi12 gl12 gr12 (ar0 + 1)) ∧ t_nf gi11 gi12 (ar0 + 1) ∧ t_on (ar0 + 1) gi11 gl11 gr11 gi12 gl12 gr12 := q12
      replace p_a0 := p_a0.ext hC12.2
      replace p5 := p5.ext hC12.2
      replace p6 := p6.ext hC12.2
      refine ev_ic f_X8_readCase (nx := 49) (v := 1) rfl (by decide) rfl ?_
      exact ev_ret f_X8_readCase rfl rfl rfl ⟨_, _, _, rfl, hI, hX, ⟨_, rfl, (Int.le_trans (by decide : (0:Int) ≤ 1) (by decide : (1:Int) ≤ (1:Int32).toInt)), (by decide : (1:Int32).toInt ≤ (1:Int)), (show (∀ (b : Nat → Int32) (n q c : Nat), t_US b n q c gi gl gr ar0 → (ar1.toInt = 0 ↔ s_opn b n q) → s_fct b n q → ((1 : Int) = 1 ∧ ∃ q2, (∀ k, s_cse b n q k = k q2) ∧ q < q2 ∧ t_US b n q2 (c + 1) gi12 gl12 gr12 ar0) ∨ ((1 : Int) = 0 ∧ ∃ p x, x ≠ 0 ∧ (∀ k, s_cse b n q k = s_qb b n p x) ∧ t_FL gi12 (ar0 + 1) (s_fk b n p x) (s_F b n p))) ∧ t_lq ar0 gi gl gr gi12 gl12 gr12 from ⟨(by
                                                            intro b n q c h ho hf
                                                            have h102 := p_a0.2.1
                                                            have hq := h.qn
                                                            have hcc := h.2.1.2
                                                            have h1 := h.c1 rfl (by omega) (z := z1) (by omega) e2
                                                            have hO : s_opn b n q := ho.mp (by omega)
                                                            have h2 := h1.xc q11.1 (by intro x hx; simp only [List.mem_cons, List.not_mem_nil, or_false] at hx; omega)
                                                            have h3 := h2.on (q12.1 b n _ h2.1.S) q12.2.1 q12.2.2
                                                            exact Or.inl ⟨rfl, _, fun k => by unfold s_cse; rw [s_ifT hO], (s_opn_gt hO).1, h3⟩), (t_lq.on (t_lq.ex (t_lq.I t_lq.rf (by omega) e2) q11.1 (by intro x hx; simp only [List.mem_cons, List.not_mem_nil, or_false] at hx; omega)) q12.2.2 (by omega))⟩)⟩⟩
  · have r13 : ar1.toInt ≠ 0 := fun e => h3 (Int32.toInt_inj.mp (e.trans (by decide : (0:Int) = (0 : Int32).toInt)))
    have l14 : 1 ≤ ar1.toInt := t_nel h3 l_a1 rfl rfl
    refine ev_loc f_X8_readCase (nx := 51) rfl rfl rfl rfl ?_
    have e15 := p_a0.2.2.1.1
    have p15 := p_a0.2.2.1.2
    refine ev_getR f_X8_readCase (nx := 54) rfl p_a0.1 rfl rfl e15 rfl rfl ?_
    refine ev_qN f_X8_readCase (nx := 57) (r := []) rfl rfl rfl rfl rfl rfl rfl (c_s_step hI ((ar0 + 1)) p15) rfl hX rfl (fun gi16 gl16 gr16 hI hX hC16 q16 => ?_)
    have q16 : (∀ (b : Nat → Int32) (n q : Nat), t_Sp b n q g2 (ar0 + 1) → t_TC b n q gi16 gl16 gr16 (ar0 + 1)) ∧ t_nf g2 gi16 (ar0 + 1) ∧ t_on (ar0 + 1) g2 gl gr gi16 gl16 gr16 := q16
    replace p_a0 := p_a0.ext hC16.2
    replace p15 := p15.ext hC16.2
    refine ev_loc f_X8_readCase (nx := 58) rfl rfl rfl rfl ?_
    refine ev_qI0 f_X8_readCase (nx := 61) (r := []) rfl rfl rfl rfl rfl rfl rfl (c_u_comparesTold hI (ar0) p_a0) rfl (fun w17 l17 u17 q17 => ?_)
    have q17 : ∀ (b : Nat → Int32) (n q : Nat), t_TC b n q gi16 gl16 gr16 (ar0 + 1) → (w17.toInt ≠ -1 ↔ s_cmp b n q) := q17
    refine ev_loc f_X8_readCase (nx := 62) (lo' := [(2, .int w17), (0, .ref ar0), (1, .int ar1)]) rfl rfl rfl rfl ?_
    refine ev_loc f_X8_readCase (nx := 63) rfl rfl rfl rfl ?_
    refine ev_ic f_X8_readCase (nx := 64) (v := -1) rfl (by decide) rfl ?_
    refine ev_if f_X8_readCase (t1 := 67) (t2 := 76) rfl rfl rfl (fun h18 => ?_) (fun h18 => ?_)
    · have u19 : w17.toInt ≤ (-1) := t_equ h18 (by decide : ((-1):Int32).toInt ≤ ((-1):Int))
      refine ev_loc f_X8_readCase (nx := 68) rfl rfl rfl rfl ?_
      refine ev_getR f_X8_readCase (nx := 71) (v := .ref (ar0 + 1)) rfl p_a0.1 rfl rfl ((hC16.1 ar0 0 (t_ninO hI.wf p_a0.1 (t_outO hI.wf p_a0.1 rfl) rfl)).2.2.trans e15) rfl rfl ?_
      refine ev_ic f_X8_readCase (nx := 72) (v := 2) rfl (by decide) rfl ?_
      refine ev_qI f_X8_readCase (nx := 75) (r := []) rfl rfl rfl rfl rfl rfl rfl (c_s_refuse hI ((ar0 + 1)) p15 (2) (by decide : (2:Int) ≤ (2:Int32).toInt) (Int.le_trans (by decide : (2:Int32).toInt ≤ (2:Int)) (by decide : (2:Int) ≤ 7))) rfl hX rfl (fun w20 gi20 gl20 gr20 l20 u20 hI hX hC20 q20 => ?_)
      have q20 : (∀ (b : Nat → Int32) (n q : Nat), t_TC b n q gi16 gl16 gr16 (ar0 + 1) → t_FL gi20 (ar0 + 1) (s_fk b n q 2) (s_F b n q)) ∧ w20.toInt = 0 ∧ t_on (ar0 + 1) gi16 gl16 gr16 gi20 gl20 gr20 := q20
      replace p_a0 := p_a0.ext hC20.2
      replace p15 := p15.ext hC20.2
      exact ev_retZ f_X8_readCase rfl l20 (Int.le_trans u20 (by decide : (0:Int) ≤ 1)) ⟨_, _, _, rfl, hI, hX, ⟨_, rfl, l20, (Int.le_trans u20 (by decide : (0:Int) ≤ 1)), (show (∀ (b : Nat → Int32) (n q c : Nat), t_US b n q c gi gl gr ar0 → (ar1.toInt = 0 ↔ s_opn b n q) → s_fct b n q → (w20.toInt = 1 ∧ ∃ q2, (∀ k, s_cse b n q k = k q2) ∧ q < q2 ∧ t_US b n q2 (c + 1) gi20 gl20 gr20 ar0) ∨ (w20.toInt = 0 ∧ ∃ p x, x ≠ 0 ∧ (∀ k, s_cse b n q k = s_qb b n p x) ∧ t_FL gi20 (ar0 + 1) (s_fk b n p x) (s_F b n p))) ∧ t_lq ar0 gi gl gr gi20 gl20 gr20 from ⟨(by
                                                            intro b n q c h ho hf
                                                            have h102 := p_a0.2.1
                                                            have hq := h.qn
                                                            have hcc := h.2.1.2
                                                            have h1 := h.c1 rfl (by omega) (z := z1) (by omega) e2
                                                            have hO : ¬ s_opn b n q := fun hh => absurd (ho.mpr hh) (by omega)
                                                            have h2 := h1.on (q16.1 b n _ h1.1.S) q16.2.1 q16.2.2
                                                            have hg := s_fct_gt hf
                                                            have hC : ¬ s_cmp b n (s_E b n q) := fun hh => (q17 b n _ h2.1).mpr hh (by omega)
                                                            exact Or.inr ⟨q20.2.1, _, 2, by decide, fun k => by unfold s_cse; rw [s_ifF hO, s_ifF hC], q20.1 b n _ h2.1⟩), (t_lq.on (t_lq.on (t_lq.I t_lq.rf (by omega) e2) q16.2.2 (by omega)) q20.2.2 (by omega))⟩)⟩⟩
    · have r21 : w17.toInt ≠ (-1) := fun e => h18 (Int32.toInt_inj.mp (e.trans (by decide : ((-1):Int) = ((-1) : Int32).toInt)))
      have l22 : 0 ≤ w17.toInt := t_nel h18 l17 rfl rfl
      refine ev_loc f_X8_readCase (nx := 77) rfl rfl rfl rfl ?_
      refine ev_getR f_X8_readCase (nx := 80) (v := .ref (ar0 + 1)) rfl p_a0.1 rfl rfl ((hC16.1 ar0 0 (t_ninO hI.wf p_a0.1 (t_outO hI.wf p_a0.1 rfl) rfl)).2.2.trans e15) rfl rfl ?_
      refine ev_qN f_X8_readCase (nx := 83) (r := []) rfl rfl rfl rfl rfl rfl rfl (c_s_step hI ((ar0 + 1)) p15) rfl hX rfl (fun gi23 gl23 gr23 hI hX hC23 q23 => ?_)
      have q23 : (∀ (b : Nat → Int32) (n q : Nat), t_Sp b n q gi16 (ar0 + 1) → t_TC b n q gi23 gl23 gr23 (ar0 + 1)) ∧ t_nf gi16 gi23 (ar0 + 1) ∧ t_on (ar0 + 1) gi16 gl16 gr16 gi23 gl23 gr23 := q23
      replace p_a0 := p_a0.ext hC23.2
      replace p15 := p15.ext hC23.2
      refine ev_loc f_X8_readCase (nx := 84) rfl rfl rfl rfl ?_
      have e24 := p_a0.2.2.2.1
      have p24 := p_a0.2.2.2.2
      refine ev_getR f_X8_readCase (nx := 87) rfl p_a0.1 rfl rfl e24 rfl rfl ?_
      refine ev_loc f_X8_readCase (nx := 88) rfl rfl rfl rfl ?_
      refine ev_loc f_X8_readCase (nx := 89) rfl rfl rfl rfl ?_
      refine ev_loc f_X8_readCase (nx := 90) rfl rfl rfl rfl ?_
      refine ev_getR f_X8_readCase (nx := 93) (v := .ref (ar0 + 1)) rfl p_a0.1 rfl rfl ((hC23.1 ar0 0 (t_ninO hI.wf p_a0.1 (t_outO hI.wf p_a0.1 rfl) rfl)).2.2.trans ((hC16.1 ar0 0 (t_ninO hI.wf p_a0.1 (t_outO hI.wf p_a0.1 rfl) rfl)).2.2.trans e15)) rfl rfl ?_
      refine ev_getI f_X8_readCase (nx := 96) rfl p15.1 rfl rfl rfl ?_
      refine ev_qN f_X8_readCase (nx := 99) (r := []) rfl rfl rfl rfl rfl rfl rfl (c_u_addStep hI ((ar0 + 2)) p24 (w17) (ar1) ((gi23 (ar0 + 1) 8))) rfl hX rfl (fun gi25 gl25 gr25 hI hX hC25 q25 => ?_)
      have q25 : t_xc [(ar0 + 2), (ar0 + 2) + 3, (ar0 + 2) + 4, (ar0 + 2) + 5] gi23 gl23 gr23 gi25 gl25 gr25 ∧ gi25 (ar0 + 2) 0 = gi23 (ar0 + 2) 0 := q25
      replace p_a0 := p_a0.ext hC25.2
      replace p15 := p15.ext hC25.2
      replace p24 := p24.ext hC25.2
      refine ev_loc f_X8_readCase (nx := 100) rfl rfl rfl rfl ?_
      refine ev_getR f_X8_readCase (nx := 103) (v := .ref (ar0 + 1)) rfl p_a0.1 rfl rfl ((hC25.1 ar0 0 (t_ninO hI.wf p_a0.1 (t_outO hI.wf p_a0.1 rfl) rfl)).2.2.trans ((hC23.1 ar0 0 (t_ninO hI.wf p_a0.1 (t_outO hI.wf p_a0.1 rfl) rfl)).2.2.trans ((hC16.1 ar0 0 (t_ninO hI.wf p_a0.1 (t_outO hI.wf p_a0.1 rfl) rfl)).2.2.trans e15))) rfl rfl ?_
      refine ev_ic f_X8_readCase (nx := 104) (v := 0) rfl (by decide) rfl ?_
      refine ev_sp f_X8_readCase (nx := 107) (v := 300) rfl (by decide) rfl ?_
      refine ev_qI f_X8_readCase (nx := 110) (r := []) rfl rfl rfl rfl rfl rfl rfl (c_s_takeNumber hI ((ar0 + 1)) p15 (0) (300)) rfl hX rfl (fun w26 gi26 gl26 gr26 l26 u26 hI hX hC26 q26 => ?_)
      have q26 : (∀ (b : Nat → Int32) (n q : Nat), t_TC b n q gi25 gl25 gr25 (ar0 + 1) → (w26.toInt = 1 ∧ s_isV b n q 0 300 ∧ t_TC b n (s_E b n q) gi26 gl26 gr26 (ar0 + 1) ∧ t_nf gi25 gi26 (ar0 + 1)) ∨ (w26.toInt = 0 ∧ s_K b n q ≠ 3 ∧ t_FL gi26 (ar0 + 1) (s_fk b n q 2) (s_F b n q)) ∨ (w26.toInt = 0 ∧ (s_K b n q = 3 ∧ ¬ s_isV b n q 0 300) ∧ t_FL gi26 (ar0 + 1) (s_fk b n q 4) (s_F b n q))) ∧ t_on (ar0 + 1) gi25 gl25 gr25 gi26 gl26 gr26 := q26
      replace p_a0 := p_a0.ext hC26.2
      replace p15 := p15.ext hC26.2
      replace p24 := p24.ext hC26.2
      exact ev_retZ f_X8_readCase rfl l26 u26 ⟨_, _, _, rfl, hI, hX, ⟨_, rfl, l26, u26, (show (∀ (b : Nat → Int32) (n q c : Nat), t_US b n q c gi gl gr ar0 → (ar1.toInt = 0 ↔ s_opn b n q) → s_fct b n q → (w26.toInt = 1 ∧ ∃ q2, (∀ k, s_cse b n q k = k q2) ∧ q < q2 ∧ t_US b n q2 (c + 1) gi26 gl26 gr26 ar0) ∨ (w26.toInt = 0 ∧ ∃ p x, x ≠ 0 ∧ (∀ k, s_cse b n q k = s_qb b n p x) ∧ t_FL gi26 (ar0 + 1) (s_fk b n p x) (s_F b n p))) ∧ t_lq ar0 gi gl gr gi26 gl26 gr26 from ⟨(by
                                                            intro b n q c h ho hf
                                                            have h102 := p_a0.2.1
                                                            have hq := h.qn
                                                            have hcc := h.2.1.2
                                                            have h1 := h.c1 rfl (by omega) (z := z1) (by omega) e2
                                                            have hO : ¬ s_opn b n q := fun hh => absurd (ho.mpr hh) (by omega)
                                                            have h2 := h1.on (q16.1 b n _ h1.1.S) q16.2.1 q16.2.2
                                                            have hg := s_fct_gt hf
                                                            have hC : s_cmp b n (s_E b n q) := (q17 b n _ h2.1).mp (by omega)
                                                            have h3 := h2.on (q23.1 b n _ h2.1.S) q23.2.1 q23.2.2
                                                            have h4 := h3.xc q25.1 (by intro x hx; simp only [List.mem_cons, List.not_mem_nil, or_false] at hx; omega)
                                                            have hg2 := s_cmp_gt hC
                                                            rcases q26.1 b n _ h4.1 with hh | hh | hh
                                                            · have hg3 := s_E_gt (b := b) (n := n) (p := s_E b n (s_E b n q)) (by rw [hh.2.1.1]; decide)
                                                              exact Or.inl ⟨hh.1, _, fun k => by unfold s_cse; rw [s_ifF hO, s_ifT hC, s_ifT hh.2.1.1, s_ifT hh.2.1], by omega, h4.on hh.2.2.1 hh.2.2.2 q26.2⟩
                                                            · exact Or.inr ⟨hh.1, _, 2, by decide, fun k => by unfold s_cse; rw [s_ifF hO, s_ifT hC, s_ifF hh.2.1], hh.2.2⟩
                                                            · exact Or.inr ⟨hh.1, _, 4, by decide, fun k => by unfold s_cse; rw [s_ifF hO, s_ifT hC, s_ifT hh.2.1.1, s_ifF hh.2.1.2], hh.2.2⟩), (t_lq.on (t_lq.ex (t_lq.on (t_lq.on (t_lq.I t_lq.rf (by omega) e2) q16.2.2 (by omega)) q23.2.2 (by omega)) q25.1 (by intro x hx; simp only [List.mem_cons, List.not_mem_nil, or_false] at hx; omega)) q26.2 (by omega))⟩)⟩⟩
noncomputable def wl_u_readOne : List (Nat × Nat) := [(116, 3), (117, 2), (118, 2), (118, 3), (118, 4), (118, 5), (118, 6), (118, 7), (118, 8), (118, 9), (118, 10), (118, 11), (130, 9999)]
noncomputable def Q_u_readOne (gi : Nat → Nat → Int32) (gl : Nat → Nat → Int64) (gr : Nat → Nat → Value) (ar0 : Nat) (ar1 : Int32) : Int32 → (Nat → Nat → Int32) → (Nat → Nat → Int64) → (Nat → Nat → Value) → Prop := fun (v : Int32) (gi2 : Nat → Nat → Int32) (gl2 : Nat → Nat → Int64) (gr2 : Nat → Nat → Value) => (∀ (b : Nat → Int32) (n q c : Nat) (T : List Int), t_US b n q c gi gl gr ar0 → (T.length : Int) = ar1.toInt → (v.toInt = 1 ∧ ∃ q2 c2, s_Cnd b n false q c T = s_Cnd b n true q2 c2 (s_pop T) ∧ q < q2 ∧ t_US b n q2 c2 gi2 gl2 gr2 ar0) ∨ (v.toInt = 0 ∧ ∃ p x, x ≠ 0 ∧ s_Cnd b n false q c T = s_qb b n p x ∧ t_FL gi2 (ar0 + 1) (s_fk b n p x) (s_F b n p))) ∧ t_lq ar0 gi gl gr gi2 gl2 gr2
noncomputable def wl_u_readBoth : List (Nat × Nat) := [(116, 3), (117, 2), (118, 2), (118, 3), (118, 4), (118, 5), (118, 6), (118, 7), (118, 8), (118, 9), (118, 10), (118, 11), (130, 9999)]
noncomputable def Q_u_readBoth (gi : Nat → Nat → Int32) (gl : Nat → Nat → Int64) (gr : Nat → Nat → Value) (ar0 : Nat) (ar1 : Int32) : Int32 → (Nat → Nat → Int32) → (Nat → Nat → Int64) → (Nat → Nat → Value) → Prop := fun (v : Int32) (gi2 : Nat → Nat → Int32) (gl2 : Nat → Nat → Int64) (gr2 : Nat → Nat → Value) => (∀ (b : Nat → Int32) (n q c : Nat) (T : List Int), t_US b n q c gi gl gr ar0 → (T.length : Int) = ar1.toInt → s_pop T = T → (v.toInt = 1 ∧ ∃ q2 c2, s_Cnd b n false q c T = s_Cnd b n true q2 c2 T ∧ q < q2 ∧ t_US b n q2 c2 gi2 gl2 gr2 ar0 ∧ s_W b n q2 ≠ some 19) ∨ (v.toInt = 0 ∧ ∃ p x, x ≠ 0 ∧ s_Cnd b n false q c T = s_qb b n p x ∧ t_FL gi2 (ar0 + 1) (s_fk b n p x) (s_F b n p))) ∧ t_lq ar0 gi gl gr gi2 gl2 gr2
theorem c_u_readBoth {X : x_Ext} {d : Nat} {sh : List (Nat ⊕ (Nat × Nat))} {gi : Nat → Nat → Int32} {gl : Nat → Nat → Int64} {gr : Nat → Nat → Value} (hI : t_I sh gi gr) (ar0 : Nat) (p_a0 : t_UQ sh gr ar0) (ar1 : Int32) (l_a1 : 0 ≤ ar1.toInt) (u_a1 : ar1.toInt ≤ 6) (HO : ∀ {gi : Nat → Nat → Int32} {gl : Nat → Nat → Int64} {gr : Nat → Nat → Value}, t_I sh gi gr → t_UQ sh gr ar0 → x_Me X d n_X8_readOne [.ref ar0, .int ar1] (sh, gi, gl, gr) (t_PI wl_u_readOne sh gi gl gr 0 1 (Q_u_readOne gi gl gr ar0 ar1))) : x_Me X (d + 3) n_X8_readBoth [.ref ar0, .int ar1] (sh, gi, gl, gr) (t_PI wl_u_readBoth sh gi gl gr 0 1 (Q_u_readBoth gi gl gr ar0 ar1)) := by
  have hX : t_X wl_u_readBoth sh gi gl gr gi gl gr := t_X.rf
  refine me_i f_X8_readBoth p_a0.1 rfl rfl rfl ?_
  refine ev_loc f_X8_readBoth (nx := 1) rfl rfl rfl rfl ?_
  refine ev_loc f_X8_readBoth (nx := 2) rfl rfl rfl rfl ?_
  refine ev_qI f_X8_readBoth (nx := 5) (r := []) rfl rfl rfl rfl rfl rfl rfl (x_Me.up (HO hI p_a0) (by omega)) rfl hX rfl (fun w1 gi1 gl1 gr1 l1 u1 hI hX hC1 q1 => ?_)
  have q1 : (∀ (b : Nat → Int32) (n q c : Nat) (T : List Int), t_US b n q c gi gl gr ar0 → (T.length : Int) = ar1.toInt → (w1.toInt = 1 ∧ ∃ q2 c2, s_Cnd b n false q c T = s_Cnd b n true q2 c2 (s_pop T) ∧ q < q2 ∧ t_US b n q2 c2 gi1 gl1 gr1 ar0) ∨ (w1.toInt = 0 ∧ ∃ p x, x ≠ 0 ∧ s_Cnd b n false q c T = s_qb b n p x ∧ t_FL gi1 (ar0 + 1) (s_fk b n p x) (s_F b n p))) ∧ t_lq ar0 gi gl gr gi1 gl1 gr1 := q1
  replace p_a0 := p_a0.ext hC1.2
  refine ev_if f_X8_readBoth (t1 := 8) (t2 := 10) rfl rfl rfl (fun h2 => ?_) (fun h2 => ?_)
  · have u3 : w1.toInt ≤ 0 := t_equ h2 (by decide : (0:Int32).toInt ≤ (0:Int))
    refine ev_ic f_X8_readBoth (nx := 9) (v := 0) rfl (by decide) rfl ?_
    exact ev_ret f_X8_readBoth rfl rfl rfl ⟨_, _, _, rfl, hI, hX, ⟨_, rfl, (by decide : (0:Int) ≤ (0:Int32).toInt), (Int.le_trans (by decide : (0:Int32).toInt ≤ (0:Int)) (by decide : (0:Int) ≤ 1)), (show (∀ (b : Nat → Int32) (n q c : Nat) (T : List Int), t_US b n q c gi gl gr ar0 → (T.length : Int) = ar1.toInt → s_pop T = T → ((0 : Int) = 1 ∧ ∃ q2 c2, s_Cnd b n false q c T = s_Cnd b n true q2 c2 T ∧ q < q2 ∧ t_US b n q2 c2 gi1 gl1 gr1 ar0 ∧ s_W b n q2 ≠ some 19) ∨ ((0 : Int) = 0 ∧ ∃ p x, x ≠ 0 ∧ s_Cnd b n false q c T = s_qb b n p x ∧ t_FL gi1 (ar0 + 1) (s_fk b n p x) (s_F b n p))) ∧ t_lq ar0 gi gl gr gi1 gl1 gr1 from ⟨fun b n q c T h hT hp => (by
                                                            obtain ⟨_, p, x, hx, hX, hf⟩ := (q1.1 b n _ _ T h hT).resolve_left (fun hh => absurd hh.1 (by omega))
                                                            exact Or.inr ⟨rfl, p, x, hx, hX, hf⟩), (t_lq.tr t_lq.rf q1.2)⟩)⟩⟩
  · have r4 : w1.toInt ≠ 0 := fun e => h2 (Int32.toInt_inj.mp (e.trans (by decide : (0:Int) = (0 : Int32).toInt)))
    have l5 : 1 ≤ w1.toInt := t_nel h2 l1 rfl rfl
    refine ev_ic f_X8_readBoth (nx := 11) (v := 0) rfl (by decide) rfl ?_
    refine ev_loc f_X8_readBoth (nx := 12) (lo' := [(2, .int 0), (0, .ref ar0), (1, .int ar1)]) rfl rfl rfl rfl ?_
    have L6 : ∀ (m6 : Nat) (gi6 : Nat → Nat → Int32) (gl6 : Nat → Nat → Int64) (gr6 : Nat → Nat → Value) (y6_2 : Int32), t_I sh gi6 gr6 → t_X wl_u_readBoth sh gi gl gr gi6 gl6 gr6 → t_UQ sh gr6 ar0 → 0 ≤ y6_2.toInt → y6_2.toInt ≤ 300 → (∀ (b : Nat → Int32) (n q c : Nat) (T : List Int), t_US b n q c gi gl gr ar0 → (T.length : Int) = ar1.toInt → s_pop T = T → ∃ q2 c2, s_Cnd b n false q c T = s_Cnd b n true q2 c2 T ∧ q < q2 ∧ y6_2.toInt < (q2 : Int) ∧ t_US b n q2 c2 gi6 gl6 gr6 ar0) ∧ t_lq ar0 gi gl gr gi6 gl6 gr6 → (300 - y6_2.toInt).toNat = m6 → x_Ev X (d + 3) n_X8_readBoth 12 [(2, .int y6_2), (0, .ref ar0), (1, .int ar1)] [] (sh, gi6, gl6, gr6) (t_PI wl_u_readBoth sh gi gl gr 0 1 (Q_u_readBoth gi gl gr ar0 ar1)) := by
      intro m6
      induction m6 using Nat.strongRecOn with
      | _ m6 ih6 =>
      intro gi6 gl6 gr6 y6_2 hI hX p_a0 l6_2 u6_2 j6_0 hm6
      refine ev_loc f_X8_readBoth (nx := 13) rfl rfl rfl rfl ?_
      refine ev_sp f_X8_readBoth (nx := 16) (v := 300) rfl (by decide) rfl ?_
      refine ev_if f_X8_readBoth (t1 := 65) (t2 := 19) rfl rfl rfl (fun h7 => ?_) (fun h7 => ?_)
      · have l8 : 300 ≤ y6_2.toInt := t_lel h7 (by decide : (300:Int) ≤ (300:Int32).toInt)
        refine ev_ic f_X8_readBoth (nx := 66) (v := 1) rfl (by decide) rfl ?_
        exact ev_ret f_X8_readBoth rfl rfl rfl ⟨_, _, _, rfl, hI, hX, ⟨_, rfl, (Int.le_trans (by decide : (0:Int) ≤ 1) (by decide : (1:Int) ≤ (1:Int32).toInt)), (by decide : (1:Int32).toInt ≤ (1:Int)), (show (∀ (b : Nat → Int32) (n q c : Nat) (T : List Int), t_US b n q c gi gl gr ar0 → (T.length : Int) = ar1.toInt → s_pop T = T → ((1 : Int) = 1 ∧ ∃ q2 c2, s_Cnd b n false q c T = s_Cnd b n true q2 c2 T ∧ q < q2 ∧ t_US b n q2 c2 gi6 gl6 gr6 ar0 ∧ s_W b n q2 ≠ some 19) ∨ ((1 : Int) = 0 ∧ ∃ p x, x ≠ 0 ∧ s_Cnd b n false q c T = s_qb b n p x ∧ t_FL gi6 (ar0 + 1) (s_fk b n p x) (s_F b n p))) ∧ t_lq ar0 gi gl gr gi6 gl6 gr6 from ⟨fun b n q c T h hT hp => (by
                                                            obtain ⟨q2, c2, hC, hl0, hi, h2⟩ := j6_0.1 b n q c T h hT hp
                                                            have h102 := p_a0.2.1
                                                            have hn3 := h2.2.1.1
                                                            have hq2 := h2.qn
                                                            exact absurd hi (by omega)), j6_0.2⟩)⟩⟩
      · have u9 : y6_2.toInt ≤ 299 := t_ltu (t_nle h7) (by decide : (300:Int32).toInt ≤ (300:Int)) rfl
        refine ev_loc f_X8_readBoth (nx := 20) rfl rfl rfl rfl ?_
        have e10 := p_a0.2.2.1.1
        have p10 := p_a0.2.2.1.2
        refine ev_getR f_X8_readBoth (nx := 23) rfl p_a0.1 rfl rfl e10 rfl rfl ?_
        have k11 := hI.2.2.2.1.2.2.2.2.2 (ar0 + 1) p10.1
        obtain ⟨v11, e11⟩ : ∃ v, gr6 (ar0 + 1) 7 = v := ⟨_, rfl⟩
        rw [e11] at k11
        refine ev_getR f_X8_readBoth (nx := 26) rfl p10.1 rfl rfl e11 (t_KwR k11) rfl ?_
        refine ev_heap f_X8_readBoth (nx := 29) rfl rfl rfl rfl ?_
        refine ev_ack f_X8_readBoth (t1 := 32) (t2 := 65) rfl rfl rfl (t_knw k11) rfl (fun h12 => ?_) (fun h12 => ?_)
        · refine ev_loc f_X8_readBoth (nx := 33) rfl rfl rfl rfl ?_
          refine ev_getR f_X8_readBoth (nx := 36) (v := .ref (ar0 + 1)) rfl p_a0.1 rfl rfl e10 rfl rfl ?_
          refine ev_qN f_X8_readBoth (nx := 39) (r := []) rfl rfl rfl rfl rfl rfl rfl (c_s_step hI ((ar0 + 1)) p10) rfl hX rfl (fun gi13 gl13 gr13 hI hX hC13 q13 => ?_)
          have q13 : (∀ (b : Nat → Int32) (n q : Nat), t_Sp b n q gi6 (ar0 + 1) → t_TC b n q gi13 gl13 gr13 (ar0 + 1)) ∧ t_nf gi6 gi13 (ar0 + 1) ∧ t_on (ar0 + 1) gi6 gl6 gr6 gi13 gl13 gr13 := q13
          replace p_a0 := p_a0.ext hC13.2
          replace p10 := p10.ext hC13.2
          refine ev_loc f_X8_readBoth (nx := 40) rfl rfl rfl rfl ?_
          refine ev_loc f_X8_readBoth (nx := 41) rfl rfl rfl rfl ?_
          refine ev_qI f_X8_readBoth (nx := 44) (r := []) rfl rfl rfl rfl rfl rfl rfl (x_Me.up (HO hI p_a0) (by omega)) rfl hX rfl (fun w14 gi14 gl14 gr14 l14 u14 hI hX hC14 q14 => ?_)
          have q14 : (∀ (b : Nat → Int32) (n q c : Nat) (T : List Int), t_US b n q c gi13 gl13 gr13 ar0 → (T.length : Int) = ar1.toInt → (w14.toInt = 1 ∧ ∃ q2 c2, s_Cnd b n false q c T = s_Cnd b n true q2 c2 (s_pop T) ∧ q < q2 ∧ t_US b n q2 c2 gi14 gl14 gr14 ar0) ∨ (w14.toInt = 0 ∧ ∃ p x, x ≠ 0 ∧ s_Cnd b n false q c T = s_qb b n p x ∧ t_FL gi14 (ar0 + 1) (s_fk b n p x) (s_F b n p))) ∧ t_lq ar0 gi13 gl13 gr13 gi14 gl14 gr14 := q14
          replace p_a0 := p_a0.ext hC14.2
          replace p10 := p10.ext hC14.2
          refine ev_if f_X8_readBoth (t1 := 47) (t2 := 49) rfl rfl rfl (fun h15 => ?_) (fun h15 => ?_)
          · have u16 : w14.toInt ≤ 0 := t_equ h15 (by decide : (0:Int32).toInt ≤ (0:Int))
            refine ev_ic f_X8_readBoth (nx := 48) (v := 0) rfl (by decide) rfl ?_
            exact ev_ret f_X8_readBoth rfl rfl rfl ⟨_, _, _, rfl, hI, hX, ⟨_, rfl, (by decide : (0:Int) ≤ (0:Int32).toInt), (Int.le_trans (by decide : (0:Int32).toInt ≤ (0:Int)) (by decide : (0:Int) ≤ 1)), (show (∀ (b : Nat → Int32) (n q c : Nat) (T : List Int), t_US b n q c gi gl gr ar0 → (T.length : Int) = ar1.toInt → s_pop T = T → ((0 : Int) = 1 ∧ ∃ q2 c2, s_Cnd b n false q c T = s_Cnd b n true q2 c2 T ∧ q < q2 ∧ t_US b n q2 c2 gi14 gl14 gr14 ar0 ∧ s_W b n q2 ≠ some 19) ∨ ((0 : Int) = 0 ∧ ∃ p x, x ≠ 0 ∧ s_Cnd b n false q c T = s_qb b n p x ∧ t_FL gi14 (ar0 + 1) (s_fk b n p x) (s_F b n p))) ∧ t_lq ar0 gi gl gr gi14 gl14 gr14 from ⟨fun b n q c T h hT hp => (by
                                                            obtain ⟨q2, c2, hC, hl0, hi, h2⟩ := j6_0.1 b n q c T h hT hp
                                                            have h102 := p_a0.2.1
                                                            have hn3 := h2.2.1.1
                                                            have hq2 := h2.qn
                                                            have hW := h2.1.kwT e11 h12
                                                            have hJ : s_jnd b n q2 := Or.inr hW
                                                            have h2a := h2.on (q13.1 b n _ h2.1.S) q13.2.1 q13.2.2
                                                            obtain ⟨_, p, x, hx, hX, hf⟩ := (q14.1 b n _ _ T h2a hT).resolve_left (fun hh => absurd hh.1 (by omega))
                                                            exact Or.inr ⟨rfl, p, x, hx, (hC.trans (s_Cnd_j h2.qn hJ)).trans hX, hf⟩), (t_lq.tr (t_lq.on j6_0.2 q13.2.2 (by omega)) q14.2)⟩)⟩⟩
          · have r17 : w14.toInt ≠ 0 := fun e => h15 (Int32.toInt_inj.mp (e.trans (by decide : (0:Int) = (0 : Int32).toInt)))
            have l18 : 1 ≤ w14.toInt := t_nel h15 l14 rfl rfl
            refine ev_loc f_X8_readBoth (nx := 50) rfl rfl rfl rfl ?_
            have e19 := p_a0.2.2.2.1
            have p19 := p_a0.2.2.2.2
            refine ev_getR f_X8_readBoth (nx := 53) rfl p_a0.1 rfl rfl e19 rfl rfl ?_
            refine ev_ic f_X8_readBoth (nx := 54) (v := 4) rfl (by decide) rfl ?_
            refine ev_ic f_X8_readBoth (nx := 55) (v := 0) rfl (by decide) rfl ?_
            refine ev_ic f_X8_readBoth (nx := 56) (v := 0) rfl (by decide) rfl ?_
            refine ev_qN f_X8_readBoth (nx := 59) (r := []) rfl rfl rfl rfl rfl rfl rfl (c_u_addStep hI ((ar0 + 2)) p19 (4) (0) (0)) rfl hX rfl (fun gi20 gl20 gr20 hI hX hC20 q20 => ?_)
            have q20 : t_xc [(ar0 + 2), (ar0 + 2) + 3, (ar0 + 2) + 4, (ar0 + 2) + 5] gi14 gl14 gr14 gi20 gl20 gr20 ∧ gi20 (ar0 + 2) 0 = gi14 (ar0 + 2) 0 := q20
            replace p_a0 := p_a0.ext hC20.2
            replace p10 := p10.ext hC20.2
            replace p19 := p19.ext hC20.2
            refine ev_incR f_X8_readBoth (nx := 62) (c := 1) (l := 1) (u := 300) rfl rfl (by decide) (by decide) l6_2 u9 rfl rfl (by decide) (by decide) rfl (fun z21 e21 l21 u21 => ?_)
            refine ev_jmp f_X8_readBoth (nx := 12) rfl rfl rfl ?_
            refine ev_sub (lo := [(2, .int z21), (0, .ref ar0), (1, .int ar1)]) rfl (t_sc rfl (t_sc rfl (t_sc rfl t_sn))) ?_
            exact ih6 _ (by omega) gi20 gl20 gr20 (z21) hI hX p_a0 (Int.le_trans (by decide : (0:Int) ≤ 1) l21) u21 ⟨fun b n q c T h hT hp => (by
                                                            obtain ⟨q2, c2, hC, hl0, hi, h2⟩ := j6_0.1 b n q c T h hT hp
                                                            have h102 := p_a0.2.1
                                                            have hW := h2.1.kwT e11 h12
                                                            have hJ : s_jnd b n q2 := Or.inr hW
                                                            have hg := s_jnd_gt hJ
                                                            have h2a := h2.on (q13.1 b n _ h2.1.S) q13.2.1 q13.2.2
                                                            obtain ⟨_, q3, c3, hX, hlt, h3⟩ := (q14.1 b n _ _ T h2a hT).resolve_right (fun hh => absurd hh.1 (by omega))
                                                            have h4 := h3.xc q20.1 (by intro x hx; simp only [List.mem_cons, List.not_mem_nil, or_false] at hx; omega)
                                                            exact ⟨q3, c3, (hC.trans (s_Cnd_j h2.qn hJ)).trans (by rw [hp] at hX; exact hX), by omega, by omega, h4⟩), (t_lq.ex (t_lq.tr (t_lq.on j6_0.2 q13.2.2 (by omega)) q14.2) q20.1 (by intro x hx; simp only [List.mem_cons, List.not_mem_nil, or_false] at hx; omega))⟩ rfl
        · refine ev_ic f_X8_readBoth (nx := 66) (v := 1) rfl (by decide) rfl ?_
          exact ev_ret f_X8_readBoth rfl rfl rfl ⟨_, _, _, rfl, hI, hX, ⟨_, rfl, (Int.le_trans (by decide : (0:Int) ≤ 1) (by decide : (1:Int) ≤ (1:Int32).toInt)), (by decide : (1:Int32).toInt ≤ (1:Int)), (show (∀ (b : Nat → Int32) (n q c : Nat) (T : List Int), t_US b n q c gi gl gr ar0 → (T.length : Int) = ar1.toInt → s_pop T = T → ((1 : Int) = 1 ∧ ∃ q2 c2, s_Cnd b n false q c T = s_Cnd b n true q2 c2 T ∧ q < q2 ∧ t_US b n q2 c2 gi6 gl6 gr6 ar0 ∧ s_W b n q2 ≠ some 19) ∨ ((1 : Int) = 0 ∧ ∃ p x, x ≠ 0 ∧ s_Cnd b n false q c T = s_qb b n p x ∧ t_FL gi6 (ar0 + 1) (s_fk b n p x) (s_F b n p))) ∧ t_lq ar0 gi gl gr gi6 gl6 gr6 from ⟨fun b n q c T h hT hp => (by
                                                            obtain ⟨q2, c2, hC, hl0, hi, h2⟩ := j6_0.1 b n q c T h hT hp
                                                            have h102 := p_a0.2.1
                                                            have hn3 := h2.2.1.1
                                                            have hq2 := h2.qn
                                                            exact Or.inl ⟨rfl, q2, c2, hC, hl0, h2, (h2.1.kwF e11 h12)⟩), j6_0.2⟩)⟩⟩
    refine ev_sub (lo := [(2, .int 0), (0, .ref ar0), (1, .int ar1)]) rfl (t_sc rfl (t_sc rfl (t_sc rfl t_sn))) ?_
    exact L6 _ gi1 gl1 gr1 (0) hI hX p_a0 (by decide : (0:Int) ≤ (0:Int32).toInt) (Int.le_trans (by decide : (0:Int32).toInt ≤ (0:Int)) (by decide : (0:Int) ≤ 300)) ⟨fun b n q c T h hT hp => (by
                                                            obtain ⟨_, q3, c3, hX, hlt, h3⟩ := (q1.1 b n _ _ T h hT).resolve_right (fun hh => absurd hh.1 (by omega))
                                                            exact ⟨q3, c3, by rw [hp] at hX; exact hX, hlt, by have : (0 : Int32).toInt = 0 := rfl; omega, h3⟩), (t_lq.tr t_lq.rf q1.2)⟩ rfl
noncomputable def wl_u_readEither : List (Nat × Nat) := [(116, 3), (117, 2), (118, 2), (118, 3), (118, 4), (118, 5), (118, 6), (118, 7), (118, 8), (118, 9), (118, 10), (118, 11), (130, 9999)]
noncomputable def Q_u_readEither (gi : Nat → Nat → Int32) (gl : Nat → Nat → Int64) (gr : Nat → Nat → Value) (ar0 : Nat) (ar1 : Int32) : Int32 → (Nat → Nat → Int32) → (Nat → Nat → Int64) → (Nat → Nat → Value) → Prop := fun (v : Int32) (gi2 : Nat → Nat → Int32) (gl2 : Nat → Nat → Int64) (gr2 : Nat → Nat → Value) => (∀ (b : Nat → Int32) (n q c : Nat) (T : List Int), t_US b n q c gi gl gr ar0 → (T.length : Int) = ar1.toInt → s_pop T = T → (v.toInt = 1 ∧ ∃ q2 c2, s_Cnd b n false q c T = s_Cnd b n true q2 c2 T ∧ q < q2 ∧ t_US b n q2 c2 gi2 gl2 gr2 ar0 ∧ ¬ s_jnd b n q2) ∨ (v.toInt = 0 ∧ ∃ p x, x ≠ 0 ∧ s_Cnd b n false q c T = s_qb b n p x ∧ t_FL gi2 (ar0 + 1) (s_fk b n p x) (s_F b n p))) ∧ t_lq ar0 gi gl gr gi2 gl2 gr2
theorem c_u_readEither {X : x_Ext} {d : Nat} {sh : List (Nat ⊕ (Nat × Nat))} {gi : Nat → Nat → Int32} {gl : Nat → Nat → Int64} {gr : Nat → Nat → Value} (hI : t_I sh gi gr) (ar0 : Nat) (p_a0 : t_UQ sh gr ar0) (ar1 : Int32) (l_a1 : 0 ≤ ar1.toInt) (u_a1 : ar1.toInt ≤ 6) (HO : ∀ {gi : Nat → Nat → Int32} {gl : Nat → Nat → Int64} {gr : Nat → Nat → Value}, t_I sh gi gr → t_UQ sh gr ar0 → x_Me X d n_X8_readOne [.ref ar0, .int ar1] (sh, gi, gl, gr) (t_PI wl_u_readOne sh gi gl gr 0 1 (Q_u_readOne gi gl gr ar0 ar1))) : x_Me X (d + 4) n_X8_readEither [.ref ar0, .int ar1] (sh, gi, gl, gr) (t_PI wl_u_readEither sh gi gl gr 0 1 (Q_u_readEither gi gl gr ar0 ar1)) := by
  have hX : t_X wl_u_readEither sh gi gl gr gi gl gr := t_X.rf
  refine me_i f_X8_readEither p_a0.1 rfl rfl rfl ?_
  refine ev_loc f_X8_readEither (nx := 1) rfl rfl rfl rfl ?_
  refine ev_loc f_X8_readEither (nx := 2) rfl rfl rfl rfl ?_
  refine ev_qI f_X8_readEither (nx := 5) (r := []) rfl rfl rfl rfl rfl rfl rfl (c_u_readBoth hI (ar0) p_a0 (ar1) l_a1 u_a1 HO) rfl hX rfl (fun w1 gi1 gl1 gr1 l1 u1 hI hX hC1 q1 => ?_)
  have q1 : (∀ (b : Nat → Int32) (n q c : Nat) (T : List Int), t_US b n q c gi gl gr ar0 → (T.length : Int) = ar1.toInt → s_pop T = T → (w1.toInt = 1 ∧ ∃ q2 c2, s_Cnd b n false q c T = s_Cnd b n true q2 c2 T ∧ q < q2 ∧ t_US b n q2 c2 gi1 gl1 gr1 ar0 ∧ s_W b n q2 ≠ some 19) ∨ (w1.toInt = 0 ∧ ∃ p x, x ≠ 0 ∧ s_Cnd b n false q c T = s_qb b n p x ∧ t_FL gi1 (ar0 + 1) (s_fk b n p x) (s_F b n p))) ∧ t_lq ar0 gi gl gr gi1 gl1 gr1 := q1
  replace p_a0 := p_a0.ext hC1.2
  refine ev_if f_X8_readEither (t1 := 8) (t2 := 10) rfl rfl rfl (fun h2 => ?_) (fun h2 => ?_)
  · have u3 : w1.toInt ≤ 0 := t_equ h2 (by decide : (0:Int32).toInt ≤ (0:Int))
    refine ev_ic f_X8_readEither (nx := 9) (v := 0) rfl (by decide) rfl ?_
    exact ev_ret f_X8_readEither rfl rfl rfl ⟨_, _, _, rfl, hI, hX, ⟨_, rfl, (by decide : (0:Int) ≤ (0:Int32).toInt), (Int.le_trans (by decide : (0:Int32).toInt ≤ (0:Int)) (by decide : (0:Int) ≤ 1)), (show (∀ (b : Nat → Int32) (n q c : Nat) (T : List Int), t_US b n q c gi gl gr ar0 → (T.length : Int) = ar1.toInt → s_pop T = T → ((0 : Int) = 1 ∧ ∃ q2 c2, s_Cnd b n false q c T = s_Cnd b n true q2 c2 T ∧ q < q2 ∧ t_US b n q2 c2 gi1 gl1 gr1 ar0 ∧ ¬ s_jnd b n q2) ∨ ((0 : Int) = 0 ∧ ∃ p x, x ≠ 0 ∧ s_Cnd b n false q c T = s_qb b n p x ∧ t_FL gi1 (ar0 + 1) (s_fk b n p x) (s_F b n p))) ∧ t_lq ar0 gi gl gr gi1 gl1 gr1 from ⟨fun b n q c T h hT hp => (by
                                                            obtain ⟨_, p, x, hx, hX, hf⟩ := (q1.1 b n _ _ T h hT hp).resolve_left (fun hh => absurd hh.1 (by omega))
                                                            exact Or.inr ⟨rfl, p, x, hx, hX, hf⟩), (t_lq.tr t_lq.rf q1.2)⟩)⟩⟩
  · have r4 : w1.toInt ≠ 0 := fun e => h2 (Int32.toInt_inj.mp (e.trans (by decide : (0:Int) = (0 : Int32).toInt)))
    have l5 : 1 ≤ w1.toInt := t_nel h2 l1 rfl rfl
    refine ev_ic f_X8_readEither (nx := 11) (v := 0) rfl (by decide) rfl ?_
    refine ev_loc f_X8_readEither (nx := 12) (lo' := [(2, .int 0), (0, .ref ar0), (1, .int ar1)]) rfl rfl rfl rfl ?_
    have L6 : ∀ (m6 : Nat) (gi6 : Nat → Nat → Int32) (gl6 : Nat → Nat → Int64) (gr6 : Nat → Nat → Value) (y6_2 : Int32), t_I sh gi6 gr6 → t_X wl_u_readEither sh gi gl gr gi6 gl6 gr6 → t_UQ sh gr6 ar0 → 0 ≤ y6_2.toInt → y6_2.toInt ≤ 300 → (∀ (b : Nat → Int32) (n q c : Nat) (T : List Int), t_US b n q c gi gl gr ar0 → (T.length : Int) = ar1.toInt → s_pop T = T → ∃ q2 c2, s_Cnd b n false q c T = s_Cnd b n true q2 c2 T ∧ q < q2 ∧ y6_2.toInt < (q2 : Int) ∧ t_US b n q2 c2 gi6 gl6 gr6 ar0 ∧ s_W b n q2 ≠ some 19) ∧ t_lq ar0 gi gl gr gi6 gl6 gr6 → (300 - y6_2.toInt).toNat = m6 → x_Ev X (d + 4) n_X8_readEither 12 [(2, .int y6_2), (0, .ref ar0), (1, .int ar1)] [] (sh, gi6, gl6, gr6) (t_PI wl_u_readEither sh gi gl gr 0 1 (Q_u_readEither gi gl gr ar0 ar1)) := by
      intro m6
      induction m6 using Nat.strongRecOn with
      | _ m6 ih6 =>
      intro gi6 gl6 gr6 y6_2 hI hX p_a0 l6_2 u6_2 j6_0 hm6
      refine ev_loc f_X8_readEither (nx := 13) rfl rfl rfl rfl ?_
      refine ev_sp f_X8_readEither (nx := 16) (v := 300) rfl (by decide) rfl ?_
      refine ev_if f_X8_readEither (t1 := 65) (t2 := 19) rfl rfl rfl (fun h7 => ?_) (fun h7 => ?_)
      · have l8 : 300 ≤ y6_2.toInt := t_lel h7 (by decide : (300:Int) ≤ (300:Int32).toInt)
        refine ev_ic f_X8_readEither (nx := 66) (v := 1) rfl (by decide) rfl ?_
        exact ev_ret f_X8_readEither rfl rfl rfl ⟨_, _, _, rfl, hI, hX, ⟨_, rfl, (Int.le_trans (by decide : (0:Int) ≤ 1) (by decide : (1:Int) ≤ (1:Int32).toInt)), (by decide : (1:Int32).toInt ≤ (1:Int)), (show (∀ (b : Nat → Int32) (n q c : Nat) (T : List Int), t_US b n q c gi gl gr ar0 → (T.length : Int) = ar1.toInt → s_pop T = T → ((1 : Int) = 1 ∧ ∃ q2 c2, s_Cnd b n false q c T = s_Cnd b n true q2 c2 T ∧ q < q2 ∧ t_US b n q2 c2 gi6 gl6 gr6 ar0 ∧ ¬ s_jnd b n q2) ∨ ((1 : Int) = 0 ∧ ∃ p x, x ≠ 0 ∧ s_Cnd b n false q c T = s_qb b n p x ∧ t_FL gi6 (ar0 + 1) (s_fk b n p x) (s_F b n p))) ∧ t_lq ar0 gi gl gr gi6 gl6 gr6 from ⟨fun b n q c T h hT hp => (by
                                                            obtain ⟨q2, c2, hC, hl0, hi, h2, hw2⟩ := j6_0.1 b n q c T h hT hp
                                                            have h102 := p_a0.2.1
                                                            have hn3 := h2.2.1.1
                                                            have hq2 := h2.qn
                                                            exact absurd hi (by omega)), j6_0.2⟩)⟩⟩
      · have u9 : y6_2.toInt ≤ 299 := t_ltu (t_nle h7) (by decide : (300:Int32).toInt ≤ (300:Int)) rfl
        refine ev_loc f_X8_readEither (nx := 20) rfl rfl rfl rfl ?_
        have e10 := p_a0.2.2.1.1
        have p10 := p_a0.2.2.1.2
        refine ev_getR f_X8_readEither (nx := 23) rfl p_a0.1 rfl rfl e10 rfl rfl ?_
        have k11 := hI.2.2.2.1.2.2.2.2.2 (ar0 + 1) p10.1
        obtain ⟨v11, e11⟩ : ∃ v, gr6 (ar0 + 1) 7 = v := ⟨_, rfl⟩
        rw [e11] at k11
        refine ev_getR f_X8_readEither (nx := 26) rfl p10.1 rfl rfl e11 (t_KwR k11) rfl ?_
        refine ev_heap f_X8_readEither (nx := 29) rfl rfl rfl rfl ?_
        refine ev_ack f_X8_readEither (t1 := 32) (t2 := 65) rfl rfl rfl (t_knw k11) rfl (fun h12 => ?_) (fun h12 => ?_)
        · refine ev_loc f_X8_readEither (nx := 33) rfl rfl rfl rfl ?_
          refine ev_getR f_X8_readEither (nx := 36) (v := .ref (ar0 + 1)) rfl p_a0.1 rfl rfl e10 rfl rfl ?_
          refine ev_qN f_X8_readEither (nx := 39) (r := []) rfl rfl rfl rfl rfl rfl rfl (c_s_step hI ((ar0 + 1)) p10) rfl hX rfl (fun gi13 gl13 gr13 hI hX hC13 q13 => ?_)
          have q13 : (∀ (b : Nat → Int32) (n q : Nat), t_Sp b n q gi6 (ar0 + 1) → t_TC b n q gi13 gl13 gr13 (ar0 + 1)) ∧ t_nf gi6 gi13 (ar0 + 1) ∧ t_on (ar0 + 1) gi6 gl6 gr6 gi13 gl13 gr13 := q13
          replace p_a0 := p_a0.ext hC13.2
          replace p10 := p10.ext hC13.2
          refine ev_loc f_X8_readEither (nx := 40) rfl rfl rfl rfl ?_
          refine ev_loc f_X8_readEither (nx := 41) rfl rfl rfl rfl ?_
          refine ev_qI f_X8_readEither (nx := 44) (r := []) rfl rfl rfl rfl rfl rfl rfl (c_u_readBoth hI (ar0) p_a0 (ar1) l_a1 u_a1 HO) rfl hX rfl (fun w14 gi14 gl14 gr14 l14 u14 hI hX hC14 q14 => ?_)
          have q14 : (∀ (b : Nat → Int32) (n q c : Nat) (T : List Int), t_US b n q c gi13 gl13 gr13 ar0 → (T.length : Int) = ar1.toInt → s_pop T = T → (w14.toInt = 1 ∧ ∃ q2 c2, s_Cnd b n false q c T = s_Cnd b n true q2 c2 T ∧ q < q2 ∧ t_US b n q2 c2 gi14 gl14 gr14 ar0 ∧ s_W b n q2 ≠ some 19) ∨ (w14.toInt = 0 ∧ ∃ p x, x ≠ 0 ∧ s_Cnd b n false q c T = s_qb b n p x ∧ t_FL gi14 (ar0 + 1) (s_fk b n p x) (s_F b n p))) ∧ t_lq ar0 gi13 gl13 gr13 gi14 gl14 gr14 := q14
          replace p_a0 := p_a0.ext hC14.2
          replace p10 := p10.ext hC14.2
          refine ev_if f_X8_readEither (t1 := 47) (t2 := 49) rfl rfl rfl (fun h15 => ?_) (fun h15 => ?_)
          · have u16 : w14.toInt ≤ 0 := t_equ h15 (by decide : (0:Int32).toInt ≤ (0:Int))
            refine ev_ic f_X8_readEither (nx := 48) (v := 0) rfl (by decide) rfl ?_
            exact ev_ret f_X8_readEither rfl rfl rfl ⟨_, _, _, rfl, hI, hX, ⟨_, rfl, (by decide : (0:Int) ≤ (0:Int32).toInt), (Int.le_trans (by decide : (0:Int32).toInt ≤ (0:Int)) (by decide : (0:Int) ≤ 1)), (show (∀ (b : Nat → Int32) (n q c : Nat) (T : List Int), t_US b n q c gi gl gr ar0 → (T.length : Int) = ar1.toInt → s_pop T = T → ((0 : Int) = 1 ∧ ∃ q2 c2, s_Cnd b n false q c T = s_Cnd b n true q2 c2 T ∧ q < q2 ∧ t_US b n q2 c2 gi14 gl14 gr14 ar0 ∧ ¬ s_jnd b n q2) ∨ ((0 : Int) = 0 ∧ ∃ p x, x ≠ 0 ∧ s_Cnd b n false q c T = s_qb b n p x ∧ t_FL gi14 (ar0 + 1) (s_fk b n p x) (s_F b n p))) ∧ t_lq ar0 gi gl gr gi14 gl14 gr14 from ⟨fun b n q c T h hT hp => (by
                                                            obtain ⟨q2, c2, hC, hl0, hi, h2, hw2⟩ := j6_0.1 b n q c T h hT hp
                                                            have h102 := p_a0.2.1
                                                            have hn3 := h2.2.1.1
                                                            have hq2 := h2.qn
                                                            have hW := h2.1.kwT e11 h12
                                                            have hJ : s_jnd b n q2 := Or.inl hW
                                                            have h2a := h2.on (q13.1 b n _ h2.1.S) q13.2.1 q13.2.2
                                                            obtain ⟨_, p, x, hx, hX, hf⟩ := (q14.1 b n _ _ T h2a hT hp).resolve_left (fun hh => absurd hh.1 (by omega))
                                                            exact Or.inr ⟨rfl, p, x, hx, (hC.trans (s_Cnd_j h2.qn hJ)).trans hX, hf⟩), (t_lq.tr (t_lq.on j6_0.2 q13.2.2 (by omega)) q14.2)⟩)⟩⟩
          · have r17 : w14.toInt ≠ 0 := fun e => h15 (Int32.toInt_inj.mp (e.trans (by decide : (0:Int) = (0 : Int32).toInt)))
            have l18 : 1 ≤ w14.toInt := t_nel h15 l14 rfl rfl
            refine ev_loc f_X8_readEither (nx := 50) rfl rfl rfl rfl ?_
            have e19 := p_a0.2.2.2.1
            have p19 := p_a0.2.2.2.2
            refine ev_getR f_X8_readEither (nx := 53) rfl p_a0.1 rfl rfl e19 rfl rfl ?_
            refine ev_ic f_X8_readEither (nx := 54) (v := 5) rfl (by decide) rfl ?_
            refine ev_ic f_X8_readEither (nx := 55) (v := 0) rfl (by decide) rfl ?_
            refine ev_ic f_X8_readEither (nx := 56) (v := 0) rfl (by decide) rfl ?_
            refine ev_qN f_X8_readEither (nx := 59) (r := []) rfl rfl rfl rfl rfl rfl rfl (c_u_addStep hI ((ar0 + 2)) p19 (5) (0) (0)) rfl hX rfl (fun gi20 gl20 gr20 hI hX hC20 q20 => ?_)
            have q20 : t_xc [(ar0 + 2), (ar0 + 2) + 3, (ar0 + 2) + 4, (ar0 + 2) + 5] gi14 gl14 gr14 gi20 gl20 gr20 ∧ gi20 (ar0 + 2) 0 = gi14 (ar0 + 2) 0 := q20
            replace p_a0 := p_a0.ext hC20.2
            replace p10 := p10.ext hC20.2
            replace p19 := p19.ext hC20.2
            refine ev_incR f_X8_readEither (nx := 62) (c := 1) (l := 1) (u := 300) rfl rfl (by decide) (by decide) l6_2 u9 rfl rfl (by decide) (by decide) rfl (fun z21 e21 l21 u21 => ?_)
            refine ev_jmp f_X8_readEither (nx := 12) rfl rfl rfl ?_
            refine ev_sub (lo := [(2, .int z21), (0, .ref ar0), (1, .int ar1)]) rfl (t_sc rfl (t_sc rfl (t_sc rfl t_sn))) ?_
            exact ih6 _ (by omega) gi20 gl20 gr20 (z21) hI hX p_a0 (Int.le_trans (by decide : (0:Int) ≤ 1) l21) u21 ⟨fun b n q c T h hT hp => (by
                                                            obtain ⟨q2, c2, hC, hl0, hi, h2, hw2⟩ := j6_0.1 b n q c T h hT hp
                                                            have h102 := p_a0.2.1
                                                            have hW := h2.1.kwT e11 h12
                                                            have hJ : s_jnd b n q2 := Or.inl hW
                                                            have hg := s_jnd_gt hJ
                                                            have h2a := h2.on (q13.1 b n _ h2.1.S) q13.2.1 q13.2.2
                                                            obtain ⟨_, q3, c3, hX, hlt, h3, hw3⟩ := (q14.1 b n _ _ T h2a hT hp).resolve_right (fun hh => absurd hh.1 (by omega))
                                                            have h4 := h3.xc q20.1 (by intro x hx; simp only [List.mem_cons, List.not_mem_nil, or_false] at hx; omega)
                                                            exact ⟨q3, c3, (hC.trans (s_Cnd_j h2.qn hJ)).trans hX, by omega, by omega, h4, hw3⟩), (t_lq.ex (t_lq.tr (t_lq.on j6_0.2 q13.2.2 (by omega)) q14.2) q20.1 (by intro x hx; simp only [List.mem_cons, List.not_mem_nil, or_false] at hx; omega))⟩ rfl
        · refine ev_ic f_X8_readEither (nx := 66) (v := 1) rfl (by decide) rfl ?_
          exact ev_ret f_X8_readEither rfl rfl rfl ⟨_, _, _, rfl, hI, hX, ⟨_, rfl, (Int.le_trans (by decide : (0:Int) ≤ 1) (by decide : (1:Int) ≤ (1:Int32).toInt)), (by decide : (1:Int32).toInt ≤ (1:Int)), (show (∀ (b : Nat → Int32) (n q c : Nat) (T : List Int), t_US b n q c gi gl gr ar0 → (T.length : Int) = ar1.toInt → s_pop T = T → ((1 : Int) = 1 ∧ ∃ q2 c2, s_Cnd b n false q c T = s_Cnd b n true q2 c2 T ∧ q < q2 ∧ t_US b n q2 c2 gi6 gl6 gr6 ar0 ∧ ¬ s_jnd b n q2) ∨ ((1 : Int) = 0 ∧ ∃ p x, x ≠ 0 ∧ s_Cnd b n false q c T = s_qb b n p x ∧ t_FL gi6 (ar0 + 1) (s_fk b n p x) (s_F b n p))) ∧ t_lq ar0 gi gl gr gi6 gl6 gr6 from ⟨fun b n q c T h hT hp => (by
                                                            obtain ⟨q2, c2, hC, hl0, hi, h2, hw2⟩ := j6_0.1 b n q c T h hT hp
                                                            have h102 := p_a0.2.1
                                                            have hn3 := h2.2.1.1
                                                            have hq2 := h2.qn
                                                            exact Or.inl ⟨rfl, q2, c2, hC, hl0, h2, (fun hh => hh.elim (fun x => (h2.1.kwF e11 h12) x) (fun x => hw2 x))⟩), j6_0.2⟩)⟩⟩
    refine ev_sub (lo := [(2, .int 0), (0, .ref ar0), (1, .int ar1)]) rfl (t_sc rfl (t_sc rfl (t_sc rfl t_sn))) ?_
    exact L6 _ gi1 gl1 gr1 (0) hI hX p_a0 (by decide : (0:Int) ≤ (0:Int32).toInt) (Int.le_trans (by decide : (0:Int32).toInt ≤ (0:Int)) (by decide : (0:Int) ≤ 300)) ⟨fun b n q c T h hT hp => (by
                                                            obtain ⟨_, q3, c3, hX, hlt, h3, hw3⟩ := (q1.1 b n _ _ T h hT hp).resolve_right (fun hh => absurd hh.1 (by omega))
                                                            exact ⟨q3, c3, hX, hlt, by have : (0 : Int32).toInt = 0 := rfl; omega, h3, hw3⟩), (t_lq.tr t_lq.rf q1.2)⟩ rfl
/-! ===== printed by riv.py: the RULES of the class ===== -/
theorem r_u_readOne {X : x_Ext} {d : Nat} {sh : List (Nat ⊕ (Nat × Nat))} : ∀ (r : Nat) {gi : Nat → Nat → Int32} {gl : Nat → Nat → Int64} {gr : Nat → Nat → Value} (hI : t_I sh gi gr) (ar0 : Nat) (p_a0 : t_UQ sh gr ar0) (ar1 : Int32) (l_a1 : 0 ≤ ar1.toInt) (u_a1 : ar1.toInt ≤ 6), (6 - ar1.toInt).toNat < r → x_Me X (d + 8 * r + 5) n_X8_readOne [.ref ar0, .int ar1] (sh, gi, gl, gr) (t_PI wl_u_readOne sh gi gl gr 0 1 (Q_u_readOne gi gl gr ar0 ar1)) := by
  intro r
  induction r with
  | zero => intro gi gl gr hI ar0 p_a0 ar1 l_a1 u_a1 hr; omega
  | succ r ih =>
  intro gi gl gr hI ar0 p_a0 ar1 l_a1 u_a1 hr
  rw [show d + 8 * (r + 1) + 5 = d + 8 * r + 13 by omega]
  have hX : t_X wl_u_readOne sh gi gl gr gi gl gr := t_X.rf
  refine me_i f_X8_readOne p_a0.1 rfl rfl rfl ?_
  refine ev_loc f_X8_readOne (nx := 1) rfl rfl rfl rfl ?_
  have e1 := p_a0.2.2.1.1
  have p1 := p_a0.2.2.1.2
  refine ev_getR f_X8_readOne (nx := 4) rfl p_a0.1 rfl rfl e1 rfl rfl ?_
  have k2 := hI.2.2.2.1.2.2.2.2.2 (ar0 + 1) p1.1
  obtain ⟨v2, e2⟩ : ∃ v, gr (ar0 + 1) 7 = v := ⟨_, rfl⟩
  rw [e2] at k2
  refine ev_getR f_X8_readOne (nx := 7) rfl p1.1 rfl rfl e2 (t_KwR k2) rfl ?_
  refine ev_heap f_X8_readOne (nx := 10) rfl rfl rfl rfl ?_
  refine ev_ack f_X8_readOne (t1 := 25) (t2 := 13) rfl rfl rfl (t_knw k2) rfl (fun h3 => ?_) (fun h3 => ?_)
  · refine ev_ic f_X8_readOne (nx := 26) (v := 1) rfl (by decide) rfl ?_
    refine ev_jmp f_X8_readOne (nx := 30) rfl rfl rfl ?_
    refine ev_loc f_X8_readOne (nx := 31) (lo' := [(2, .int 1), (0, .ref ar0), (1, .int ar1)]) rfl rfl rfl rfl ?_
    refine ev_loc f_X8_readOne (nx := 32) rfl rfl rfl rfl ?_
    refine ev_qI0 f_X8_readOne (nx := 35) (r := []) rfl rfl rfl rfl rfl rfl rfl (c_u_factTold hI (ar0) p_a0) rfl (fun w4 l4 u4 q4 => ?_)
    have q4 : ∀ (b : Nat → Int32) (n q : Nat), t_TC b n q gi gl gr (ar0 + 1) → (w4.toInt ≠ -1 ↔ s_fct b n q) ∧ (w4.toInt = 0 ↔ s_opn b n q) := q4
    refine ev_loc f_X8_readOne (nx := 36) (lo' := [(3, .int w4), (2, .int 1), (0, .ref ar0), (1, .int ar1)]) rfl rfl rfl rfl ?_
    refine ev_loc f_X8_readOne (nx := 37) rfl rfl rfl rfl ?_
    refine ev_f f_X8_readOne (t1 := 40) (t2 := 54) rfl rfl rfl (by decide) ?_
    refine ev_loc f_X8_readOne (nx := 55) rfl rfl rfl rfl ?_
    refine ev_f f_X8_readOne (t1 := 58) (t2 := 77) rfl rfl rfl (by decide) ?_
    refine ev_loc f_X8_readOne (nx := 78) rfl rfl rfl rfl ?_
    refine ev_bp f_X8_readOne (nx := 80) (v := 6) rfl (by decide) rfl ?_
    refine ev_if f_X8_readOne (t1 := 93) (t2 := 83) rfl rfl rfl (fun h5 => ?_) (fun h5 => ?_)
    · have u6 : ar1.toInt ≤ 5 := t_ltu h5 (by decide : (6:Int32).toInt ≤ (6:Int)) rfl
      refine ev_loc f_X8_readOne (nx := 94) rfl rfl rfl rfl ?_
      refine ev_f f_X8_readOne (t1 := 105) (t2 := 97) rfl rfl rfl (by decide) ?_
      refine ev_loc f_X8_readOne (nx := 98) rfl rfl rfl rfl ?_
      refine ev_loc f_X8_readOne (nx := 99) rfl rfl rfl rfl ?_
      refine ev_inV2 f_X8_readOne (nx := 102) (lo2 := [(0, .ref ar0), (1, .int ar1)]) rfl rfl rfl rfl f_X8_readNested p_a0.1 rfl rfl rfl rfl rfl ?_
      refine ev_loc f_X8_readNested (nx := 1) rfl rfl rfl rfl ?_
      refine ev_getR f_X8_readNested (nx := 4) (v := .ref (ar0 + 1)) rfl p_a0.1 rfl rfl e1 rfl rfl ?_
      refine ev_getR f_X8_readNested (nx := 7) (v := v2) rfl p1.1 rfl rfl e2 (t_KwR k2) rfl ?_
      refine ev_heap f_X8_readNested (nx := 10) rfl rfl rfl rfl ?_
      refine ev_ackT f_X8_readNested (t1 := 13) (t2 := 17) rfl rfl rfl (t_knw k2) rfl h3 ?_
      refine ev_ic f_X8_readNested (nx := 14) (v := 1) rfl (by decide) rfl ?_
      refine ev_jmp f_X8_readNested (nx := 18) rfl rfl rfl ?_
      refine ev_loc f_X8_readNested (nx := 19) (lo' := [(2, .int 1), (0, .ref ar0), (1, .int ar1)]) rfl rfl rfl rfl ?_
      refine ev_loc f_X8_readNested (nx := 20) rfl rfl rfl rfl ?_
      refine ev_getR f_X8_readNested (nx := 23) (v := .ref (ar0 + 1)) rfl p_a0.1 rfl rfl e1 rfl rfl ?_
      refine ev_qN f_X8_readNested (nx := 26) (r := []) rfl rfl rfl rfl rfl rfl rfl (c_s_step hI ((ar0 + 1)) p1) rfl hX rfl (fun gi7 gl7 gr7 hI hX hC7 q7 => ?_)
      have q7 : (∀ (b : Nat → Int32) (n q : Nat), t_Sp b n q gi (ar0 + 1) → t_TC b n q gi7 gl7 gr7 (ar0 + 1)) ∧ t_nf gi gi7 (ar0 + 1) ∧ t_on (ar0 + 1) gi gl gr gi7 gl7 gr7 := q7
      replace p_a0 := p_a0.ext hC7.2
      replace p1 := p1.ext hC7.2
      refine ev_loc f_X8_readNested (nx := 27) rfl rfl rfl rfl ?_
      refine ev_f f_X8_readNested (t1 := 30) (t2 := 58) rfl rfl rfl (by decide) ?_
      refine ev_loc f_X8_readNested (nx := 59) rfl rfl rfl rfl ?_
      refine ev_loc f_X8_readNested (nx := 60) rfl rfl rfl rfl ?_
      refine ev_ic f_X8_readNested (nx := 61) (v := 1) rfl (by decide) rfl ?_
      refine ev_addC f_X8_readNested (nx := 62) (c := 1) (l := 1) (u := 6) rfl (by decide) l_a1 u6 rfl rfl (by decide) (by decide) rfl (fun z8 e8 l8 u8 => ?_)
      refine ev_qI f_X8_readNested (nx := 65) (r := []) rfl rfl rfl rfl rfl rfl rfl (x_Me.up (ih hI (ar0) p_a0 (z8) (Int.le_trans (by decide : (0:Int) ≤ 1) l8) u8 (by omega)) (by omega)) rfl hX rfl (fun w9 gi9 gl9 gr9 l9 u9 hI hX hC9 q9 => ?_)
      have q9 : (∀ (b : Nat → Int32) (n q c : Nat) (T : List Int), t_US b n q c gi7 gl7 gr7 ar0 → (T.length : Int) = z8.toInt → (w9.toInt = 1 ∧ ∃ q2 c2, s_Cnd b n false q c T = s_Cnd b n true q2 c2 (s_pop T) ∧ q < q2 ∧ t_US b n q2 c2 gi9 gl9 gr9 ar0) ∨ (w9.toInt = 0 ∧ ∃ p x, x ≠ 0 ∧ s_Cnd b n false q c T = s_qb b n p x ∧ t_FL gi9 (ar0 + 1) (s_fk b n p x) (s_F b n p))) ∧ t_lq ar0 gi7 gl7 gr7 gi9 gl9 gr9 := q9
      replace p_a0 := p_a0.ext hC9.2
      replace p1 := p1.ext hC9.2
      refine ev_if f_X8_readNested (t1 := 68) (t2 := 70) rfl rfl rfl (fun h10 => ?_) (fun h10 => ?_)
      · have u11 : w9.toInt ≤ 0 := t_equ h10 (by decide : (0:Int32).toInt ≤ (0:Int))
        refine ev_ic f_X8_readNested (nx := 69) (v := 0) rfl (by decide) rfl ?_
        refine ev_retK1 f_X8_readNested rfl rfl rfl ?_
        refine ev_jmp f_X8_readOne (nx := 110) rfl rfl rfl ?_
        exact ev_ret f_X8_readOne rfl rfl rfl ⟨_, _, _, rfl, hI, hX, ⟨_, rfl, (by decide : (0:Int) ≤ (0:Int32).toInt), (Int.le_trans (by decide : (0:Int32).toInt ≤ (0:Int)) (by decide : (0:Int) ≤ 1)), (show (∀ (b : Nat → Int32) (n q c : Nat) (T : List Int), t_US b n q c gi gl gr ar0 → (T.length : Int) = ar1.toInt → ((0 : Int) = 1 ∧ ∃ q2 c2, s_Cnd b n false q c T = s_Cnd b n true q2 c2 (s_pop T) ∧ q < q2 ∧ t_US b n q2 c2 gi9 gl9 gr9 ar0) ∨ ((0 : Int) = 0 ∧ ∃ p x, x ≠ 0 ∧ s_Cnd b n false q c T = s_qb b n p x ∧ t_FL gi9 (ar0 + 1) (s_fk b n p x) (s_F b n p))) ∧ t_lq ar0 gi gl gr gi9 gl9 gr9 from ⟨(by
                                                            intro b n q c T h hT
                                                            have h102 := p_a0.2.1
                                                            have hq := h.qn
                                                            have hcc := h.2.1.2
                                                            have hW := h.1.kwT e2 h3
                                                            have hN : s_nst b n q := Or.inl hW
                                                            have hg := s_nst_gt hN
                                                            have h1 := h.on (q7.1 b n _ h.1.S) q7.2.1 q7.2.2
                                                            have h6 : T.length ≠ 6 := by omega
                                                            have hl : ∀ y : Int, (((y :: T).length : Nat) : Int) = (T.length : Int) + 1 := fun y => by rw [List.length_cons]; omega
                                                            have hB := s_Cnd_n hq hN h6 (c := c)
                                                            rw [s_brk20 hW] at hB
                                                            obtain ⟨_, p, x, hx, hX, hf2⟩ := (q9.1 b n _ c (20 :: T) h1 (by have := hl 20; omega)).resolve_left (fun hh => absurd hh.1 (by omega))
                                                            exact Or.inr ⟨rfl, p, x, hx, hB.trans hX, hf2⟩), (t_lq.tr (t_lq.on t_lq.rf q7.2.2 (by omega)) q9.2)⟩)⟩⟩
      · have r12 : w9.toInt ≠ 0 := fun e => h10 (Int32.toInt_inj.mp (e.trans (by decide : (0:Int) = (0 : Int32).toInt)))
        have l13 : 1 ≤ w9.toInt := t_nel h10 l9 rfl rfl
        refine ev_loc f_X8_readNested (nx := 71) rfl rfl rfl rfl ?_
        have e14 := p_a0.2.2.2.1
        have p14 := p_a0.2.2.2.2
        refine ev_getR f_X8_readNested (nx := 74) rfl p_a0.1 rfl rfl e14 rfl rfl ?_
        refine ev_ic f_X8_readNested (nx := 75) (v := 3) rfl (by decide) rfl ?_
        refine ev_ic f_X8_readNested (nx := 76) (v := 0) rfl (by decide) rfl ?_
        refine ev_ic f_X8_readNested (nx := 77) (v := 0) rfl (by decide) rfl ?_
        refine ev_qN f_X8_readNested (nx := 80) (r := []) rfl rfl rfl rfl rfl rfl rfl (c_u_addStep hI ((ar0 + 2)) p14 (3) (0) (0)) rfl hX rfl (fun gi15 gl15 gr15 hI hX hC15 q15 => ?_)
        have q15 : t_xc [(ar0 + 2), (ar0 + 2) + 3, (ar0 + 2) + 4, (ar0 + 2) + 5] gi9 gl9 gr9 gi15 gl15 gr15 ∧ gi15 (ar0 + 2) 0 = gi9 (ar0 + 2) 0 := q15
        replace p_a0 := p_a0.ext hC15.2
        replace p1 := p1.ext hC15.2
        replace p14 := p14.ext hC15.2
        refine ev_ic f_X8_readNested (nx := 81) (v := 1) rfl (by decide) rfl ?_
        refine ev_retK1 f_X8_readNested rfl rfl rfl ?_
        refine ev_jmp f_X8_readOne (nx := 110) rfl rfl rfl ?_
        exact ev_ret f_X8_readOne rfl rfl rfl ⟨_, _, _, rfl, hI, hX, ⟨_, rfl, (Int.le_trans (by decide : (0:Int) ≤ 1) (by decide : (1:Int) ≤ (1:Int32).toInt)), (by decide : (1:Int32).toInt ≤ (1:Int)), (show (∀ (b : Nat → Int32) (n q c : Nat) (T : List Int), t_US b n q c gi gl gr ar0 → (T.length : Int) = ar1.toInt → ((1 : Int) = 1 ∧ ∃ q2 c2, s_Cnd b n false q c T = s_Cnd b n true q2 c2 (s_pop T) ∧ q < q2 ∧ t_US b n q2 c2 gi15 gl15 gr15 ar0) ∨ ((1 : Int) = 0 ∧ ∃ p x, x ≠ 0 ∧ s_Cnd b n false q c T = s_qb b n p x ∧ t_FL gi15 (ar0 + 1) (s_fk b n p x) (s_F b n p))) ∧ t_lq ar0 gi gl gr gi15 gl15 gr15 from ⟨(by
                                                            intro b n q c T h hT
                                                            have h102 := p_a0.2.1
                                                            have hq := h.qn
                                                            have hcc := h.2.1.2
                                                            have hW := h.1.kwT e2 h3
                                                            have hN : s_nst b n q := Or.inl hW
                                                            have hg := s_nst_gt hN
                                                            have h1 := h.on (q7.1 b n _ h.1.S) q7.2.1 q7.2.2
                                                            have h6 : T.length ≠ 6 := by omega
                                                            have hl : ∀ y : Int, (((y :: T).length : Nat) : Int) = (T.length : Int) + 1 := fun y => by rw [List.length_cons]; omega
                                                            have hB := s_Cnd_n hq hN h6 (c := c)
                                                            rw [s_brk20 hW] at hB
                                                            obtain ⟨_, q2, c2, hX, hlt, h2⟩ := (q9.1 b n _ c (20 :: T) h1 (by have := hl 20; omega)).resolve_right (fun hh => absurd hh.1 (by omega))
                                                            rw [s_pop20] at hX
                                                            have h3 := h2.xc q15.1 (by intro x hx; simp only [List.mem_cons, List.not_mem_nil, or_false] at hx; omega)
                                                            exact Or.inl ⟨rfl, q2, c2, hB.trans hX, by omega, h3⟩), (t_lq.ex (t_lq.tr (t_lq.on t_lq.rf q7.2.2 (by omega)) q9.2) q15.1 (by intro x hx; simp only [List.mem_cons, List.not_mem_nil, or_false] at hx; omega))⟩)⟩⟩
    · have l16 : 6 ≤ ar1.toInt := t_lel (t_nlt h5) (by decide : (6:Int) ≤ (6:Int32).toInt)
      refine ev_loc f_X8_readOne (nx := 84) rfl rfl rfl rfl ?_
      refine ev_getR f_X8_readOne (nx := 87) (v := .ref (ar0 + 1)) rfl p_a0.1 rfl rfl e1 rfl rfl ?_
      refine ev_bp f_X8_readOne (nx := 89) (v := 7) rfl (by decide) rfl ?_
      refine ev_qI f_X8_readOne (nx := 92) (r := []) rfl rfl rfl rfl rfl rfl rfl (c_s_refuse hI ((ar0 + 1)) p1 (7) (Int.le_trans (by decide : (2:Int) ≤ 7) (by decide : (7:Int) ≤ (7:Int32).toInt)) (by decide : (7:Int32).toInt ≤ (7:Int))) rfl hX rfl (fun w17 gi17 gl17 gr17 l17 u17 hI hX hC17 q17 => ?_)
      have q17 : (∀ (b : Nat → Int32) (n q : Nat), t_TC b n q gi gl gr (ar0 + 1) → t_FL gi17 (ar0 + 1) (s_fk b n q 7) (s_F b n q)) ∧ w17.toInt = 0 ∧ t_on (ar0 + 1) gi gl gr gi17 gl17 gr17 := q17
      replace p_a0 := p_a0.ext hC17.2
      replace p1 := p1.ext hC17.2
      exact ev_retZ f_X8_readOne rfl l17 (Int.le_trans u17 (by decide : (0:Int) ≤ 1)) ⟨_, _, _, rfl, hI, hX, ⟨_, rfl, l17, (Int.le_trans u17 (by decide : (0:Int) ≤ 1)), (show (∀ (b : Nat → Int32) (n q c : Nat) (T : List Int), t_US b n q c gi gl gr ar0 → (T.length : Int) = ar1.toInt → (w17.toInt = 1 ∧ ∃ q2 c2, s_Cnd b n false q c T = s_Cnd b n true q2 c2 (s_pop T) ∧ q < q2 ∧ t_US b n q2 c2 gi17 gl17 gr17 ar0) ∨ (w17.toInt = 0 ∧ ∃ p x, x ≠ 0 ∧ s_Cnd b n false q c T = s_qb b n p x ∧ t_FL gi17 (ar0 + 1) (s_fk b n p x) (s_F b n p))) ∧ t_lq ar0 gi gl gr gi17 gl17 gr17 from ⟨(by
                                                            intro b n q c T h hT
                                                            have h102 := p_a0.2.1
                                                            have hq := h.qn
                                                            have hcc := h.2.1.2
                                                            have hW := h.1.kwT e2 h3
                                                            have hN : s_nst b n q := Or.inl hW
                                                            exact Or.inr ⟨q17.2.1, q, 7, by decide, s_Cnd_n6 hq hN (by omega), q17.1 b n q h.1⟩), (t_lq.on t_lq.rf q17.2.2 (by omega))⟩)⟩⟩
  · refine ev_loc f_X8_readOne (nx := 14) rfl rfl rfl rfl ?_
    refine ev_getR f_X8_readOne (nx := 17) (v := .ref (ar0 + 1)) rfl p_a0.1 rfl rfl e1 rfl rfl ?_
    refine ev_bp f_X8_readOne (nx := 19) (v := 40) rfl (by decide) rfl ?_
    refine ev_qI0 f_X8_readOne (nx := 22) (r := []) rfl rfl rfl rfl rfl rfl rfl (c_s_isSignOf hI ((ar0 + 1)) p1 (40)) rfl (fun w18 l18 u18 q18 => ?_)
    have q18 : ∀ (b : Nat → Int32) (n q : Nat), t_TC b n q gi gl gr (ar0 + 1) → (w18.toInt = 1 ↔ s_isS b n q 40) := q18
    refine ev_if f_X8_readOne (t1 := 29) (t2 := 25) rfl rfl rfl (fun h19 => ?_) (fun h19 => ?_)
    · have u20 : w18.toInt ≤ 0 := t_equ h19 (by decide : (0:Int32).toInt ≤ (0:Int))
      refine ev_ic f_X8_readOne (nx := 30) (v := 0) rfl (by decide) rfl ?_
      refine ev_loc f_X8_readOne (nx := 31) (lo' := [(2, .int 0), (0, .ref ar0), (1, .int ar1)]) rfl rfl rfl rfl ?_
      refine ev_loc f_X8_readOne (nx := 32) rfl rfl rfl rfl ?_
      refine ev_qI0 f_X8_readOne (nx := 35) (r := []) rfl rfl rfl rfl rfl rfl rfl (c_u_factTold hI (ar0) p_a0) rfl (fun w21 l21 u21 q21 => ?_)
      have q21 : ∀ (b : Nat → Int32) (n q : Nat), t_TC b n q gi gl gr (ar0 + 1) → (w21.toInt ≠ -1 ↔ s_fct b n q) ∧ (w21.toInt = 0 ↔ s_opn b n q) := q21
      refine ev_loc f_X8_readOne (nx := 36) (lo' := [(3, .int w21), (2, .int 0), (0, .ref ar0), (1, .int ar1)]) rfl rfl rfl rfl ?_
      refine ev_loc f_X8_readOne (nx := 37) rfl rfl rfl rfl ?_
      refine ev_t f_X8_readOne (t1 := 40) (t2 := 54) rfl rfl rfl (by decide) ?_
      refine ev_loc f_X8_readOne (nx := 41) rfl rfl rfl rfl ?_
      refine ev_ic f_X8_readOne (nx := 42) (v := -1) rfl (by decide) rfl ?_
      refine ev_if f_X8_readOne (t1 := 45) (t2 := 54) rfl rfl rfl (fun h22 => ?_) (fun h22 => ?_)
      · have u23 : w21.toInt ≤ (-1) := t_equ h22 (by decide : ((-1):Int32).toInt ≤ ((-1):Int))
        refine ev_loc f_X8_readOne (nx := 46) rfl rfl rfl rfl ?_
        refine ev_getR f_X8_readOne (nx := 49) (v := .ref (ar0 + 1)) rfl p_a0.1 rfl rfl e1 rfl rfl ?_
        refine ev_ic f_X8_readOne (nx := 50) (v := 2) rfl (by decide) rfl ?_
        refine ev_qI f_X8_readOne (nx := 53) (r := []) rfl rfl rfl rfl rfl rfl rfl (c_s_refuse hI ((ar0 + 1)) p1 (2) (by decide : (2:Int) ≤ (2:Int32).toInt) (Int.le_trans (by decide : (2:Int32).toInt ≤ (2:Int)) (by decide : (2:Int) ≤ 7))) rfl hX rfl (fun w24 gi24 gl24 gr24 l24 u24 hI hX hC24 q24 => ?_)
        have q24 : (∀ (b : Nat → Int32) (n q : Nat), t_TC b n q gi gl gr (ar0 + 1) → t_FL gi24 (ar0 + 1) (s_fk b n q 2) (s_F b n q)) ∧ w24.toInt = 0 ∧ t_on (ar0 + 1) gi gl gr gi24 gl24 gr24 := q24
        replace p_a0 := p_a0.ext hC24.2
        replace p1 := p1.ext hC24.2
        exact ev_retZ f_X8_readOne rfl l24 (Int.le_trans u24 (by decide : (0:Int) ≤ 1)) ⟨_, _, _, rfl, hI, hX, ⟨_, rfl, l24, (Int.le_trans u24 (by decide : (0:Int) ≤ 1)), (show (∀ (b : Nat → Int32) (n q c : Nat) (T : List Int), t_US b n q c gi gl gr ar0 → (T.length : Int) = ar1.toInt → (w24.toInt = 1 ∧ ∃ q2 c2, s_Cnd b n false q c T = s_Cnd b n true q2 c2 (s_pop T) ∧ q < q2 ∧ t_US b n q2 c2 gi24 gl24 gr24 ar0) ∨ (w24.toInt = 0 ∧ ∃ p x, x ≠ 0 ∧ s_Cnd b n false q c T = s_qb b n p x ∧ t_FL gi24 (ar0 + 1) (s_fk b n p x) (s_F b n p))) ∧ t_lq ar0 gi gl gr gi24 gl24 gr24 from ⟨(by
                                                            intro b n q c T h hT
                                                            have h102 := p_a0.2.1
                                                            have hq := h.qn
                                                            have hcc := h.2.1.2
                                                            have hN : ¬ s_nst b n q := fun hh => hh.elim (h.1.kwF e2 h3) (fun x => absurd ((q18 b n q h.1).mpr x) (by omega))
                                                            have hf : ¬ s_fct b n q := fun hh => (q21 b n q h.1).1.mpr hh (by omega)
                                                            exact Or.inr ⟨q24.2.1, q, 2, by decide, s_Cnd_f hq hN hf, q24.1 b n q h.1⟩), (t_lq.on t_lq.rf q24.2.2 (by omega))⟩)⟩⟩
      · have r25 : w21.toInt ≠ (-1) := fun e => h22 (Int32.toInt_inj.mp (e.trans (by decide : ((-1):Int) = ((-1) : Int32).toInt)))
        have l26 : 0 ≤ w21.toInt := t_nel h22 l21 rfl rfl
        refine ev_loc f_X8_readOne (nx := 55) rfl rfl rfl rfl ?_
        refine ev_t f_X8_readOne (t1 := 58) (t2 := 77) rfl rfl rfl (by decide) ?_
        refine ev_loc f_X8_readOne (nx := 59) rfl rfl rfl rfl ?_
        refine ev_getI f_X8_readOne (nx := 62) rfl p_a0.1 rfl rfl rfl ?_
        refine ev_bp f_X8_readOne (nx := 64) (v := 24) rfl (by decide) rfl ?_
        refine ev_if f_X8_readOne (t1 := 77) (t2 := 67) rfl rfl rfl (fun h27 => ?_) (fun h27 => ?_)
        · have u28 : (gi ar0 2).toInt ≤ 23 := t_ltu h27 (by decide : (24:Int32).toInt ≤ (24:Int)) rfl
          refine ev_loc f_X8_readOne (nx := 78) rfl rfl rfl rfl ?_
          refine ev_bp f_X8_readOne (nx := 80) (v := 6) rfl (by decide) rfl ?_
          refine ev_if f_X8_readOne (t1 := 93) (t2 := 83) rfl rfl rfl (fun h29 => ?_) (fun h29 => ?_)
          · have u30 : ar1.toInt ≤ 5 := t_ltu h29 (by decide : (6:Int32).toInt ≤ (6:Int)) rfl
            refine ev_loc f_X8_readOne (nx := 94) rfl rfl rfl rfl ?_
            refine ev_t f_X8_readOne (t1 := 105) (t2 := 97) rfl rfl rfl (by decide) ?_
            refine ev_loc f_X8_readOne (nx := 106) rfl rfl rfl rfl ?_
            refine ev_loc f_X8_readOne (nx := 107) rfl rfl rfl rfl ?_
            refine ev_qI f_X8_readOne (nx := 110) (r := []) rfl rfl rfl rfl rfl rfl rfl (c_u_readCase hI (ar0) p_a0 (w21) l26 u21 (by omega)) rfl hX rfl (fun w31 gi31 gl31 gr31 l31 u31 hI hX hC31 q31 => ?_)
            have q31 : (∀ (b : Nat → Int32) (n q c : Nat), t_US b n q c gi gl gr ar0 → (w21.toInt = 0 ↔ s_opn b n q) → s_fct b n q → (w31.toInt = 1 ∧ ∃ q2, (∀ k, s_cse b n q k = k q2) ∧ q < q2 ∧ t_US b n q2 (c + 1) gi31 gl31 gr31 ar0) ∨ (w31.toInt = 0 ∧ ∃ p x, x ≠ 0 ∧ (∀ k, s_cse b n q k = s_qb b n p x) ∧ t_FL gi31 (ar0 + 1) (s_fk b n p x) (s_F b n p))) ∧ t_lq ar0 gi gl gr gi31 gl31 gr31 := q31
            replace p_a0 := p_a0.ext hC31.2
            replace p1 := p1.ext hC31.2
            exact ev_retZ f_X8_readOne rfl l31 u31 ⟨_, _, _, rfl, hI, hX, ⟨_, rfl, l31, u31, (show (∀ (b : Nat → Int32) (n q c : Nat) (T : List Int), t_US b n q c gi gl gr ar0 → (T.length : Int) = ar1.toInt → (w31.toInt = 1 ∧ ∃ q2 c2, s_Cnd b n false q c T = s_Cnd b n true q2 c2 (s_pop T) ∧ q < q2 ∧ t_US b n q2 c2 gi31 gl31 gr31 ar0) ∨ (w31.toInt = 0 ∧ ∃ p x, x ≠ 0 ∧ s_Cnd b n false q c T = s_qb b n p x ∧ t_FL gi31 (ar0 + 1) (s_fk b n p x) (s_F b n p))) ∧ t_lq ar0 gi gl gr gi31 gl31 gr31 from ⟨(by
                                                            intro b n q c T h hT
                                                            have h102 := p_a0.2.1
                                                            have hq := h.qn
                                                            have hcc := h.2.1.2
                                                            have hN : ¬ s_nst b n q := fun hh => hh.elim (h.1.kwF e2 h3) (fun x => absurd ((q18 b n q h.1).mpr x) (by omega))
                                                            have hf : s_fct b n q := (q21 b n q h.1).1.mp (by omega)
                                                            rcases q31.1 b n q c h (q21 b n q h.1).2 hf with hh | hh
                                                            · obtain ⟨hv, q2, hK, hlt, h2⟩ := hh
                                                              exact Or.inl ⟨hv, q2, c + 1, (s_Cnd_s hq hN hf (by omega) (by omega)).trans (hK _), hlt, h2⟩
                                                            · obtain ⟨hv, p, x, hx, hK, hf2⟩ := hh
                                                              exact Or.inr ⟨hv, p, x, hx, (s_Cnd_s hq hN hf (by omega) (by omega)).trans (hK _), hf2⟩), (t_lq.tr t_lq.rf q31.2)⟩)⟩⟩
          · have l32 : 6 ≤ ar1.toInt := t_lel (t_nlt h29) (by decide : (6:Int) ≤ (6:Int32).toInt)
            refine ev_loc f_X8_readOne (nx := 84) rfl rfl rfl rfl ?_
            refine ev_getR f_X8_readOne (nx := 87) (v := .ref (ar0 + 1)) rfl p_a0.1 rfl rfl e1 rfl rfl ?_
            refine ev_bp f_X8_readOne (nx := 89) (v := 7) rfl (by decide) rfl ?_
            refine ev_qI f_X8_readOne (nx := 92) (r := []) rfl rfl rfl rfl rfl rfl rfl (c_s_refuse hI ((ar0 + 1)) p1 (7) (Int.le_trans (by decide : (2:Int) ≤ 7) (by decide : (7:Int) ≤ (7:Int32).toInt)) (by decide : (7:Int32).toInt ≤ (7:Int))) rfl hX rfl (fun w33 gi33 gl33 gr33 l33 u33 hI hX hC33 q33 => ?_)
            have q33 : (∀ (b : Nat → Int32) (n q : Nat), t_TC b n q gi gl gr (ar0 + 1) → t_FL gi33 (ar0 + 1) (s_fk b n q 7) (s_F b n q)) ∧ w33.toInt = 0 ∧ t_on (ar0 + 1) gi gl gr gi33 gl33 gr33 := q33
            replace p_a0 := p_a0.ext hC33.2
            replace p1 := p1.ext hC33.2
            exact ev_retZ f_X8_readOne rfl l33 (Int.le_trans u33 (by decide : (0:Int) ≤ 1)) ⟨_, _, _, rfl, hI, hX, ⟨_, rfl, l33, (Int.le_trans u33 (by decide : (0:Int) ≤ 1)), (show (∀ (b : Nat → Int32) (n q c : Nat) (T : List Int), t_US b n q c gi gl gr ar0 → (T.length : Int) = ar1.toInt → (w33.toInt = 1 ∧ ∃ q2 c2, s_Cnd b n false q c T = s_Cnd b n true q2 c2 (s_pop T) ∧ q < q2 ∧ t_US b n q2 c2 gi33 gl33 gr33 ar0) ∨ (w33.toInt = 0 ∧ ∃ p x, x ≠ 0 ∧ s_Cnd b n false q c T = s_qb b n p x ∧ t_FL gi33 (ar0 + 1) (s_fk b n p x) (s_F b n p))) ∧ t_lq ar0 gi gl gr gi33 gl33 gr33 from ⟨(by
                                                            intro b n q c T h hT
                                                            have h102 := p_a0.2.1
                                                            have hq := h.qn
                                                            have hcc := h.2.1.2
                                                            have hN : ¬ s_nst b n q := fun hh => hh.elim (h.1.kwF e2 h3) (fun x => absurd ((q18 b n q h.1).mpr x) (by omega))
                                                            have hf : s_fct b n q := (q21 b n q h.1).1.mp (by omega)
                                                            exact Or.inr ⟨q33.2.1, q, 7, by decide, s_Cnd_d hq hN hf (by omega) (by omega), q33.1 b n q h.1⟩), (t_lq.on t_lq.rf q33.2.2 (by omega))⟩)⟩⟩
        · have l34 : 24 ≤ (gi ar0 2).toInt := t_lel (t_nlt h27) (by decide : (24:Int) ≤ (24:Int32).toInt)
          refine ev_loc f_X8_readOne (nx := 68) rfl rfl rfl rfl ?_
          refine ev_getR f_X8_readOne (nx := 71) (v := .ref (ar0 + 1)) rfl p_a0.1 rfl rfl e1 rfl rfl ?_
          refine ev_bp f_X8_readOne (nx := 73) (v := 6) rfl (by decide) rfl ?_
          refine ev_qI f_X8_readOne (nx := 76) (r := []) rfl rfl rfl rfl rfl rfl rfl (c_s_refuse hI ((ar0 + 1)) p1 (6) (Int.le_trans (by decide : (2:Int) ≤ 6) (by decide : (6:Int) ≤ (6:Int32).toInt)) (Int.le_trans (by decide : (6:Int32).toInt ≤ (6:Int)) (by decide : (6:Int) ≤ 7))) rfl hX rfl (fun w35 gi35 gl35 gr35 l35 u35 hI hX hC35 q35 => ?_)
          have q35 : (∀ (b : Nat → Int32) (n q : Nat), t_TC b n q gi gl gr (ar0 + 1) → t_FL gi35 (ar0 + 1) (s_fk b n q 6) (s_F b n q)) ∧ w35.toInt = 0 ∧ t_on (ar0 + 1) gi gl gr gi35 gl35 gr35 := q35
          replace p_a0 := p_a0.ext hC35.2
          replace p1 := p1.ext hC35.2
          exact ev_retZ f_X8_readOne rfl l35 (Int.le_trans u35 (by decide : (0:Int) ≤ 1)) ⟨_, _, _, rfl, hI, hX, ⟨_, rfl, l35, (Int.le_trans u35 (by decide : (0:Int) ≤ 1)), (show (∀ (b : Nat → Int32) (n q c : Nat) (T : List Int), t_US b n q c gi gl gr ar0 → (T.length : Int) = ar1.toInt → (w35.toInt = 1 ∧ ∃ q2 c2, s_Cnd b n false q c T = s_Cnd b n true q2 c2 (s_pop T) ∧ q < q2 ∧ t_US b n q2 c2 gi35 gl35 gr35 ar0) ∨ (w35.toInt = 0 ∧ ∃ p x, x ≠ 0 ∧ s_Cnd b n false q c T = s_qb b n p x ∧ t_FL gi35 (ar0 + 1) (s_fk b n p x) (s_F b n p))) ∧ t_lq ar0 gi gl gr gi35 gl35 gr35 from ⟨(by
                                                            intro b n q c T h hT
                                                            have h102 := p_a0.2.1
                                                            have hq := h.qn
                                                            have hcc := h.2.1.2
                                                            have hN : ¬ s_nst b n q := fun hh => hh.elim (h.1.kwF e2 h3) (fun x => absurd ((q18 b n q h.1).mpr x) (by omega))
                                                            have hf : s_fct b n q := (q21 b n q h.1).1.mp (by omega)
                                                            exact Or.inr ⟨q35.2.1, q, 6, by decide, s_Cnd_m hq hN hf (by omega), q35.1 b n q h.1⟩), (t_lq.on t_lq.rf q35.2.2 (by omega))⟩)⟩⟩
    · have r36 : w18.toInt ≠ 0 := fun e => h19 (Int32.toInt_inj.mp (e.trans (by decide : (0:Int) = (0 : Int32).toInt)))
      have l37 : 1 ≤ w18.toInt := t_nel h19 l18 rfl rfl
      refine ev_ic f_X8_readOne (nx := 26) (v := 1) rfl (by decide) rfl ?_
      refine ev_jmp f_X8_readOne (nx := 30) rfl rfl rfl ?_
      refine ev_loc f_X8_readOne (nx := 31) (lo' := [(2, .int 1), (0, .ref ar0), (1, .int ar1)]) rfl rfl rfl rfl ?_
      refine ev_loc f_X8_readOne (nx := 32) rfl rfl rfl rfl ?_
      refine ev_qI0 f_X8_readOne (nx := 35) (r := []) rfl rfl rfl rfl rfl rfl rfl (c_u_factTold hI (ar0) p_a0) rfl (fun w38 l38 u38 q38 => ?_)
      have q38 : ∀ (b : Nat → Int32) (n q : Nat), t_TC b n q gi gl gr (ar0 + 1) → (w38.toInt ≠ -1 ↔ s_fct b n q) ∧ (w38.toInt = 0 ↔ s_opn b n q) := q38
      refine ev_loc f_X8_readOne (nx := 36) (lo' := [(3, .int w38), (2, .int 1), (0, .ref ar0), (1, .int ar1)]) rfl rfl rfl rfl ?_
      refine ev_loc f_X8_readOne (nx := 37) rfl rfl rfl rfl ?_
      refine ev_f f_X8_readOne (t1 := 40) (t2 := 54) rfl rfl rfl (by decide) ?_
      refine ev_loc f_X8_readOne (nx := 55) rfl rfl rfl rfl ?_
      refine ev_f f_X8_readOne (t1 := 58) (t2 := 77) rfl rfl rfl (by decide) ?_
      refine ev_loc f_X8_readOne (nx := 78) rfl rfl rfl rfl ?_
      refine ev_bp f_X8_readOne (nx := 80) (v := 6) rfl (by decide) rfl ?_
      refine ev_if f_X8_readOne (t1 := 93) (t2 := 83) rfl rfl rfl (fun h39 => ?_) (fun h39 => ?_)
      · have u40 : ar1.toInt ≤ 5 := t_ltu h39 (by decide : (6:Int32).toInt ≤ (6:Int)) rfl
        refine ev_loc f_X8_readOne (nx := 94) rfl rfl rfl rfl ?_
        refine ev_f f_X8_readOne (t1 := 105) (t2 := 97) rfl rfl rfl (by decide) ?_
        refine ev_loc f_X8_readOne (nx := 98) rfl rfl rfl rfl ?_
        refine ev_loc f_X8_readOne (nx := 99) rfl rfl rfl rfl ?_
        refine ev_inV2 f_X8_readOne (nx := 102) (lo2 := [(0, .ref ar0), (1, .int ar1)]) rfl rfl rfl rfl f_X8_readNested p_a0.1 rfl rfl rfl rfl rfl ?_
        refine ev_loc f_X8_readNested (nx := 1) rfl rfl rfl rfl ?_
        refine ev_getR f_X8_readNested (nx := 4) (v := .ref (ar0 + 1)) rfl p_a0.1 rfl rfl e1 rfl rfl ?_
        refine ev_getR f_X8_readNested (nx := 7) (v := v2) rfl p1.1 rfl rfl e2 (t_KwR k2) rfl ?_
        refine ev_heap f_X8_readNested (nx := 10) rfl rfl rfl rfl ?_
        refine ev_ackF f_X8_readNested (t1 := 13) (t2 := 17) rfl rfl rfl (t_knw k2) rfl h3 ?_
        refine ev_ic f_X8_readNested (nx := 18) (v := 0) rfl (by decide) rfl ?_
        refine ev_loc f_X8_readNested (nx := 19) (lo' := [(2, .int 0), (0, .ref ar0), (1, .int ar1)]) rfl rfl rfl rfl ?_
        refine ev_loc f_X8_readNested (nx := 20) rfl rfl rfl rfl ?_
        refine ev_getR f_X8_readNested (nx := 23) (v := .ref (ar0 + 1)) rfl p_a0.1 rfl rfl e1 rfl rfl ?_
        refine ev_qN f_X8_readNested (nx := 26) (r := []) rfl rfl rfl rfl rfl rfl rfl (c_s_step hI ((ar0 + 1)) p1) rfl hX rfl (fun gi41 gl41 gr41 hI hX hC41 q41 => ?_)
        have q41 : (∀ (b : Nat → Int32) (n q : Nat), t_Sp b n q gi (ar0 + 1) → t_TC b n q gi41 gl41 gr41 (ar0 + 1)) ∧ t_nf gi gi41 (ar0 + 1) ∧ t_on (ar0 + 1) gi gl gr gi41 gl41 gr41 := q41
        replace p_a0 := p_a0.ext hC41.2
        replace p1 := p1.ext hC41.2
        refine ev_loc f_X8_readNested (nx := 27) rfl rfl rfl rfl ?_
        refine ev_t f_X8_readNested (t1 := 30) (t2 := 58) rfl rfl rfl (by decide) ?_
        refine ev_loc f_X8_readNested (nx := 31) rfl rfl rfl rfl ?_
        refine ev_loc f_X8_readNested (nx := 32) rfl rfl rfl rfl ?_
        refine ev_ic f_X8_readNested (nx := 33) (v := 1) rfl (by decide) rfl ?_
        refine ev_addC f_X8_readNested (nx := 34) (c := 1) (l := 1) (u := 6) rfl (by decide) l_a1 u40 rfl rfl (by decide) (by decide) rfl (fun z42 e42 l42 u42 => ?_)
        refine ev_qI f_X8_readNested (nx := 37) (r := []) rfl rfl rfl rfl rfl rfl rfl (c_u_readEither hI (ar0) p_a0 (z42) (Int.le_trans (by decide : (0:Int) ≤ 1) l42) u42 (fun hI p => x_Me.up (ih hI _ p _ (Int.le_trans (by decide : (0:Int) ≤ 1) l42) u42 (by omega)) (by omega))) rfl hX rfl (fun w43 gi43 gl43 gr43 l43 u43 hI hX hC43 q43 => ?_)
        have q43 : (∀ (b : Nat → Int32) (n q c : Nat) (T : List Int), t_US b n q c gi41 gl41 gr41 ar0 → (T.length : Int) = z42.toInt → s_pop T = T → (w43.toInt = 1 ∧ ∃ q2 c2, s_Cnd b n false q c T = s_Cnd b n true q2 c2 T ∧ q < q2 ∧ t_US b n q2 c2 gi43 gl43 gr43 ar0 ∧ ¬ s_jnd b n q2) ∨ (w43.toInt = 0 ∧ ∃ p x, x ≠ 0 ∧ s_Cnd b n false q c T = s_qb b n p x ∧ t_FL gi43 (ar0 + 1) (s_fk b n p x) (s_F b n p))) ∧ t_lq ar0 gi41 gl41 gr41 gi43 gl43 gr43 := q43
        replace p_a0 := p_a0.ext hC43.2
        replace p1 := p1.ext hC43.2
        refine ev_if f_X8_readNested (t1 := 56) (t2 := 40) rfl rfl rfl (fun h44 => ?_) (fun h44 => ?_)
        · have u45 : w43.toInt ≤ 0 := t_equ h44 (by decide : (0:Int32).toInt ≤ (0:Int))
          refine ev_ic f_X8_readNested (nx := 57) (v := 0) rfl (by decide) rfl ?_
          refine ev_retK1 f_X8_readNested rfl rfl rfl ?_
          refine ev_jmp f_X8_readOne (nx := 110) rfl rfl rfl ?_
          exact ev_ret f_X8_readOne rfl rfl rfl ⟨_, _, _, rfl, hI, hX, ⟨_, rfl, (by decide : (0:Int) ≤ (0:Int32).toInt), (Int.le_trans (by decide : (0:Int32).toInt ≤ (0:Int)) (by decide : (0:Int) ≤ 1)), (show (∀ (b : Nat → Int32) (n q c : Nat) (T : List Int), t_US b n q c gi gl gr ar0 → (T.length : Int) = ar1.toInt → ((0 : Int) = 1 ∧ ∃ q2 c2, s_Cnd b n false q c T = s_Cnd b n true q2 c2 (s_pop T) ∧ q < q2 ∧ t_US b n q2 c2 gi43 gl43 gr43 ar0) ∨ ((0 : Int) = 0 ∧ ∃ p x, x ≠ 0 ∧ s_Cnd b n false q c T = s_qb b n p x ∧ t_FL gi43 (ar0 + 1) (s_fk b n p x) (s_F b n p))) ∧ t_lq ar0 gi gl gr gi43 gl43 gr43 from ⟨(by
                                                            intro b n q c T h hT
                                                            have h102 := p_a0.2.1
                                                            have hq := h.qn
                                                            have hcc := h.2.1.2
                                                            have hS := (q18 b n q h.1).mp (by omega)
                                                            have hN : s_nst b n q := Or.inr hS
                                                            have hg := s_nst_gt hN
                                                            have h1 := h.on (q41.1 b n _ h.1.S) q41.2.1 q41.2.2
                                                            have h6 : T.length ≠ 6 := by omega
                                                            have hl : ∀ y : Int, (((y :: T).length : Nat) : Int) = (T.length : Int) + 1 := fun y => by rw [List.length_cons]; omega
                                                            have hB := s_Cnd_n hq hN h6 (c := c)
                                                            rw [s_brk40 hS] at hB
                                                            obtain ⟨_, p, x, hx, hX, hf2⟩ := (q43.1 b n _ c (40 :: T) h1 (by have := hl 40; omega) s_pop40).resolve_left (fun hh => absurd hh.1 (by omega))
                                                            exact Or.inr ⟨rfl, p, x, hx, hB.trans hX, hf2⟩), (t_lq.tr (t_lq.on t_lq.rf q41.2.2 (by omega)) q43.2)⟩)⟩⟩
        · have r46 : w43.toInt ≠ 0 := fun e => h44 (Int32.toInt_inj.mp (e.trans (by decide : (0:Int) = (0 : Int32).toInt)))
          have l47 : 1 ≤ w43.toInt := t_nel h44 l43 rfl rfl
          refine ev_loc f_X8_readNested (nx := 41) rfl rfl rfl rfl ?_
          refine ev_getR f_X8_readNested (nx := 44) (v := .ref (ar0 + 1)) rfl p_a0.1 rfl rfl ((hC43.1 ar0 0 (t_ninO hI.wf p_a0.1 (t_outO hI.wf p_a0.1 rfl) rfl)).2.2.trans ((hC41.1 ar0 0 (t_ninO hI.wf p_a0.1 (t_outO hI.wf p_a0.1 rfl) rfl)).2.2.trans e1)) rfl rfl ?_
          refine ev_bp f_X8_readNested (nx := 46) (v := 41) rfl (by decide) rfl ?_
          refine ev_qI f_X8_readNested (nx := 49) (r := []) rfl rfl rfl rfl rfl rfl rfl (c_s_takeSign hI ((ar0 + 1)) p1 (41)) rfl hX rfl (fun w48 gi48 gl48 gr48 l48 u48 hI hX hC48 q48 => ?_)
          have q48 : (∀ (b : Nat → Int32) (n q : Nat), t_TC b n q gi43 gl43 gr43 (ar0 + 1) → (w48.toInt = 1 ∧ s_isS b n q 41 ∧ t_TC b n (s_E b n q) gi48 gl48 gr48 (ar0 + 1) ∧ t_nf gi43 gi48 (ar0 + 1)) ∨ (w48.toInt = 0 ∧ ¬ s_isS b n q 41 ∧ t_FL gi48 (ar0 + 1) (s_fk b n q 2) (s_F b n q))) ∧ t_on (ar0 + 1) gi43 gl43 gr43 gi48 gl48 gr48 := q48
          replace p_a0 := p_a0.ext hC48.2
          replace p1 := p1.ext hC48.2
          refine ev_if f_X8_readNested (t1 := 56) (t2 := 52) rfl rfl rfl (fun h49 => ?_) (fun h49 => ?_)
          · have u50 : w48.toInt ≤ 0 := t_equ h49 (by decide : (0:Int32).toInt ≤ (0:Int))
            refine ev_ic f_X8_readNested (nx := 57) (v := 0) rfl (by decide) rfl ?_
            refine ev_retK1 f_X8_readNested rfl rfl rfl ?_
            refine ev_jmp f_X8_readOne (nx := 110) rfl rfl rfl ?_
            exact ev_ret f_X8_readOne rfl rfl rfl ⟨_, _, _, rfl, hI, hX, ⟨_, rfl, (by decide : (0:Int) ≤ (0:Int32).toInt), (Int.le_trans (by decide : (0:Int32).toInt ≤ (0:Int)) (by decide : (0:Int) ≤ 1)), (show (∀ (b : Nat → Int32) (n q c : Nat) (T : List Int), t_US b n q c gi gl gr ar0 → (T.length : Int) = ar1.toInt → ((0 : Int) = 1 ∧ ∃ q2 c2, s_Cnd b n false q c T = s_Cnd b n true q2 c2 (s_pop T) ∧ q < q2 ∧ t_US b n q2 c2 gi48 gl48 gr48 ar0) ∨ ((0 : Int) = 0 ∧ ∃ p x, x ≠ 0 ∧ s_Cnd b n false q c T = s_qb b n p x ∧ t_FL gi48 (ar0 + 1) (s_fk b n p x) (s_F b n p))) ∧ t_lq ar0 gi gl gr gi48 gl48 gr48 from ⟨(by
                                                            intro b n q c T h hT
                                                            have h102 := p_a0.2.1
                                                            have hq := h.qn
                                                            have hcc := h.2.1.2
                                                            have hS := (q18 b n q h.1).mp (by omega)
                                                            have hN : s_nst b n q := Or.inr hS
                                                            have hg := s_nst_gt hN
                                                            have h1 := h.on (q41.1 b n _ h.1.S) q41.2.1 q41.2.2
                                                            have h6 : T.length ≠ 6 := by omega
                                                            have hl : ∀ y : Int, (((y :: T).length : Nat) : Int) = (T.length : Int) + 1 := fun y => by rw [List.length_cons]; omega
                                                            have hB := s_Cnd_n hq hN h6 (c := c)
                                                            rw [s_brk40 hS] at hB
                                                            obtain ⟨_, q2, c2, hX, hlt, h2, hw⟩ := (q43.1 b n _ c (40 :: T) h1 (by have := hl 40; omega) s_pop40).resolve_right (fun hh => absurd hh.1 (by omega))
                                                            obtain ⟨_, hS2, hf2⟩ := (q48.1 b n _ h2.1).resolve_left (fun hh => absurd hh.1 (by omega))
                                                            exact Or.inr ⟨rfl, q2, 2, by decide, (hB.trans hX).trans (s_Cnd_x h2.qn hS2 hw), hf2⟩), (t_lq.on (t_lq.tr (t_lq.on t_lq.rf q41.2.2 (by omega)) q43.2) q48.2 (by omega))⟩)⟩⟩
          · have r51 : w48.toInt ≠ 0 := fun e => h49 (Int32.toInt_inj.mp (e.trans (by decide : (0:Int) = (0 : Int32).toInt)))
            have l52 : 1 ≤ w48.toInt := t_nel h49 l48 rfl rfl
            refine ev_ic f_X8_readNested (nx := 53) (v := 1) rfl (by decide) rfl ?_
            refine ev_jmp f_X8_readNested (nx := 57) rfl rfl rfl ?_
            refine ev_retK1 f_X8_readNested rfl rfl rfl ?_
            refine ev_jmp f_X8_readOne (nx := 110) rfl rfl rfl ?_
            exact ev_ret f_X8_readOne rfl rfl rfl ⟨_, _, _, rfl, hI, hX, ⟨_, rfl, (Int.le_trans (by decide : (0:Int) ≤ 1) (by decide : (1:Int) ≤ (1:Int32).toInt)), (by decide : (1:Int32).toInt ≤ (1:Int)), (show (∀ (b : Nat → Int32) (n q c : Nat) (T : List Int), t_US b n q c gi gl gr ar0 → (T.length : Int) = ar1.toInt → ((1 : Int) = 1 ∧ ∃ q2 c2, s_Cnd b n false q c T = s_Cnd b n true q2 c2 (s_pop T) ∧ q < q2 ∧ t_US b n q2 c2 gi48 gl48 gr48 ar0) ∨ ((1 : Int) = 0 ∧ ∃ p x, x ≠ 0 ∧ s_Cnd b n false q c T = s_qb b n p x ∧ t_FL gi48 (ar0 + 1) (s_fk b n p x) (s_F b n p))) ∧ t_lq ar0 gi gl gr gi48 gl48 gr48 from ⟨(by
                                                            intro b n q c T h hT
                                                            have h102 := p_a0.2.1
                                                            have hq := h.qn
                                                            have hcc := h.2.1.2
                                                            have hS := (q18 b n q h.1).mp (by omega)
                                                            have hN : s_nst b n q := Or.inr hS
                                                            have hg := s_nst_gt hN
                                                            have h1 := h.on (q41.1 b n _ h.1.S) q41.2.1 q41.2.2
                                                            have h6 : T.length ≠ 6 := by omega
                                                            have hl : ∀ y : Int, (((y :: T).length : Nat) : Int) = (T.length : Int) + 1 := fun y => by rw [List.length_cons]; omega
                                                            have hB := s_Cnd_n hq hN h6 (c := c)
                                                            rw [s_brk40 hS] at hB
                                                            obtain ⟨_, q2, c2, hX, hlt, h2, hw⟩ := (q43.1 b n _ c (40 :: T) h1 (by have := hl 40; omega) s_pop40).resolve_right (fun hh => absurd hh.1 (by omega))
                                                            obtain ⟨_, hS2, ht, hf2⟩ := (q48.1 b n _ h2.1).resolve_right (fun hh => absurd hh.1 (by omega))
                                                            have hg2 := s_isS_gt hS2
                                                            exact Or.inl ⟨rfl, _, c2, (hB.trans hX).trans (s_Cnd_c h2.qn hS2), by omega, h2.on ht hf2 q48.2⟩), (t_lq.on (t_lq.tr (t_lq.on t_lq.rf q41.2.2 (by omega)) q43.2) q48.2 (by omega))⟩)⟩⟩
      · have l53 : 6 ≤ ar1.toInt := t_lel (t_nlt h39) (by decide : (6:Int) ≤ (6:Int32).toInt)
        refine ev_loc f_X8_readOne (nx := 84) rfl rfl rfl rfl ?_
        refine ev_getR f_X8_readOne (nx := 87) (v := .ref (ar0 + 1)) rfl p_a0.1 rfl rfl e1 rfl rfl ?_
        refine ev_bp f_X8_readOne (nx := 89) (v := 7) rfl (by decide) rfl ?_
        refine ev_qI f_X8_readOne (nx := 92) (r := []) rfl rfl rfl rfl rfl rfl rfl (c_s_refuse hI ((ar0 + 1)) p1 (7) (Int.le_trans (by decide : (2:Int) ≤ 7) (by decide : (7:Int) ≤ (7:Int32).toInt)) (by decide : (7:Int32).toInt ≤ (7:Int))) rfl hX rfl (fun w54 gi54 gl54 gr54 l54 u54 hI hX hC54 q54 => ?_)
        have q54 : (∀ (b : Nat → Int32) (n q : Nat), t_TC b n q gi gl gr (ar0 + 1) → t_FL gi54 (ar0 + 1) (s_fk b n q 7) (s_F b n q)) ∧ w54.toInt = 0 ∧ t_on (ar0 + 1) gi gl gr gi54 gl54 gr54 := q54
        replace p_a0 := p_a0.ext hC54.2
        replace p1 := p1.ext hC54.2
        exact ev_retZ f_X8_readOne rfl l54 (Int.le_trans u54 (by decide : (0:Int) ≤ 1)) ⟨_, _, _, rfl, hI, hX, ⟨_, rfl, l54, (Int.le_trans u54 (by decide : (0:Int) ≤ 1)), (show (∀ (b : Nat → Int32) (n q c : Nat) (T : List Int), t_US b n q c gi gl gr ar0 → (T.length : Int) = ar1.toInt → (w54.toInt = 1 ∧ ∃ q2 c2, s_Cnd b n false q c T = s_Cnd b n true q2 c2 (s_pop T) ∧ q < q2 ∧ t_US b n q2 c2 gi54 gl54 gr54 ar0) ∨ (w54.toInt = 0 ∧ ∃ p x, x ≠ 0 ∧ s_Cnd b n false q c T = s_qb b n p x ∧ t_FL gi54 (ar0 + 1) (s_fk b n p x) (s_F b n p))) ∧ t_lq ar0 gi gl gr gi54 gl54 gr54 from ⟨(by
                                                            intro b n q c T h hT
                                                            have h102 := p_a0.2.1
                                                            have hq := h.qn
                                                            have hcc := h.2.1.2
                                                            have hS := (q18 b n q h.1).mp (by omega)
                                                            have hN : s_nst b n q := Or.inr hS
                                                            exact Or.inr ⟨q54.2.1, q, 7, by decide, s_Cnd_n6 hq hN (by omega), q54.1 b n q h.1⟩), (t_lq.on t_lq.rf q54.2.2 (by omega))⟩)⟩⟩
theorem c_u_readOne {X : x_Ext} {d : Nat} {sh : List (Nat ⊕ (Nat × Nat))} {gi : Nat → Nat → Int32} {gl : Nat → Nat → Int64} {gr : Nat → Nat → Value} (hI : t_I sh gi gr) (ar0 : Nat) (p_a0 : t_UQ sh gr ar0) (ar1 : Int32) (l_a1 : 0 ≤ ar1.toInt) (u_a1 : ar1.toInt ≤ 6) : x_Me X (d + 61) n_X8_readOne [.ref ar0, .int ar1] (sh, gi, gl, gr) (t_PI wl_u_readOne sh gi gl gr 0 1 (Q_u_readOne gi gl gr ar0 ar1)) := r_u_readOne 7 hI ar0 p_a0 ar1 l_a1 u_a1 (by omega)
noncomputable def wl_u_readBoth2 : List (Nat × Nat) := [(116, 3), (117, 2), (118, 2), (118, 3), (118, 4), (118, 5), (118, 6), (118, 7), (118, 8), (118, 9), (118, 10), (118, 11), (130, 9999)]
noncomputable def Q_u_readBoth2 (gi : Nat → Nat → Int32) (gl : Nat → Nat → Int64) (gr : Nat → Nat → Value) (ar0 : Nat) (ar1 : Int32) : Int32 → (Nat → Nat → Int32) → (Nat → Nat → Int64) → (Nat → Nat → Value) → Prop := fun (v : Int32) (gi2 : Nat → Nat → Int32) (gl2 : Nat → Nat → Int64) (gr2 : Nat → Nat → Value) => (∀ (b : Nat → Int32) (n q c : Nat) (T : List Int), t_US b n q c gi gl gr ar0 → (T.length : Int) = ar1.toInt → s_pop T = T → (v.toInt = 1 ∧ ∃ q2 c2, s_Cnd b n false q c T = s_Cnd b n true q2 c2 T ∧ q < q2 ∧ t_US b n q2 c2 gi2 gl2 gr2 ar0 ∧ s_W b n q2 ≠ some 19) ∨ (v.toInt = 0 ∧ ∃ p x, x ≠ 0 ∧ s_Cnd b n false q c T = s_qb b n p x ∧ t_FL gi2 (ar0 + 1) (s_fk b n p x) (s_F b n p))) ∧ t_lq ar0 gi gl gr gi2 gl2 gr2
theorem c_u_readBoth2 {X : x_Ext} {d : Nat} {sh : List (Nat ⊕ (Nat × Nat))} {gi : Nat → Nat → Int32} {gl : Nat → Nat → Int64} {gr : Nat → Nat → Value} (hI : t_I sh gi gr) (ar0 : Nat) (p_a0 : t_UQ sh gr ar0) (ar1 : Int32) (l_a1 : 0 ≤ ar1.toInt) (u_a1 : ar1.toInt ≤ 6) : x_Me X (d + 62) n_X8_readBoth [.ref ar0, .int ar1] (sh, gi, gl, gr) (t_PI wl_u_readBoth2 sh gi gl gr 0 1 (Q_u_readBoth2 gi gl gr ar0 ar1)) := by
  have hX : t_X wl_u_readBoth2 sh gi gl gr gi gl gr := t_X.rf
  refine me_i f_X8_readBoth p_a0.1 rfl rfl rfl ?_
  refine ev_loc f_X8_readBoth (nx := 1) rfl rfl rfl rfl ?_
  refine ev_loc f_X8_readBoth (nx := 2) rfl rfl rfl rfl ?_
  refine ev_qI f_X8_readBoth (nx := 5) (r := []) rfl rfl rfl rfl rfl rfl rfl (c_u_readOne hI (ar0) p_a0 (ar1) l_a1 u_a1) rfl hX rfl (fun w1 gi1 gl1 gr1 l1 u1 hI hX hC1 q1 => ?_)
  have q1 : (∀ (b : Nat → Int32) (n q c : Nat) (T : List Int), t_US b n q c gi gl gr ar0 → (T.length : Int) = ar1.toInt → (w1.toInt = 1 ∧ ∃ q2 c2, s_Cnd b n false q c T = s_Cnd b n true q2 c2 (s_pop T) ∧ q < q2 ∧ t_US b n q2 c2 gi1 gl1 gr1 ar0) ∨ (w1.toInt = 0 ∧ ∃ p x, x ≠ 0 ∧ s_Cnd b n false q c T = s_qb b n p x ∧ t_FL gi1 (ar0 + 1) (s_fk b n p x) (s_F b n p))) ∧ t_lq ar0 gi gl gr gi1 gl1 gr1 := q1
  replace p_a0 := p_a0.ext hC1.2
  refine ev_if f_X8_readBoth (t1 := 8) (t2 := 10) rfl rfl rfl (fun h2 => ?_) (fun h2 => ?_)
  · have u3 : w1.toInt ≤ 0 := t_equ h2 (by decide : (0:Int32).toInt ≤ (0:Int))
    refine ev_ic f_X8_readBoth (nx := 9) (v := 0) rfl (by decide) rfl ?_
    exact ev_ret f_X8_readBoth rfl rfl rfl ⟨_, _, _, rfl, hI, hX, ⟨_, rfl, (by decide : (0:Int) ≤ (0:Int32).toInt), (Int.le_trans (by decide : (0:Int32).toInt ≤ (0:Int)) (by decide : (0:Int) ≤ 1)), (show (∀ (b : Nat → Int32) (n q c : Nat) (T : List Int), t_US b n q c gi gl gr ar0 → (T.length : Int) = ar1.toInt → s_pop T = T → ((0 : Int) = 1 ∧ ∃ q2 c2, s_Cnd b n false q c T = s_Cnd b n true q2 c2 T ∧ q < q2 ∧ t_US b n q2 c2 gi1 gl1 gr1 ar0 ∧ s_W b n q2 ≠ some 19) ∨ ((0 : Int) = 0 ∧ ∃ p x, x ≠ 0 ∧ s_Cnd b n false q c T = s_qb b n p x ∧ t_FL gi1 (ar0 + 1) (s_fk b n p x) (s_F b n p))) ∧ t_lq ar0 gi gl gr gi1 gl1 gr1 from ⟨fun b n q c T h hT hp => (by
                                                            obtain ⟨_, p, x, hx, hX, hf⟩ := (q1.1 b n _ _ T h hT).resolve_left (fun hh => absurd hh.1 (by omega))
                                                            exact Or.inr ⟨rfl, p, x, hx, hX, hf⟩), (t_lq.tr t_lq.rf q1.2)⟩)⟩⟩
  · have r4 : w1.toInt ≠ 0 := fun e => h2 (Int32.toInt_inj.mp (e.trans (by decide : (0:Int) = (0 : Int32).toInt)))
    have l5 : 1 ≤ w1.toInt := t_nel h2 l1 rfl rfl
    refine ev_ic f_X8_readBoth (nx := 11) (v := 0) rfl (by decide) rfl ?_
    refine ev_loc f_X8_readBoth (nx := 12) (lo' := [(2, .int 0), (0, .ref ar0), (1, .int ar1)]) rfl rfl rfl rfl ?_
    have L6 : ∀ (m6 : Nat) (gi6 : Nat → Nat → Int32) (gl6 : Nat → Nat → Int64) (gr6 : Nat → Nat → Value) (y6_2 : Int32), t_I sh gi6 gr6 → t_X wl_u_readBoth2 sh gi gl gr gi6 gl6 gr6 → t_UQ sh gr6 ar0 → 0 ≤ y6_2.toInt → y6_2.toInt ≤ 300 → (∀ (b : Nat → Int32) (n q c : Nat) (T : List Int), t_US b n q c gi gl gr ar0 → (T.length : Int) = ar1.toInt → s_pop T = T → ∃ q2 c2, s_Cnd b n false q c T = s_Cnd b n true q2 c2 T ∧ q < q2 ∧ y6_2.toInt < (q2 : Int) ∧ t_US b n q2 c2 gi6 gl6 gr6 ar0) ∧ t_lq ar0 gi gl gr gi6 gl6 gr6 → (300 - y6_2.toInt).toNat = m6 → x_Ev X (d + 62) n_X8_readBoth 12 [(2, .int y6_2), (0, .ref ar0), (1, .int ar1)] [] (sh, gi6, gl6, gr6) (t_PI wl_u_readBoth2 sh gi gl gr 0 1 (Q_u_readBoth2 gi gl gr ar0 ar1)) := by
      intro m6
      induction m6 using Nat.strongRecOn with
      | _ m6 ih6 =>
      intro gi6 gl6 gr6 y6_2 hI hX p_a0 l6_2 u6_2 j6_0 hm6
      refine ev_loc f_X8_readBoth (nx := 13) rfl rfl rfl rfl ?_
      refine ev_sp f_X8_readBoth (nx := 16) (v := 300) rfl (by decide) rfl ?_
      refine ev_if f_X8_readBoth (t1 := 65) (t2 := 19) rfl rfl rfl (fun h7 => ?_) (fun h7 => ?_)
      · have l8 : 300 ≤ y6_2.toInt := t_lel h7 (by decide : (300:Int) ≤ (300:Int32).toInt)
        refine ev_ic f_X8_readBoth (nx := 66) (v := 1) rfl (by decide) rfl ?_
        exact ev_ret f_X8_readBoth rfl rfl rfl ⟨_, _, _, rfl, hI, hX, ⟨_, rfl, (Int.le_trans (by decide : (0:Int) ≤ 1) (by decide : (1:Int) ≤ (1:Int32).toInt)), (by decide : (1:Int32).toInt ≤ (1:Int)), (show (∀ (b : Nat → Int32) (n q c : Nat) (T : List Int), t_US b n q c gi gl gr ar0 → (T.length : Int) = ar1.toInt → s_pop T = T → ((1 : Int) = 1 ∧ ∃ q2 c2, s_Cnd b n false q c T = s_Cnd b n true q2 c2 T ∧ q < q2 ∧ t_US b n q2 c2 gi6 gl6 gr6 ar0 ∧ s_W b n q2 ≠ some 19) ∨ ((1 : Int) = 0 ∧ ∃ p x, x ≠ 0 ∧ s_Cnd b n false q c T = s_qb b n p x ∧ t_FL gi6 (ar0 + 1) (s_fk b n p x) (s_F b n p))) ∧ t_lq ar0 gi gl gr gi6 gl6 gr6 from ⟨fun b n q c T h hT hp => (by
                                                            obtain ⟨q2, c2, hC, hl0, hi, h2⟩ := j6_0.1 b n q c T h hT hp
                                                            have h102 := p_a0.2.1
                                                            have hn3 := h2.2.1.1
                                                            have hq2 := h2.qn
                                                            exact absurd hi (by omega)), j6_0.2⟩)⟩⟩
      · have u9 : y6_2.toInt ≤ 299 := t_ltu (t_nle h7) (by decide : (300:Int32).toInt ≤ (300:Int)) rfl
        refine ev_loc f_X8_readBoth (nx := 20) rfl rfl rfl rfl ?_
        have e10 := p_a0.2.2.1.1
        have p10 := p_a0.2.2.1.2
        refine ev_getR f_X8_readBoth (nx := 23) rfl p_a0.1 rfl rfl e10 rfl rfl ?_
        have k11 := hI.2.2.2.1.2.2.2.2.2 (ar0 + 1) p10.1
        obtain ⟨v11, e11⟩ : ∃ v, gr6 (ar0 + 1) 7 = v := ⟨_, rfl⟩
        rw [e11] at k11
        refine ev_getR f_X8_readBoth (nx := 26) rfl p10.1 rfl rfl e11 (t_KwR k11) rfl ?_
        refine ev_heap f_X8_readBoth (nx := 29) rfl rfl rfl rfl ?_
        refine ev_ack f_X8_readBoth (t1 := 32) (t2 := 65) rfl rfl rfl (t_knw k11) rfl (fun h12 => ?_) (fun h12 => ?_)
        · refine ev_loc f_X8_readBoth (nx := 33) rfl rfl rfl rfl ?_
          refine ev_getR f_X8_readBoth (nx := 36) (v := .ref (ar0 + 1)) rfl p_a0.1 rfl rfl e10 rfl rfl ?_
          refine ev_qN f_X8_readBoth (nx := 39) (r := []) rfl rfl rfl rfl rfl rfl rfl (c_s_step hI ((ar0 + 1)) p10) rfl hX rfl (fun gi13 gl13 gr13 hI hX hC13 q13 => ?_)
          have q13 : (∀ (b : Nat → Int32) (n q : Nat), t_Sp b n q gi6 (ar0 + 1) → t_TC b n q gi13 gl13 gr13 (ar0 + 1)) ∧ t_nf gi6 gi13 (ar0 + 1) ∧ t_on (ar0 + 1) gi6 gl6 gr6 gi13 gl13 gr13 := q13
          replace p_a0 := p_a0.ext hC13.2
          replace p10 := p10.ext hC13.2
          refine ev_loc f_X8_readBoth (nx := 40) rfl rfl rfl rfl ?_
          refine ev_loc f_X8_readBoth (nx := 41) rfl rfl rfl rfl ?_
          refine ev_qI f_X8_readBoth (nx := 44) (r := []) rfl rfl rfl rfl rfl rfl rfl (c_u_readOne hI (ar0) p_a0 (ar1) l_a1 u_a1) rfl hX rfl (fun w14 gi14 gl14 gr14 l14 u14 hI hX hC14 q14 => ?_)
          have q14 : (∀ (b : Nat → Int32) (n q c : Nat) (T : List Int), t_US b n q c gi13 gl13 gr13 ar0 → (T.length : Int) = ar1.toInt → (w14.toInt = 1 ∧ ∃ q2 c2, s_Cnd b n false q c T = s_Cnd b n true q2 c2 (s_pop T) ∧ q < q2 ∧ t_US b n q2 c2 gi14 gl14 gr14 ar0) ∨ (w14.toInt = 0 ∧ ∃ p x, x ≠ 0 ∧ s_Cnd b n false q c T = s_qb b n p x ∧ t_FL gi14 (ar0 + 1) (s_fk b n p x) (s_F b n p))) ∧ t_lq ar0 gi13 gl13 gr13 gi14 gl14 gr14 := q14
          replace p_a0 := p_a0.ext hC14.2
          replace p10 := p10.ext hC14.2
          refine ev_if f_X8_readBoth (t1 := 47) (t2 := 49) rfl rfl rfl (fun h15 => ?_) (fun h15 => ?_)
          · have u16 : w14.toInt ≤ 0 := t_equ h15 (by decide : (0:Int32).toInt ≤ (0:Int))
            refine ev_ic f_X8_readBoth (nx := 48) (v := 0) rfl (by decide) rfl ?_
            exact ev_ret f_X8_readBoth rfl rfl rfl ⟨_, _, _, rfl, hI, hX, ⟨_, rfl, (by decide : (0:Int) ≤ (0:Int32).toInt), (Int.le_trans (by decide : (0:Int32).toInt ≤ (0:Int)) (by decide : (0:Int) ≤ 1)), (show (∀ (b : Nat → Int32) (n q c : Nat) (T : List Int), t_US b n q c gi gl gr ar0 → (T.length : Int) = ar1.toInt → s_pop T = T → ((0 : Int) = 1 ∧ ∃ q2 c2, s_Cnd b n false q c T = s_Cnd b n true q2 c2 T ∧ q < q2 ∧ t_US b n q2 c2 gi14 gl14 gr14 ar0 ∧ s_W b n q2 ≠ some 19) ∨ ((0 : Int) = 0 ∧ ∃ p x, x ≠ 0 ∧ s_Cnd b n false q c T = s_qb b n p x ∧ t_FL gi14 (ar0 + 1) (s_fk b n p x) (s_F b n p))) ∧ t_lq ar0 gi gl gr gi14 gl14 gr14 from ⟨fun b n q c T h hT hp => (by
                                                            obtain ⟨q2, c2, hC, hl0, hi, h2⟩ := j6_0.1 b n q c T h hT hp
                                                            have h102 := p_a0.2.1
                                                            have hn3 := h2.2.1.1
                                                            have hq2 := h2.qn
                                                            have hW := h2.1.kwT e11 h12
                                                            have hJ : s_jnd b n q2 := Or.inr hW
                                                            have h2a := h2.on (q13.1 b n _ h2.1.S) q13.2.1 q13.2.2
                                                            obtain ⟨_, p, x, hx, hX, hf⟩ := (q14.1 b n _ _ T h2a hT).resolve_left (fun hh => absurd hh.1 (by omega))
                                                            exact Or.inr ⟨rfl, p, x, hx, (hC.trans (s_Cnd_j h2.qn hJ)).trans hX, hf⟩), (t_lq.tr (t_lq.on j6_0.2 q13.2.2 (by omega)) q14.2)⟩)⟩⟩
          · have r17 : w14.toInt ≠ 0 := fun e => h15 (Int32.toInt_inj.mp (e.trans (by decide : (0:Int) = (0 : Int32).toInt)))
            have l18 : 1 ≤ w14.toInt := t_nel h15 l14 rfl rfl
            refine ev_loc f_X8_readBoth (nx := 50) rfl rfl rfl rfl ?_
            have e19 := p_a0.2.2.2.1
            have p19 := p_a0.2.2.2.2
            refine ev_getR f_X8_readBoth (nx := 53) rfl p_a0.1 rfl rfl e19 rfl rfl ?_
            refine ev_ic f_X8_readBoth (nx := 54) (v := 4) rfl (by decide) rfl ?_
            refine ev_ic f_X8_readBoth (nx := 55) (v := 0) rfl (by decide) rfl ?_
            refine ev_ic f_X8_readBoth (nx := 56) (v := 0) rfl (by decide) rfl ?_
            refine ev_qN f_X8_readBoth (nx := 59) (r := []) rfl rfl rfl rfl rfl rfl rfl (c_u_addStep hI ((ar0 + 2)) p19 (4) (0) (0)) rfl hX rfl (fun gi20 gl20 gr20 hI hX hC20 q20 => ?_)
            have q20 : t_xc [(ar0 + 2), (ar0 + 2) + 3, (ar0 + 2) + 4, (ar0 + 2) + 5] gi14 gl14 gr14 gi20 gl20 gr20 ∧ gi20 (ar0 + 2) 0 = gi14 (ar0 + 2) 0 := q20
            replace p_a0 := p_a0.ext hC20.2
            replace p10 := p10.ext hC20.2
            replace p19 := p19.ext hC20.2
            refine ev_incR f_X8_readBoth (nx := 62) (c := 1) (l := 1) (u := 300) rfl rfl (by decide) (by decide) l6_2 u9 rfl rfl (by decide) (by decide) rfl (fun z21 e21 l21 u21 => ?_)
            refine ev_jmp f_X8_readBoth (nx := 12) rfl rfl rfl ?_
            refine ev_sub (lo := [(2, .int z21), (0, .ref ar0), (1, .int ar1)]) rfl (t_sc rfl (t_sc rfl (t_sc rfl t_sn))) ?_
            exact ih6 _ (by omega) gi20 gl20 gr20 (z21) hI hX p_a0 (Int.le_trans (by decide : (0:Int) ≤ 1) l21) u21 ⟨fun b n q c T h hT hp => (by
                                                            obtain ⟨q2, c2, hC, hl0, hi, h2⟩ := j6_0.1 b n q c T h hT hp
                                                            have h102 := p_a0.2.1
                                                            have hW := h2.1.kwT e11 h12
                                                            have hJ : s_jnd b n q2 := Or.inr hW
                                                            have hg := s_jnd_gt hJ
                                                            have h2a := h2.on (q13.1 b n _ h2.1.S) q13.2.1 q13.2.2
                                                            obtain ⟨_, q3, c3, hX, hlt, h3⟩ := (q14.1 b n _ _ T h2a hT).resolve_right (fun hh => absurd hh.1 (by omega))
                                                            have h4 := h3.xc q20.1 (by intro x hx; simp only [List.mem_cons, List.not_mem_nil, or_false] at hx; omega)
                                                            exact ⟨q3, c3, (hC.trans (s_Cnd_j h2.qn hJ)).trans (by rw [hp] at hX; exact hX), by omega, by omega, h4⟩), (t_lq.ex (t_lq.tr (t_lq.on j6_0.2 q13.2.2 (by omega)) q14.2) q20.1 (by intro x hx; simp only [List.mem_cons, List.not_mem_nil, or_false] at hx; omega))⟩ rfl
        · refine ev_ic f_X8_readBoth (nx := 66) (v := 1) rfl (by decide) rfl ?_
          exact ev_ret f_X8_readBoth rfl rfl rfl ⟨_, _, _, rfl, hI, hX, ⟨_, rfl, (Int.le_trans (by decide : (0:Int) ≤ 1) (by decide : (1:Int) ≤ (1:Int32).toInt)), (by decide : (1:Int32).toInt ≤ (1:Int)), (show (∀ (b : Nat → Int32) (n q c : Nat) (T : List Int), t_US b n q c gi gl gr ar0 → (T.length : Int) = ar1.toInt → s_pop T = T → ((1 : Int) = 1 ∧ ∃ q2 c2, s_Cnd b n false q c T = s_Cnd b n true q2 c2 T ∧ q < q2 ∧ t_US b n q2 c2 gi6 gl6 gr6 ar0 ∧ s_W b n q2 ≠ some 19) ∨ ((1 : Int) = 0 ∧ ∃ p x, x ≠ 0 ∧ s_Cnd b n false q c T = s_qb b n p x ∧ t_FL gi6 (ar0 + 1) (s_fk b n p x) (s_F b n p))) ∧ t_lq ar0 gi gl gr gi6 gl6 gr6 from ⟨fun b n q c T h hT hp => (by
                                                            obtain ⟨q2, c2, hC, hl0, hi, h2⟩ := j6_0.1 b n q c T h hT hp
                                                            have h102 := p_a0.2.1
                                                            have hn3 := h2.2.1.1
                                                            have hq2 := h2.qn
                                                            exact Or.inl ⟨rfl, q2, c2, hC, hl0, h2, (h2.1.kwF e11 h12)⟩), j6_0.2⟩)⟩⟩
    refine ev_sub (lo := [(2, .int 0), (0, .ref ar0), (1, .int ar1)]) rfl (t_sc rfl (t_sc rfl (t_sc rfl t_sn))) ?_
    exact L6 _ gi1 gl1 gr1 (0) hI hX p_a0 (by decide : (0:Int) ≤ (0:Int32).toInt) (Int.le_trans (by decide : (0:Int32).toInt ≤ (0:Int)) (by decide : (0:Int) ≤ 300)) ⟨fun b n q c T h hT hp => (by
                                                            obtain ⟨_, q3, c3, hX, hlt, h3⟩ := (q1.1 b n _ _ T h hT).resolve_right (fun hh => absurd hh.1 (by omega))
                                                            exact ⟨q3, c3, by rw [hp] at hX; exact hX, hlt, by have : (0 : Int32).toInt = 0 := rfl; omega, h3⟩), (t_lq.tr t_lq.rf q1.2)⟩ rfl
noncomputable def wl_u_readEither2 : List (Nat × Nat) := [(116, 3), (117, 2), (118, 2), (118, 3), (118, 4), (118, 5), (118, 6), (118, 7), (118, 8), (118, 9), (118, 10), (118, 11), (130, 9999)]
noncomputable def Q_u_readEither2 (gi : Nat → Nat → Int32) (gl : Nat → Nat → Int64) (gr : Nat → Nat → Value) (ar0 : Nat) (ar1 : Int32) : Int32 → (Nat → Nat → Int32) → (Nat → Nat → Int64) → (Nat → Nat → Value) → Prop := fun (v : Int32) (gi2 : Nat → Nat → Int32) (gl2 : Nat → Nat → Int64) (gr2 : Nat → Nat → Value) => (∀ (b : Nat → Int32) (n q c : Nat) (T : List Int), t_US b n q c gi gl gr ar0 → (T.length : Int) = ar1.toInt → s_pop T = T → (v.toInt = 1 ∧ ∃ q2 c2, s_Cnd b n false q c T = s_Cnd b n true q2 c2 T ∧ q < q2 ∧ t_US b n q2 c2 gi2 gl2 gr2 ar0 ∧ ¬ s_jnd b n q2) ∨ (v.toInt = 0 ∧ ∃ p x, x ≠ 0 ∧ s_Cnd b n false q c T = s_qb b n p x ∧ t_FL gi2 (ar0 + 1) (s_fk b n p x) (s_F b n p))) ∧ t_lq ar0 gi gl gr gi2 gl2 gr2
theorem c_u_readEither2 {X : x_Ext} {d : Nat} {sh : List (Nat ⊕ (Nat × Nat))} {gi : Nat → Nat → Int32} {gl : Nat → Nat → Int64} {gr : Nat → Nat → Value} (hI : t_I sh gi gr) (ar0 : Nat) (p_a0 : t_UQ sh gr ar0) (ar1 : Int32) (l_a1 : 0 ≤ ar1.toInt) (u_a1 : ar1.toInt ≤ 6) : x_Me X (d + 63) n_X8_readEither [.ref ar0, .int ar1] (sh, gi, gl, gr) (t_PI wl_u_readEither2 sh gi gl gr 0 1 (Q_u_readEither2 gi gl gr ar0 ar1)) := by
  have hX : t_X wl_u_readEither2 sh gi gl gr gi gl gr := t_X.rf
  refine me_i f_X8_readEither p_a0.1 rfl rfl rfl ?_
  refine ev_loc f_X8_readEither (nx := 1) rfl rfl rfl rfl ?_
  refine ev_loc f_X8_readEither (nx := 2) rfl rfl rfl rfl ?_
  refine ev_qI f_X8_readEither (nx := 5) (r := []) rfl rfl rfl rfl rfl rfl rfl (c_u_readBoth2 hI (ar0) p_a0 (ar1) l_a1 u_a1) rfl hX rfl (fun w1 gi1 gl1 gr1 l1 u1 hI hX hC1 q1 => ?_)
  have q1 : (∀ (b : Nat → Int32) (n q c : Nat) (T : List Int), t_US b n q c gi gl gr ar0 → (T.length : Int) = ar1.toInt → s_pop T = T → (w1.toInt = 1 ∧ ∃ q2 c2, s_Cnd b n false q c T = s_Cnd b n true q2 c2 T ∧ q < q2 ∧ t_US b n q2 c2 gi1 gl1 gr1 ar0 ∧ s_W b n q2 ≠ some 19) ∨ (w1.toInt = 0 ∧ ∃ p x, x ≠ 0 ∧ s_Cnd b n false q c T = s_qb b n p x ∧ t_FL gi1 (ar0 + 1) (s_fk b n p x) (s_F b n p))) ∧ t_lq ar0 gi gl gr gi1 gl1 gr1 := q1
  replace p_a0 := p_a0.ext hC1.2
  refine ev_if f_X8_readEither (t1 := 8) (t2 := 10) rfl rfl rfl (fun h2 => ?_) (fun h2 => ?_)
  · have u3 : w1.toInt ≤ 0 := t_equ h2 (by decide : (0:Int32).toInt ≤ (0:Int))
    refine ev_ic f_X8_readEither (nx := 9) (v := 0) rfl (by decide) rfl ?_
    exact ev_ret f_X8_readEither rfl rfl rfl ⟨_, _, _, rfl, hI, hX, ⟨_, rfl, (by decide : (0:Int) ≤ (0:Int32).toInt), (Int.le_trans (by decide : (0:Int32).toInt ≤ (0:Int)) (by decide : (0:Int) ≤ 1)), (show (∀ (b : Nat → Int32) (n q c : Nat) (T : List Int), t_US b n q c gi gl gr ar0 → (T.length : Int) = ar1.toInt → s_pop T = T → ((0 : Int) = 1 ∧ ∃ q2 c2, s_Cnd b n false q c T = s_Cnd b n true q2 c2 T ∧ q < q2 ∧ t_US b n q2 c2 gi1 gl1 gr1 ar0 ∧ ¬ s_jnd b n q2) ∨ ((0 : Int) = 0 ∧ ∃ p x, x ≠ 0 ∧ s_Cnd b n false q c T = s_qb b n p x ∧ t_FL gi1 (ar0 + 1) (s_fk b n p x) (s_F b n p))) ∧ t_lq ar0 gi gl gr gi1 gl1 gr1 from ⟨fun b n q c T h hT hp => (by
                                                            obtain ⟨_, p, x, hx, hX, hf⟩ := (q1.1 b n _ _ T h hT hp).resolve_left (fun hh => absurd hh.1 (by omega))
                                                            exact Or.inr ⟨rfl, p, x, hx, hX, hf⟩), (t_lq.tr t_lq.rf q1.2)⟩)⟩⟩
  · have r4 : w1.toInt ≠ 0 := fun e => h2 (Int32.toInt_inj.mp (e.trans (by decide : (0:Int) = (0 : Int32).toInt)))
    have l5 : 1 ≤ w1.toInt := t_nel h2 l1 rfl rfl
    refine ev_ic f_X8_readEither (nx := 11) (v := 0) rfl (by decide) rfl ?_
    refine ev_loc f_X8_readEither (nx := 12) (lo' := [(2, .int 0), (0, .ref ar0), (1, .int ar1)]) rfl rfl rfl rfl ?_
    have L6 : ∀ (m6 : Nat) (gi6 : Nat → Nat → Int32) (gl6 : Nat → Nat → Int64) (gr6 : Nat → Nat → Value) (y6_2 : Int32), t_I sh gi6 gr6 → t_X wl_u_readEither2 sh gi gl gr gi6 gl6 gr6 → t_UQ sh gr6 ar0 → 0 ≤ y6_2.toInt → y6_2.toInt ≤ 300 → (∀ (b : Nat → Int32) (n q c : Nat) (T : List Int), t_US b n q c gi gl gr ar0 → (T.length : Int) = ar1.toInt → s_pop T = T → ∃ q2 c2, s_Cnd b n false q c T = s_Cnd b n true q2 c2 T ∧ q < q2 ∧ y6_2.toInt < (q2 : Int) ∧ t_US b n q2 c2 gi6 gl6 gr6 ar0 ∧ s_W b n q2 ≠ some 19) ∧ t_lq ar0 gi gl gr gi6 gl6 gr6 → (300 - y6_2.toInt).toNat = m6 → x_Ev X (d + 63) n_X8_readEither 12 [(2, .int y6_2), (0, .ref ar0), (1, .int ar1)] [] (sh, gi6, gl6, gr6) (t_PI wl_u_readEither2 sh gi gl gr 0 1 (Q_u_readEither2 gi gl gr ar0 ar1)) := by
      intro m6
      induction m6 using Nat.strongRecOn with
      | _ m6 ih6 =>
      intro gi6 gl6 gr6 y6_2 hI hX p_a0 l6_2 u6_2 j6_0 hm6
      refine ev_loc f_X8_readEither (nx := 13) rfl rfl rfl rfl ?_
      refine ev_sp f_X8_readEither (nx := 16) (v := 300) rfl (by decide) rfl ?_
      refine ev_if f_X8_readEither (t1 := 65) (t2 := 19) rfl rfl rfl (fun h7 => ?_) (fun h7 => ?_)
      · have l8 : 300 ≤ y6_2.toInt := t_lel h7 (by decide : (300:Int) ≤ (300:Int32).toInt)
        refine ev_ic f_X8_readEither (nx := 66) (v := 1) rfl (by decide) rfl ?_
        exact ev_ret f_X8_readEither rfl rfl rfl ⟨_, _, _, rfl, hI, hX, ⟨_, rfl, (Int.le_trans (by decide : (0:Int) ≤ 1) (by decide : (1:Int) ≤ (1:Int32).toInt)), (by decide : (1:Int32).toInt ≤ (1:Int)), (show (∀ (b : Nat → Int32) (n q c : Nat) (T : List Int), t_US b n q c gi gl gr ar0 → (T.length : Int) = ar1.toInt → s_pop T = T → ((1 : Int) = 1 ∧ ∃ q2 c2, s_Cnd b n false q c T = s_Cnd b n true q2 c2 T ∧ q < q2 ∧ t_US b n q2 c2 gi6 gl6 gr6 ar0 ∧ ¬ s_jnd b n q2) ∨ ((1 : Int) = 0 ∧ ∃ p x, x ≠ 0 ∧ s_Cnd b n false q c T = s_qb b n p x ∧ t_FL gi6 (ar0 + 1) (s_fk b n p x) (s_F b n p))) ∧ t_lq ar0 gi gl gr gi6 gl6 gr6 from ⟨fun b n q c T h hT hp => (by
                                                            obtain ⟨q2, c2, hC, hl0, hi, h2, hw2⟩ := j6_0.1 b n q c T h hT hp
                                                            have h102 := p_a0.2.1
                                                            have hn3 := h2.2.1.1
                                                            have hq2 := h2.qn
                                                            exact absurd hi (by omega)), j6_0.2⟩)⟩⟩
      · have u9 : y6_2.toInt ≤ 299 := t_ltu (t_nle h7) (by decide : (300:Int32).toInt ≤ (300:Int)) rfl
        refine ev_loc f_X8_readEither (nx := 20) rfl rfl rfl rfl ?_
        have e10 := p_a0.2.2.1.1
        have p10 := p_a0.2.2.1.2
        refine ev_getR f_X8_readEither (nx := 23) rfl p_a0.1 rfl rfl e10 rfl rfl ?_
        have k11 := hI.2.2.2.1.2.2.2.2.2 (ar0 + 1) p10.1
        obtain ⟨v11, e11⟩ : ∃ v, gr6 (ar0 + 1) 7 = v := ⟨_, rfl⟩
        rw [e11] at k11
        refine ev_getR f_X8_readEither (nx := 26) rfl p10.1 rfl rfl e11 (t_KwR k11) rfl ?_
        refine ev_heap f_X8_readEither (nx := 29) rfl rfl rfl rfl ?_
        refine ev_ack f_X8_readEither (t1 := 32) (t2 := 65) rfl rfl rfl (t_knw k11) rfl (fun h12 => ?_) (fun h12 => ?_)
        · refine ev_loc f_X8_readEither (nx := 33) rfl rfl rfl rfl ?_
          refine ev_getR f_X8_readEither (nx := 36) (v := .ref (ar0 + 1)) rfl p_a0.1 rfl rfl e10 rfl rfl ?_
          refine ev_qN f_X8_readEither (nx := 39) (r := []) rfl rfl rfl rfl rfl rfl rfl (c_s_step hI ((ar0 + 1)) p10) rfl hX rfl (fun gi13 gl13 gr13 hI hX hC13 q13 => ?_)
          have q13 : (∀ (b : Nat → Int32) (n q : Nat), t_Sp b n q gi6 (ar0 + 1) → t_TC b n q gi13 gl13 gr13 (ar0 + 1)) ∧ t_nf gi6 gi13 (ar0 + 1) ∧ t_on (ar0 + 1) gi6 gl6 gr6 gi13 gl13 gr13 := q13
          replace p_a0 := p_a0.ext hC13.2
          replace p10 := p10.ext hC13.2
          refine ev_loc f_X8_readEither (nx := 40) rfl rfl rfl rfl ?_
          refine ev_loc f_X8_readEither (nx := 41) rfl rfl rfl rfl ?_
          refine ev_qI f_X8_readEither (nx := 44) (r := []) rfl rfl rfl rfl rfl rfl rfl (c_u_readBoth2 hI (ar0) p_a0 (ar1) l_a1 u_a1) rfl hX rfl (fun w14 gi14 gl14 gr14 l14 u14 hI hX hC14 q14 => ?_)
          have q14 : (∀ (b : Nat → Int32) (n q c : Nat) (T : List Int), t_US b n q c gi13 gl13 gr13 ar0 → (T.length : Int) = ar1.toInt → s_pop T = T → (w14.toInt = 1 ∧ ∃ q2 c2, s_Cnd b n false q c T = s_Cnd b n true q2 c2 T ∧ q < q2 ∧ t_US b n q2 c2 gi14 gl14 gr14 ar0 ∧ s_W b n q2 ≠ some 19) ∨ (w14.toInt = 0 ∧ ∃ p x, x ≠ 0 ∧ s_Cnd b n false q c T = s_qb b n p x ∧ t_FL gi14 (ar0 + 1) (s_fk b n p x) (s_F b n p))) ∧ t_lq ar0 gi13 gl13 gr13 gi14 gl14 gr14 := q14
          replace p_a0 := p_a0.ext hC14.2
          replace p10 := p10.ext hC14.2
          refine ev_if f_X8_readEither (t1 := 47) (t2 := 49) rfl rfl rfl (fun h15 => ?_) (fun h15 => ?_)
          · have u16 : w14.toInt ≤ 0 := t_equ h15 (by decide : (0:Int32).toInt ≤ (0:Int))
            refine ev_ic f_X8_readEither (nx := 48) (v := 0) rfl (by decide) rfl ?_
            exact ev_ret f_X8_readEither rfl rfl rfl ⟨_, _, _, rfl, hI, hX, ⟨_, rfl, (by decide : (0:Int) ≤ (0:Int32).toInt), (Int.le_trans (by decide : (0:Int32).toInt ≤ (0:Int)) (by decide : (0:Int) ≤ 1)), (show (∀ (b : Nat → Int32) (n q c : Nat) (T : List Int), t_US b n q c gi gl gr ar0 → (T.length : Int) = ar1.toInt → s_pop T = T → ((0 : Int) = 1 ∧ ∃ q2 c2, s_Cnd b n false q c T = s_Cnd b n true q2 c2 T ∧ q < q2 ∧ t_US b n q2 c2 gi14 gl14 gr14 ar0 ∧ ¬ s_jnd b n q2) ∨ ((0 : Int) = 0 ∧ ∃ p x, x ≠ 0 ∧ s_Cnd b n false q c T = s_qb b n p x ∧ t_FL gi14 (ar0 + 1) (s_fk b n p x) (s_F b n p))) ∧ t_lq ar0 gi gl gr gi14 gl14 gr14 from ⟨fun b n q c T h hT hp => (by
                                                            obtain ⟨q2, c2, hC, hl0, hi, h2, hw2⟩ := j6_0.1 b n q c T h hT hp
                                                            have h102 := p_a0.2.1
                                                            have hn3 := h2.2.1.1
                                                            have hq2 := h2.qn
                                                            have hW := h2.1.kwT e11 h12
                                                            have hJ : s_jnd b n q2 := Or.inl hW
                                                            have h2a := h2.on (q13.1 b n _ h2.1.S) q13.2.1 q13.2.2
                                                            obtain ⟨_, p, x, hx, hX, hf⟩ := (q14.1 b n _ _ T h2a hT hp).resolve_left (fun hh => absurd hh.1 (by omega))
                                                            exact Or.inr ⟨rfl, p, x, hx, (hC.trans (s_Cnd_j h2.qn hJ)).trans hX, hf⟩), (t_lq.tr (t_lq.on j6_0.2 q13.2.2 (by omega)) q14.2)⟩)⟩⟩
          · have r17 : w14.toInt ≠ 0 := fun e => h15 (Int32.toInt_inj.mp (e.trans (by decide : (0:Int) = (0 : Int32).toInt)))
            have l18 : 1 ≤ w14.toInt := t_nel h15 l14 rfl rfl
            refine ev_loc f_X8_readEither (nx := 50) rfl rfl rfl rfl ?_
            have e19 := p_a0.2.2.2.1
            have p19 := p_a0.2.2.2.2
            refine ev_getR f_X8_readEither (nx := 53) rfl p_a0.1 rfl rfl e19 rfl rfl ?_
            refine ev_ic f_X8_readEither (nx := 54) (v := 5) rfl (by decide) rfl ?_
            refine ev_ic f_X8_readEither (nx := 55) (v := 0) rfl (by decide) rfl ?_
            refine ev_ic f_X8_readEither (nx := 56) (v := 0) rfl (by decide) rfl ?_
            refine ev_qN f_X8_readEither (nx := 59) (r := []) rfl rfl rfl rfl rfl rfl rfl (c_u_addStep hI ((ar0 + 2)) p19 (5) (0) (0)) rfl hX rfl (fun gi20 gl20 gr20 hI hX hC20 q20 => ?_)
            have q20 : t_xc [(ar0 + 2), (ar0 + 2) + 3, (ar0 + 2) + 4, (ar0 + 2) + 5] gi14 gl14 gr14 gi20 gl20 gr20 ∧ gi20 (ar0 + 2) 0 = gi14 (ar0 + 2) 0 := q20
            replace p_a0 := p_a0.ext hC20.2
            replace p10 := p10.ext hC20.2
            replace p19 := p19.ext hC20.2
            refine ev_incR f_X8_readEither (nx := 62) (c := 1) (l := 1) (u := 300) rfl rfl (by decide) (by decide) l6_2 u9 rfl rfl (by decide) (by decide) rfl (fun z21 e21 l21 u21 => ?_)
            refine ev_jmp f_X8_readEither (nx := 12) rfl rfl rfl ?_
            refine ev_sub (lo := [(2, .int z21), (0, .ref ar0), (1, .int ar1)]) rfl (t_sc rfl (t_sc rfl (t_sc rfl t_sn))) ?_
            exact ih6 _ (by omega) gi20 gl20 gr20 (z21) hI hX p_a0 (Int.le_trans (by decide : (0:Int) ≤ 1) l21) u21 ⟨fun b n q c T h hT hp => (by
                                                            obtain ⟨q2, c2, hC, hl0, hi, h2, hw2⟩ := j6_0.1 b n q c T h hT hp
                                                            have h102 := p_a0.2.1
                                                            have hW := h2.1.kwT e11 h12
                                                            have hJ : s_jnd b n q2 := Or.inl hW
                                                            have hg := s_jnd_gt hJ
                                                            have h2a := h2.on (q13.1 b n _ h2.1.S) q13.2.1 q13.2.2
                                                            obtain ⟨_, q3, c3, hX, hlt, h3, hw3⟩ := (q14.1 b n _ _ T h2a hT hp).resolve_right (fun hh => absurd hh.1 (by omega))
                                                            have h4 := h3.xc q20.1 (by intro x hx; simp only [List.mem_cons, List.not_mem_nil, or_false] at hx; omega)
                                                            exact ⟨q3, c3, (hC.trans (s_Cnd_j h2.qn hJ)).trans hX, by omega, by omega, h4, hw3⟩), (t_lq.ex (t_lq.tr (t_lq.on j6_0.2 q13.2.2 (by omega)) q14.2) q20.1 (by intro x hx; simp only [List.mem_cons, List.not_mem_nil, or_false] at hx; omega))⟩ rfl
        · refine ev_ic f_X8_readEither (nx := 66) (v := 1) rfl (by decide) rfl ?_
          exact ev_ret f_X8_readEither rfl rfl rfl ⟨_, _, _, rfl, hI, hX, ⟨_, rfl, (Int.le_trans (by decide : (0:Int) ≤ 1) (by decide : (1:Int) ≤ (1:Int32).toInt)), (by decide : (1:Int32).toInt ≤ (1:Int)), (show (∀ (b : Nat → Int32) (n q c : Nat) (T : List Int), t_US b n q c gi gl gr ar0 → (T.length : Int) = ar1.toInt → s_pop T = T → ((1 : Int) = 1 ∧ ∃ q2 c2, s_Cnd b n false q c T = s_Cnd b n true q2 c2 T ∧ q < q2 ∧ t_US b n q2 c2 gi6 gl6 gr6 ar0 ∧ ¬ s_jnd b n q2) ∨ ((1 : Int) = 0 ∧ ∃ p x, x ≠ 0 ∧ s_Cnd b n false q c T = s_qb b n p x ∧ t_FL gi6 (ar0 + 1) (s_fk b n p x) (s_F b n p))) ∧ t_lq ar0 gi gl gr gi6 gl6 gr6 from ⟨fun b n q c T h hT hp => (by
                                                            obtain ⟨q2, c2, hC, hl0, hi, h2, hw2⟩ := j6_0.1 b n q c T h hT hp
                                                            have h102 := p_a0.2.1
                                                            have hn3 := h2.2.1.1
                                                            have hq2 := h2.qn
                                                            exact Or.inl ⟨rfl, q2, c2, hC, hl0, h2, (fun hh => hh.elim (fun x => (h2.1.kwF e11 h12) x) (fun x => hw2 x))⟩), j6_0.2⟩)⟩⟩
    refine ev_sub (lo := [(2, .int 0), (0, .ref ar0), (1, .int ar1)]) rfl (t_sc rfl (t_sc rfl (t_sc rfl t_sn))) ?_
    exact L6 _ gi1 gl1 gr1 (0) hI hX p_a0 (by decide : (0:Int) ≤ (0:Int32).toInt) (Int.le_trans (by decide : (0:Int32).toInt ≤ (0:Int)) (by decide : (0:Int) ≤ 300)) ⟨fun b n q c T h hT hp => (by
                                                            obtain ⟨_, q3, c3, hX, hlt, h3, hw3⟩ := (q1.1 b n _ _ T h hT hp).resolve_right (fun hh => absurd hh.1 (by omega))
                                                            exact ⟨q3, c3, hX, hlt, by have : (0 : Int32).toInt = 0 := rfl; omega, h3, hw3⟩), (t_lq.tr t_lq.rf q1.2)⟩ rfl
/-! ===== printed by riv.py: the RULES of the class ===== -/
noncomputable def wl_u_readRule : List (Nat × Nat) := [(116, 0), (116, 3), (117, 2), (118, 2), (118, 3), (118, 4), (118, 5), (118, 6), (118, 7), (118, 8), (118, 9), (118, 10), (118, 11), (130, 9999)]
noncomputable def Q_u_readRule (gi : Nat → Nat → Int32) (gl : Nat → Nat → Int64) (gr : Nat → Nat → Value) (ar0 : Nat) : Int32 → (Nat → Nat → Int32) → (Nat → Nat → Int64) → (Nat → Nat → Value) → Prop := fun (v : Int32) (gi2 : Nat → Nat → Int32) (gl2 : Nat → Nat → Int64) (gr2 : Nat → Nat → Value) => (∀ (b : Nat → Int32) (n q c r : Nat), t_US b n q c gi gl gr ar0 → (gi (ar0 + 2) 0).toInt = (r : Int) → r ≤ 12 → s_K b n q ≠ 0 → (v.toInt = 1 ∧ ∃ q2 c2, (∀ m, s_rls b n (m + 1) q c r = s_rls b n m q2 c2 (r + 1)) ∧ q < q2 ∧ t_US b n q2 c2 gi2 gl2 gr2 ar0 ∧ (gi2 (ar0 + 2) 0).toInt = (r : Int) + 1) ∨ (v.toInt = 0 ∧ ∃ p x, x ≠ 0 ∧ (∀ m, s_rls b n (m + 1) q c r = ((s_qb b n p x).1, 0)) ∧ t_FL gi2 (ar0 + 1) (s_fk b n p x) (s_F b n p))) ∧ t_lq ar0 gi gl gr gi2 gl2 gr2
theorem c_u_readRule {X : x_Ext} {d : Nat} {sh : List (Nat ⊕ (Nat × Nat))} {gi : Nat → Nat → Int32} {gl : Nat → Nat → Int64} {gr : Nat → Nat → Value} (hI : t_I sh gi gr) (ar0 : Nat) (p_a0 : t_UQ sh gr ar0) : x_Me X (d + 64) n_X8_readRule [.ref ar0] (sh, gi, gl, gr) (t_PI wl_u_readRule sh gi gl gr 0 1 (Q_u_readRule gi gl gr ar0)) := by
  have hX : t_X wl_u_readRule sh gi gl gr gi gl gr := t_X.rf
  refine me_i f_X8_readRule p_a0.1 rfl rfl rfl ?_
  refine ev_loc f_X8_readRule (nx := 1) rfl rfl rfl rfl ?_
  have e1 := p_a0.2.2.1.1
  have p1 := p_a0.2.2.1.2
  refine ev_getR f_X8_readRule (nx := 4) rfl p_a0.1 rfl rfl e1 rfl rfl ?_
  have k2 := hI.2.2.2.1.2.2.2.2.2 (ar0 + 1) p1.1
  obtain ⟨v2, e2⟩ : ∃ v, gr (ar0 + 1) 7 = v := ⟨_, rfl⟩
  rw [e2] at k2
  refine ev_getR f_X8_readRule (nx := 7) rfl p1.1 rfl rfl e2 (t_KwR k2) rfl ?_
  refine ev_heap f_X8_readRule (nx := 10) rfl rfl rfl rfl ?_
  refine ev_ack f_X8_readRule (t1 := 13) (t2 := 35) rfl rfl rfl (t_knw k2) rfl (fun h3 => ?_) (fun h3 => ?_)
  · refine ev_loc f_X8_readRule (nx := 14) rfl rfl rfl rfl ?_
    have e4 := p_a0.2.2.2.1
    have p4 := p_a0.2.2.2.2
    refine ev_getR f_X8_readRule (nx := 17) rfl p_a0.1 rfl rfl e4 rfl rfl ?_
    refine ev_getI f_X8_readRule (nx := 20) rfl p4.1 rfl rfl rfl ?_
    obtain ⟨l5, u5⟩ := hI.b p4.1 (t_bdK rfl : t_bd 6 0 = some (0, 12))
    refine ev_bp f_X8_readRule (nx := 22) (v := 12) rfl (by decide) rfl ?_
    refine ev_if f_X8_readRule (t1 := 35) (t2 := 25) rfl rfl rfl (fun h6 => ?_) (fun h6 => ?_)
    · have u7 : (gi (ar0 + 2) 0).toInt ≤ 11 := t_ltu h6 (by decide : (12:Int32).toInt ≤ (12:Int)) rfl
      refine ev_loc f_X8_readRule (nx := 36) rfl rfl rfl rfl ?_
      refine ev_getR f_X8_readRule (nx := 39) (v := .ref (ar0 + 1)) rfl p_a0.1 rfl rfl e1 rfl rfl ?_
      refine ev_heap f_X8_readRule (nx := 42) rfl rfl rfl rfl ?_
      refine ev_qI f_X8_readRule (nx := 45) (r := []) rfl rfl rfl rfl rfl rfl rfl (c_s_takeIf hI ((ar0 + 1)) p1) rfl hX rfl (fun w8 gi8 gl8 gr8 l8 u8 hI hX hC8 q8 => ?_)
      have q8 : (∀ (b : Nat → Int32) (n q : Nat), t_TC b n q gi gl gr (ar0 + 1) → (w8.toInt = 1 ∧ s_W b n q = some 13 ∧ t_TC b n (s_E b n q) gi8 gl8 gr8 (ar0 + 1) ∧ t_nf gi gi8 (ar0 + 1)) ∨ (w8.toInt = 0 ∧ s_W b n q ≠ some 13 ∧ t_FL gi8 (ar0 + 1) (s_fk b n q 2) (s_F b n q))) ∧ t_on (ar0 + 1) gi gl gr gi8 gl8 gr8 := q8
      replace p_a0 := p_a0.ext hC8.2
      replace p1 := p1.ext hC8.2
      replace p4 := p4.ext hC8.2
      refine ev_if f_X8_readRule (t1 := 69) (t2 := 48) rfl rfl rfl (fun h9 => ?_) (fun h9 => ?_)
      · have u10 : w8.toInt ≤ 0 := t_equ h9 (by decide : (0:Int32).toInt ≤ (0:Int))
        refine ev_ic f_X8_readRule (nx := 70) (v := 0) rfl (by decide) rfl ?_
        exact ev_ret f_X8_readRule rfl rfl rfl ⟨_, _, _, rfl, hI, hX, ⟨_, rfl, (by decide : (0:Int) ≤ (0:Int32).toInt), (Int.le_trans (by decide : (0:Int32).toInt ≤ (0:Int)) (by decide : (0:Int) ≤ 1)), (show (∀ (b : Nat → Int32) (n q c r : Nat), t_US b n q c gi gl gr ar0 → (gi (ar0 + 2) 0).toInt = (r : Int) → r ≤ 12 → s_K b n q ≠ 0 → ((0 : Int) = 1 ∧ ∃ q2 c2, (∀ m, s_rls b n (m + 1) q c r = s_rls b n m q2 c2 (r + 1)) ∧ q < q2 ∧ t_US b n q2 c2 gi8 gl8 gr8 ar0 ∧ (gi8 (ar0 + 2) 0).toInt = (r : Int) + 1) ∨ ((0 : Int) = 0 ∧ ∃ p x, x ≠ 0 ∧ (∀ m, s_rls b n (m + 1) q c r = ((s_qb b n p x).1, 0)) ∧ t_FL gi8 (ar0 + 1) (s_fk b n p x) (s_F b n p))) ∧ t_lq ar0 gi gl gr gi8 gl8 gr8 from ⟨(by
                                                            intro b n q c r h hm hr12 hK
                                                            have h102 := p_a0.2.1
                                                            have hq := h.qn
                                                            obtain ⟨_, hW, hf⟩ := (q8.1 b n _ h.1).resolve_left (fun hh => absurd hh.1 (by omega))
                                                            exact Or.inr ⟨rfl, q, 2, by decide, fun m => s_rls_i hK hW, hf⟩), (t_lq.on t_lq.rf q8.2 (by omega))⟩)⟩⟩
      · have r11 : w8.toInt ≠ 0 := fun e => h9 (Int32.toInt_inj.mp (e.trans (by decide : (0:Int) = (0 : Int32).toInt)))
        have l12 : 1 ≤ w8.toInt := t_nel h9 l8 rfl rfl
        refine ev_loc f_X8_readRule (nx := 49) rfl rfl rfl rfl ?_
        refine ev_ic f_X8_readRule (nx := 50) (v := 0) rfl (by decide) rfl ?_
        refine ev_qI f_X8_readRule (nx := 53) (r := []) rfl rfl rfl rfl rfl rfl rfl (c_u_readEither2 hI (ar0) p_a0 (0) (by decide : (0:Int) ≤ (0:Int32).toInt) (Int.le_trans (by decide : (0:Int32).toInt ≤ (0:Int)) (by decide : (0:Int) ≤ 6))) rfl hX rfl (fun w13 gi13 gl13 gr13 l13 u13 hI hX hC13 q13 => ?_)
        have q13 : (∀ (b : Nat → Int32) (n q c : Nat) (T : List Int), t_US b n q c gi8 gl8 gr8 ar0 → (T.length : Int) = 0 → s_pop T = T → (w13.toInt = 1 ∧ ∃ q2 c2, s_Cnd b n false q c T = s_Cnd b n true q2 c2 T ∧ q < q2 ∧ t_US b n q2 c2 gi13 gl13 gr13 ar0 ∧ ¬ s_jnd b n q2) ∨ (w13.toInt = 0 ∧ ∃ p x, x ≠ 0 ∧ s_Cnd b n false q c T = s_qb b n p x ∧ t_FL gi13 (ar0 + 1) (s_fk b n p x) (s_F b n p))) ∧ t_lq ar0 gi8 gl8 gr8 gi13 gl13 gr13 := q13
        replace p_a0 := p_a0.ext hC13.2
        replace p1 := p1.ext hC13.2
        replace p4 := p4.ext hC13.2
        refine ev_if f_X8_readRule (t1 := 69) (t2 := 56) rfl rfl rfl (fun h14 => ?_) (fun h14 => ?_)
        · have u15 : w13.toInt ≤ 0 := t_equ h14 (by decide : (0:Int32).toInt ≤ (0:Int))
          refine ev_ic f_X8_readRule (nx := 70) (v := 0) rfl (by decide) rfl ?_
          exact ev_ret f_X8_readRule rfl rfl rfl ⟨_, _, _, rfl, hI, hX, ⟨_, rfl, (by decide : (0:Int) ≤ (0:Int32).toInt), (Int.le_trans (by decide : (0:Int32).toInt ≤ (0:Int)) (by decide : (0:Int) ≤ 1)), (show (∀ (b : Nat → Int32) (n q c r : Nat), t_US b n q c gi gl gr ar0 → (gi (ar0 + 2) 0).toInt = (r : Int) → r ≤ 12 → s_K b n q ≠ 0 → ((0 : Int) = 1 ∧ ∃ q2 c2, (∀ m, s_rls b n (m + 1) q c r = s_rls b n m q2 c2 (r + 1)) ∧ q < q2 ∧ t_US b n q2 c2 gi13 gl13 gr13 ar0 ∧ (gi13 (ar0 + 2) 0).toInt = (r : Int) + 1) ∨ ((0 : Int) = 0 ∧ ∃ p x, x ≠ 0 ∧ (∀ m, s_rls b n (m + 1) q c r = ((s_qb b n p x).1, 0)) ∧ t_FL gi13 (ar0 + 1) (s_fk b n p x) (s_F b n p))) ∧ t_lq ar0 gi gl gr gi13 gl13 gr13 from ⟨(by
                                                            intro b n q c r h hm hr12 hK
                                                            have h102 := p_a0.2.1
                                                            have hq := h.qn
                                                            obtain ⟨_, hW, ht1, hf1⟩ := (q8.1 b n _ h.1).resolve_right (fun hh => absurd hh.1 (by omega))
                                                            have h1 := h.on ht1 hf1 q8.2
                                                            have hr : r ≠ 12 := by omega
                                                            obtain ⟨_, p, x, hx, hX, hf⟩ := (q13.1 b n _ c [] h1 rfl rfl).resolve_left (fun hh => absurd hh.1 (by omega))
                                                            exact Or.inr ⟨rfl, p, x, hx, fun m => s_rls_c hK hW hr hX hx, hf⟩), (t_lq.tr (t_lq.on t_lq.rf q8.2 (by omega)) q13.2)⟩)⟩⟩
        · have r16 : w13.toInt ≠ 0 := fun e => h14 (Int32.toInt_inj.mp (e.trans (by decide : (0:Int) = (0 : Int32).toInt)))
          have l17 : 1 ≤ w13.toInt := t_nel h14 l13 rfl rfl
          refine ev_loc f_X8_readRule (nx := 57) rfl rfl rfl rfl ?_
          refine ev_getR f_X8_readRule (nx := 60) (v := .ref (ar0 + 1)) rfl p_a0.1 rfl rfl ((hC13.1 ar0 0 (t_ninO hI.wf p_a0.1 (t_outO hI.wf p_a0.1 rfl) rfl)).2.2.trans ((hC8.1 ar0 0 (t_ninO hI.wf p_a0.1 (t_outO hI.wf p_a0.1 rfl) rfl)).2.2.trans e1)) rfl rfl ?_
          refine ev_heap f_X8_readRule (nx := 63) rfl rfl rfl rfl ?_
          refine ev_qI f_X8_readRule (nx := 66) (r := []) rfl rfl rfl rfl rfl rfl rfl (c_s_takeDo hI ((ar0 + 1)) p1) rfl hX rfl (fun w18 gi18 gl18 gr18 l18 u18 hI hX hC18 q18 => ?_)
          have q18 : (∀ (b : Nat → Int32) (n q : Nat), t_TC b n q gi13 gl13 gr13 (ar0 + 1) → (w18.toInt = 1 ∧ s_W b n q = some 14 ∧ t_TC b n (s_E b n q) gi18 gl18 gr18 (ar0 + 1) ∧ t_nf gi13 gi18 (ar0 + 1)) ∨ (w18.toInt = 0 ∧ s_W b n q ≠ some 14 ∧ t_FL gi18 (ar0 + 1) (s_fk b n q 2) (s_F b n q))) ∧ t_on (ar0 + 1) gi13 gl13 gr13 gi18 gl18 gr18 := q18
          replace p_a0 := p_a0.ext hC18.2
          replace p1 := p1.ext hC18.2
          replace p4 := p4.ext hC18.2
          refine ev_if f_X8_readRule (t1 := 69) (t2 := 71) rfl rfl rfl (fun h19 => ?_) (fun h19 => ?_)
          · have u20 : w18.toInt ≤ 0 := t_equ h19 (by decide : (0:Int32).toInt ≤ (0:Int))
            refine ev_ic f_X8_readRule (nx := 70) (v := 0) rfl (by decide) rfl ?_
            exact ev_ret f_X8_readRule rfl rfl rfl ⟨_, _, _, rfl, hI, hX, ⟨_, rfl, (by decide : (0:Int) ≤ (0:Int32).toInt), (Int.le_trans (by decide : (0:Int32).toInt ≤ (0:Int)) (by decide : (0:Int) ≤ 1)), (show (∀ (b : Nat → Int32) (n q c r : Nat), t_US b n q c gi gl gr ar0 → (gi (ar0 + 2) 0).toInt = (r : Int) → r ≤ 12 → s_K b n q ≠ 0 → ((0 : Int) = 1 ∧ ∃ q2 c2, (∀ m, s_rls b n (m + 1) q c r = s_rls b n m q2 c2 (r + 1)) ∧ q < q2 ∧ t_US b n q2 c2 gi18 gl18 gr18 ar0 ∧ (gi18 (ar0 + 2) 0).toInt = (r : Int) + 1) ∨ ((0 : Int) = 0 ∧ ∃ p x, x ≠ 0 ∧ (∀ m, s_rls b n (m + 1) q c r = ((s_qb b n p x).1, 0)) ∧ t_FL gi18 (ar0 + 1) (s_fk b n p x) (s_F b n p))) ∧ t_lq ar0 gi gl gr gi18 gl18 gr18 from ⟨(by
                                                            intro b n q c r h hm hr12 hK
                                                            have h102 := p_a0.2.1
                                                            have hq := h.qn
                                                            obtain ⟨_, hW, ht1, hf1⟩ := (q8.1 b n _ h.1).resolve_right (fun hh => absurd hh.1 (by omega))
                                                            have h1 := h.on ht1 hf1 q8.2
                                                            have hr : r ≠ 12 := by omega
                                                            obtain ⟨_, q2, c2, hX, hlt, h2, hw⟩ := (q13.1 b n _ c [] h1 rfl rfl).resolve_right (fun hh => absurd hh.1 (by omega))
                                                            have hX := hX.trans (s_Cnd_e h2.qn hw)
                                                            have hg := s_W_gt hW
                                                            have hR := fun m => s_rls_k (m := m) hK hW hr hX
                                                            obtain ⟨_, hD, hf⟩ := (q18.1 b n _ h2.1).resolve_left (fun hh => absurd hh.1 (by omega))
                                                            exact Or.inr ⟨rfl, q2, 2, by decide, fun m => (hR m).trans (s_act_d hD), hf⟩), (t_lq.on (t_lq.tr (t_lq.on t_lq.rf q8.2 (by omega)) q13.2) q18.2 (by omega))⟩)⟩⟩
          · have r21 : w18.toInt ≠ 0 := fun e => h19 (Int32.toInt_inj.mp (e.trans (by decide : (0:Int) = (0 : Int32).toInt)))
            have l22 : 1 ≤ w18.toInt := t_nel h19 l18 rfl rfl
            refine ev_loc f_X8_readRule (nx := 72) rfl rfl rfl rfl ?_
            refine ev_qI0 f_X8_readRule (nx := 75) (r := []) rfl rfl rfl rfl rfl rfl rfl (c_u_actTold hI (ar0) p_a0) rfl (fun w23 l23 u23 q23 => ?_)
            have q23 : ∀ (b : Nat → Int32) (n q : Nat), t_TC b n q gi18 gl18 gr18 (ar0 + 1) → (w23.toInt ≠ -1 ↔ (s_W b n q = some 15 ∨ s_W b n q = some 16 ∨ s_W b n q = some 17)) := q23
            refine ev_loc f_X8_readRule (nx := 76) (lo' := [(1, .int w23), (0, .ref ar0)]) rfl rfl rfl rfl ?_
            refine ev_loc f_X8_readRule (nx := 77) rfl rfl rfl rfl ?_
            refine ev_ic f_X8_readRule (nx := 78) (v := -1) rfl (by decide) rfl ?_
            refine ev_if f_X8_readRule (t1 := 81) (t2 := 90) rfl rfl rfl (fun h24 => ?_) (fun h24 => ?_)
            · have u25 : w23.toInt ≤ (-1) := t_equ h24 (by decide : ((-1):Int32).toInt ≤ ((-1):Int))
              refine ev_loc f_X8_readRule (nx := 82) rfl rfl rfl rfl ?_
              refine ev_getR f_X8_readRule (nx := 85) (v := .ref (ar0 + 1)) rfl p_a0.1 rfl rfl ((hC18.1 ar0 0 (t_ninO hI.wf p_a0.1 (t_outO hI.wf p_a0.1 rfl) rfl)).2.2.trans ((hC13.1 ar0 0 (t_ninO hI.wf p_a0.1 (t_outO hI.wf p_a0.1 rfl) rfl)).2.2.trans ((hC8.1 ar0 0 (t_ninO hI.wf p_a0.1 (t_outO hI.wf p_a0.1 rfl) rfl)).2.2.trans e1))) rfl rfl ?_
              refine ev_ic f_X8_readRule (nx := 86) (v := 2) rfl (by decide) rfl ?_
              refine ev_qI f_X8_readRule (nx := 89) (r := []) rfl rfl rfl rfl rfl rfl rfl (c_s_refuse hI ((ar0 + 1)) p1 (2) (by decide : (2:Int) ≤ (2:Int32).toInt) (Int.le_trans (by decide : (2:Int32).toInt ≤ (2:Int)) (by decide : (2:Int) ≤ 7))) rfl hX rfl (fun w26 gi26 gl26 gr26 l26 u26 hI hX hC26 q26 => ?_)
              have q26 : (∀ (b : Nat → Int32) (n q : Nat), t_TC b n q gi18 gl18 gr18 (ar0 + 1) → t_FL gi26 (ar0 + 1) (s_fk b n q 2) (s_F b n q)) ∧ w26.toInt = 0 ∧ t_on (ar0 + 1) gi18 gl18 gr18 gi26 gl26 gr26 := q26
              replace p_a0 := p_a0.ext hC26.2
              replace p1 := p1.ext hC26.2
              replace p4 := p4.ext hC26.2
              exact ev_retZ f_X8_readRule rfl l26 (Int.le_trans u26 (by decide : (0:Int) ≤ 1)) ⟨_, _, _, rfl, hI, hX, ⟨_, rfl, l26, (Int.le_trans u26 (by decide : (0:Int) ≤ 1)), (show (∀ (b : Nat → Int32) (n q c r : Nat), t_US b n q c gi gl gr ar0 → (gi (ar0 + 2) 0).toInt = (r : Int) → r ≤ 12 → s_K b n q ≠ 0 → (w26.toInt = 1 ∧ ∃ q2 c2, (∀ m, s_rls b n (m + 1) q c r = s_rls b n m q2 c2 (r + 1)) ∧ q < q2 ∧ t_US b n q2 c2 gi26 gl26 gr26 ar0 ∧ (gi26 (ar0 + 2) 0).toInt = (r : Int) + 1) ∨ (w26.toInt = 0 ∧ ∃ p x, x ≠ 0 ∧ (∀ m, s_rls b n (m + 1) q c r = ((s_qb b n p x).1, 0)) ∧ t_FL gi26 (ar0 + 1) (s_fk b n p x) (s_F b n p))) ∧ t_lq ar0 gi gl gr gi26 gl26 gr26 from ⟨(by
                                                            intro b n q c r h hm hr12 hK
                                                            have h102 := p_a0.2.1
                                                            have hq := h.qn
                                                            obtain ⟨_, hW, ht1, hf1⟩ := (q8.1 b n _ h.1).resolve_right (fun hh => absurd hh.1 (by omega))
                                                            have h1 := h.on ht1 hf1 q8.2
                                                            have hr : r ≠ 12 := by omega
                                                            obtain ⟨_, q2, c2, hX, hlt, h2, hw⟩ := (q13.1 b n _ c [] h1 rfl rfl).resolve_right (fun hh => absurd hh.1 (by omega))
                                                            have hX := hX.trans (s_Cnd_e h2.qn hw)
                                                            have hg := s_W_gt hW
                                                            have hR := fun m => s_rls_k (m := m) hK hW hr hX
                                                            obtain ⟨_, hD, ht3, hf3⟩ := (q18.1 b n _ h2.1).resolve_right (fun hh => absurd hh.1 (by omega))
                                                            have h3 := h2.on ht3 hf3 q18.2
                                                            have ha := fun hh => (q23 b n _ h3.1).mpr hh (by omega)
                                                            exact Or.inr ⟨q26.2.1, _, 2, by decide, fun m => (hR m).trans (s_act_a hD ha), q26.1 b n _ h3.1⟩), (t_lq.on (t_lq.on (t_lq.tr (t_lq.on t_lq.rf q8.2 (by omega)) q13.2) q18.2 (by omega)) q26.2.2 (by omega))⟩)⟩⟩
            · have r27 : w23.toInt ≠ (-1) := fun e => h24 (Int32.toInt_inj.mp (e.trans (by decide : ((-1):Int) = ((-1) : Int32).toInt)))
              have l28 : 0 ≤ w23.toInt := t_nel h24 l23 rfl rfl
              refine ev_loc f_X8_readRule (nx := 91) rfl rfl rfl rfl ?_
              refine ev_getR f_X8_readRule (nx := 94) (v := .ref (ar0 + 1)) rfl p_a0.1 rfl rfl ((hC18.1 ar0 0 (t_ninO hI.wf p_a0.1 (t_outO hI.wf p_a0.1 rfl) rfl)).2.2.trans ((hC13.1 ar0 0 (t_ninO hI.wf p_a0.1 (t_outO hI.wf p_a0.1 rfl) rfl)).2.2.trans ((hC8.1 ar0 0 (t_ninO hI.wf p_a0.1 (t_outO hI.wf p_a0.1 rfl) rfl)).2.2.trans e1))) rfl rfl ?_
              refine ev_qN f_X8_readRule (nx := 97) (r := []) rfl rfl rfl rfl rfl rfl rfl (c_s_step hI ((ar0 + 1)) p1) rfl hX rfl (fun gi29 gl29 gr29 hI hX hC29 q29 => ?_)
              have q29 : (∀ (b : Nat → Int32) (n q : Nat), t_Sp b n q gi18 (ar0 + 1) → t_TC b n q gi29 gl29 gr29 (ar0 + 1)) ∧ t_nf gi18 gi29 (ar0 + 1) ∧ t_on (ar0 + 1) gi18 gl18 gr18 gi29 gl29 gr29 := q29
              replace p_a0 := p_a0.ext hC29.2
              replace p1 := p1.ext hC29.2
              replace p4 := p4.ext hC29.2
              refine ev_loc f_X8_readRule (nx := 98) rfl rfl rfl rfl ?_
              refine ev_getR f_X8_readRule (nx := 101) (v := .ref (ar0 + 2)) rfl p_a0.1 rfl rfl ((hC29.1 ar0 1 (t_ninO hI.wf p_a0.1 (t_outO hI.wf p_a0.1 rfl) rfl)).2.2.trans ((hC18.1 ar0 1 (t_ninO hI.wf p_a0.1 (t_outO hI.wf p_a0.1 rfl) rfl)).2.2.trans ((hC13.1 ar0 1 (t_ninO hI.wf p_a0.1 (t_outO hI.wf p_a0.1 rfl) rfl)).2.2.trans ((hC8.1 ar0 1 (t_ninO hI.wf p_a0.1 (t_outO hI.wf p_a0.1 rfl) rfl)).2.2.trans e4)))) rfl rfl ?_
              refine ev_loc f_X8_readRule (nx := 102) rfl rfl rfl rfl ?_
              refine ev_qN f_X8_readRule (nx := 105) (r := []) rfl rfl rfl rfl rfl rfl rfl (c_u_endRule hI ((ar0 + 2)) p4 (w23)) rfl hX rfl (fun gi30 gl30 gr30 hI hX hC30 q30 => ?_)
              have ff31 : (gi29 (ar0 + 2) 0).toInt = (gi (ar0 + 2) 0).toInt := congrArg Int32.toInt ((hC29.1 (ar0 + 2) 0 (t_ninO hI.wf p4.1 (t_outO hI.wf p4.1 rfl) rfl)).1.trans ((hC18.1 (ar0 + 2) 0 (t_ninO hI.wf p4.1 (t_outO hI.wf p4.1 rfl) rfl)).1.trans ((hC13.1 (ar0 + 2) 0 (t_ninO hI.wf p4.1 (t_outO hI.wf p4.1 rfl) rfl)).1.trans ((hC8.1 (ar0 + 2) 0 (t_ninO hI.wf p4.1 (t_outO hI.wf p4.1 rfl) rfl)).1.trans rfl))))
              have q30 : ((gi29 (ar0 + 2) 0).toInt < 12 → (gi30 (ar0 + 2) 0).toInt = (gi29 (ar0 + 2) 0).toInt + 1) ∧ t_xc [(ar0 + 2), (ar0 + 2) + 1, (ar0 + 2) + 2] gi29 gl29 gr29 gi30 gl30 gr30 := q30
              replace p_a0 := p_a0.ext hC30.2
              replace p1 := p1.ext hC30.2
              replace p4 := p4.ext hC30.2
              refine ev_loc f_X8_readRule (nx := 106) rfl rfl rfl rfl ?_
              refine ev_getR f_X8_readRule (nx := 109) (v := .ref (ar0 + 1)) rfl p_a0.1 rfl rfl ((hC30.1 ar0 0 (t_ninO hI.wf p_a0.1 (t_outO hI.wf p_a0.1 rfl) rfl)).2.2.trans ((hC29.1 ar0 0 (t_ninO hI.wf p_a0.1 (t_outO hI.wf p_a0.1 rfl) rfl)).2.2.trans ((hC18.1 ar0 0 (t_ninO hI.wf p_a0.1 (t_outO hI.wf p_a0.1 rfl) rfl)).2.2.trans ((hC13.1 ar0 0 (t_ninO hI.wf p_a0.1 (t_outO hI.wf p_a0.1 rfl) rfl)).2.2.trans ((hC8.1 ar0 0 (t_ninO hI.wf p_a0.1 (t_outO hI.wf p_a0.1 rfl) rfl)).2.2.trans e1))))) rfl rfl ?_
              refine ev_bp f_X8_readRule (nx := 111) (v := 59) rfl (by decide) rfl ?_
              refine ev_qI f_X8_readRule (nx := 114) (r := []) rfl rfl rfl rfl rfl rfl rfl (c_s_takeSign hI ((ar0 + 1)) p1 (59)) rfl hX rfl (fun w32 gi32 gl32 gr32 l32 u32 hI hX hC32 q32 => ?_)
              have q32 : (∀ (b : Nat → Int32) (n q : Nat), t_TC b n q gi30 gl30 gr30 (ar0 + 1) → (w32.toInt = 1 ∧ s_isS b n q 59 ∧ t_TC b n (s_E b n q) gi32 gl32 gr32 (ar0 + 1) ∧ t_nf gi30 gi32 (ar0 + 1)) ∨ (w32.toInt = 0 ∧ ¬ s_isS b n q 59 ∧ t_FL gi32 (ar0 + 1) (s_fk b n q 2) (s_F b n q))) ∧ t_on (ar0 + 1) gi30 gl30 gr30 gi32 gl32 gr32 := q32
              replace p_a0 := p_a0.ext hC32.2
              replace p1 := p1.ext hC32.2
              replace p4 := p4.ext hC32.2
              exact ev_retZ f_X8_readRule rfl l32 u32 ⟨_, _, _, rfl, hI, hX, ⟨_, rfl, l32, u32, (show (∀ (b : Nat → Int32) (n q c r : Nat), t_US b n q c gi gl gr ar0 → (gi (ar0 + 2) 0).toInt = (r : Int) → r ≤ 12 → s_K b n q ≠ 0 → (w32.toInt = 1 ∧ ∃ q2 c2, (∀ m, s_rls b n (m + 1) q c r = s_rls b n m q2 c2 (r + 1)) ∧ q < q2 ∧ t_US b n q2 c2 gi32 gl32 gr32 ar0 ∧ (gi32 (ar0 + 2) 0).toInt = (r : Int) + 1) ∨ (w32.toInt = 0 ∧ ∃ p x, x ≠ 0 ∧ (∀ m, s_rls b n (m + 1) q c r = ((s_qb b n p x).1, 0)) ∧ t_FL gi32 (ar0 + 1) (s_fk b n p x) (s_F b n p))) ∧ t_lq ar0 gi gl gr gi32 gl32 gr32 from ⟨(by
                                                            intro b n q c r h hm hr12 hK
                                                            have h102 := p_a0.2.1
                                                            have hq := h.qn
                                                            obtain ⟨_, hW, ht1, hf1⟩ := (q8.1 b n _ h.1).resolve_right (fun hh => absurd hh.1 (by omega))
                                                            have h1 := h.on ht1 hf1 q8.2
                                                            have hr : r ≠ 12 := by omega
                                                            obtain ⟨_, q2, c2, hX, hlt, h2, hw⟩ := (q13.1 b n _ c [] h1 rfl rfl).resolve_right (fun hh => absurd hh.1 (by omega))
                                                            have hX := hX.trans (s_Cnd_e h2.qn hw)
                                                            have hg := s_W_gt hW
                                                            have hR := fun m => s_rls_k (m := m) hK hW hr hX
                                                            obtain ⟨_, hD, ht3, hf3⟩ := (q18.1 b n _ h2.1).resolve_right (fun hh => absurd hh.1 (by omega))
                                                            have h3 := h2.on ht3 hf3 q18.2
                                                            have ha := (q23 b n _ h3.1).mp (by omega)
                                                            have h4 := h3.on (q29.1 b n _ h3.1.S) q29.2.1 q29.2.2
                                                            have h5 := h4.xc q30.2 (by intro x hx; simp only [List.mem_cons, List.not_mem_nil, or_false] at hx; omega)
                                                            have m8 : (gi8 (ar0 + 2) 0) = (gi (ar0 + 2) 0) := (hC8.1 (ar0 + 2) 0 (by rw [t_cdO p_a0.2.2.2.2.1 (by omega)]; rfl)).1
                                                            have m13 : (gi13 (ar0 + 2) 0) = (gi8 (ar0 + 2) 0) := (hC13.1 (ar0 + 2) 0 (by rw [t_cdO p_a0.2.2.2.2.1 (by omega)]; rfl)).1
                                                            have m18 : (gi18 (ar0 + 2) 0) = (gi13 (ar0 + 2) 0) := (hC18.1 (ar0 + 2) 0 (by rw [t_cdO p_a0.2.2.2.2.1 (by omega)]; rfl)).1
                                                            have m29 : (gi29 (ar0 + 2) 0) = (gi18 (ar0 + 2) 0) := (hC29.1 (ar0 + 2) 0 (by rw [t_cdO p_a0.2.2.2.2.1 (by omega)]; rfl)).1
                                                            have m5 := q30.1 (by rw [m29, m18, m13, m8]; omega)
                                                            rw [m29, m18, m13, m8, hm] at m5
                                                            have m32 := (hC32.1 (ar0 + 2) 0 (by rw [t_cdO p_a0.2.2.2.2.1 (by omega)]; rfl)).1
                                                            have hg2 := s_W_gt hD
                                                            rcases q32.1 b n _ h5.1 with hh | hh
                                                            · have hg3 := s_isS_gt hh.2.1
                                                              have hg4 : s_E b n q2 < s_E b n (s_E b n q2) := by rcases ha with x | x | x <;> exact (s_W_gt x).1
                                                              exact Or.inl ⟨hh.1, _, c2, fun m => (hR m).trans (s_act_k hD ha hh.2.1), by omega, h5.on hh.2.2.1 hh.2.2.2 q32.2, by rw [m32]; exact m5⟩
                                                            · exact Or.inr ⟨hh.1, _, 2, by decide, fun m => (hR m).trans (s_act_s hD ha hh.2.1), hh.2.2⟩), (t_lq.on (t_lq.ex (t_lq.on (t_lq.on (t_lq.tr (t_lq.on t_lq.rf q8.2 (by omega)) q13.2) q18.2 (by omega)) q29.2.2 (by omega)) q30.2 (by intro x hx; simp only [List.mem_cons, List.not_mem_nil, or_false] at hx; omega)) q32.2 (by omega))⟩)⟩⟩
    · have l33 : 12 ≤ (gi (ar0 + 2) 0).toInt := t_lel (t_nlt h6) (by decide : (12:Int) ≤ (12:Int32).toInt)
      refine ev_loc f_X8_readRule (nx := 26) rfl rfl rfl rfl ?_
      refine ev_getR f_X8_readRule (nx := 29) (v := .ref (ar0 + 1)) rfl p_a0.1 rfl rfl e1 rfl rfl ?_
      refine ev_bp f_X8_readRule (nx := 31) (v := 6) rfl (by decide) rfl ?_
      refine ev_qI f_X8_readRule (nx := 34) (r := []) rfl rfl rfl rfl rfl rfl rfl (c_s_refuse hI ((ar0 + 1)) p1 (6) (Int.le_trans (by decide : (2:Int) ≤ 6) (by decide : (6:Int) ≤ (6:Int32).toInt)) (Int.le_trans (by decide : (6:Int32).toInt ≤ (6:Int)) (by decide : (6:Int) ≤ 7))) rfl hX rfl (fun w34 gi34 gl34 gr34 l34 u34 hI hX hC34 q34 => ?_)
      have q34 : (∀ (b : Nat → Int32) (n q : Nat), t_TC b n q gi gl gr (ar0 + 1) → t_FL gi34 (ar0 + 1) (s_fk b n q 6) (s_F b n q)) ∧ w34.toInt = 0 ∧ t_on (ar0 + 1) gi gl gr gi34 gl34 gr34 := q34
      replace p_a0 := p_a0.ext hC34.2
      replace p1 := p1.ext hC34.2
      replace p4 := p4.ext hC34.2
      exact ev_retZ f_X8_readRule rfl l34 (Int.le_trans u34 (by decide : (0:Int) ≤ 1)) ⟨_, _, _, rfl, hI, hX, ⟨_, rfl, l34, (Int.le_trans u34 (by decide : (0:Int) ≤ 1)), (show (∀ (b : Nat → Int32) (n q c r : Nat), t_US b n q c gi gl gr ar0 → (gi (ar0 + 2) 0).toInt = (r : Int) → r ≤ 12 → s_K b n q ≠ 0 → (w34.toInt = 1 ∧ ∃ q2 c2, (∀ m, s_rls b n (m + 1) q c r = s_rls b n m q2 c2 (r + 1)) ∧ q < q2 ∧ t_US b n q2 c2 gi34 gl34 gr34 ar0 ∧ (gi34 (ar0 + 2) 0).toInt = (r : Int) + 1) ∨ (w34.toInt = 0 ∧ ∃ p x, x ≠ 0 ∧ (∀ m, s_rls b n (m + 1) q c r = ((s_qb b n p x).1, 0)) ∧ t_FL gi34 (ar0 + 1) (s_fk b n p x) (s_F b n p))) ∧ t_lq ar0 gi gl gr gi34 gl34 gr34 from ⟨(by
                                                            intro b n q c r h hm hr12 hK
                                                            have h102 := p_a0.2.1
                                                            have hq := h.qn
                                                            exact Or.inr ⟨q34.2.1, q, 6, by decide, fun m => s_rls_m hK (h.1.kwT e2 h3) (by omega), q34.1 b n q h.1⟩), (t_lq.on t_lq.rf q34.2.2 (by omega))⟩)⟩⟩
  · refine ev_loc f_X8_readRule (nx := 36) rfl rfl rfl rfl ?_
    refine ev_getR f_X8_readRule (nx := 39) (v := .ref (ar0 + 1)) rfl p_a0.1 rfl rfl e1 rfl rfl ?_
    refine ev_heap f_X8_readRule (nx := 42) rfl rfl rfl rfl ?_
    refine ev_qI f_X8_readRule (nx := 45) (r := []) rfl rfl rfl rfl rfl rfl rfl (c_s_takeIf hI ((ar0 + 1)) p1) rfl hX rfl (fun w35 gi35 gl35 gr35 l35 u35 hI hX hC35 q35 => ?_)
    have q35 : (∀ (b : Nat → Int32) (n q : Nat), t_TC b n q gi gl gr (ar0 + 1) → (w35.toInt = 1 ∧ s_W b n q = some 13 ∧ t_TC b n (s_E b n q) gi35 gl35 gr35 (ar0 + 1) ∧ t_nf gi gi35 (ar0 + 1)) ∨ (w35.toInt = 0 ∧ s_W b n q ≠ some 13 ∧ t_FL gi35 (ar0 + 1) (s_fk b n q 2) (s_F b n q))) ∧ t_on (ar0 + 1) gi gl gr gi35 gl35 gr35 := q35
    replace p_a0 := p_a0.ext hC35.2
    replace p1 := p1.ext hC35.2
    refine ev_if f_X8_readRule (t1 := 69) (t2 := 48) rfl rfl rfl (fun h36 => ?_) (fun h36 => ?_)
    · have u37 : w35.toInt ≤ 0 := t_equ h36 (by decide : (0:Int32).toInt ≤ (0:Int))
      refine ev_ic f_X8_readRule (nx := 70) (v := 0) rfl (by decide) rfl ?_
      exact ev_ret f_X8_readRule rfl rfl rfl ⟨_, _, _, rfl, hI, hX, ⟨_, rfl, (by decide : (0:Int) ≤ (0:Int32).toInt), (Int.le_trans (by decide : (0:Int32).toInt ≤ (0:Int)) (by decide : (0:Int) ≤ 1)), (show (∀ (b : Nat → Int32) (n q c r : Nat), t_US b n q c gi gl gr ar0 → (gi (ar0 + 2) 0).toInt = (r : Int) → r ≤ 12 → s_K b n q ≠ 0 → ((0 : Int) = 1 ∧ ∃ q2 c2, (∀ m, s_rls b n (m + 1) q c r = s_rls b n m q2 c2 (r + 1)) ∧ q < q2 ∧ t_US b n q2 c2 gi35 gl35 gr35 ar0 ∧ (gi35 (ar0 + 2) 0).toInt = (r : Int) + 1) ∨ ((0 : Int) = 0 ∧ ∃ p x, x ≠ 0 ∧ (∀ m, s_rls b n (m + 1) q c r = ((s_qb b n p x).1, 0)) ∧ t_FL gi35 (ar0 + 1) (s_fk b n p x) (s_F b n p))) ∧ t_lq ar0 gi gl gr gi35 gl35 gr35 from ⟨(by
                                                            intro b n q c r h hm hr12 hK
                                                            have h102 := p_a0.2.1
                                                            have hq := h.qn
                                                            obtain ⟨_, hW, hf⟩ := (q35.1 b n _ h.1).resolve_left (fun hh => absurd hh.1 (by omega))
                                                            exact Or.inr ⟨rfl, q, 2, by decide, fun m => s_rls_i hK hW, hf⟩), (t_lq.on t_lq.rf q35.2 (by omega))⟩)⟩⟩
    · have r38 : w35.toInt ≠ 0 := fun e => h36 (Int32.toInt_inj.mp (e.trans (by decide : (0:Int) = (0 : Int32).toInt)))
      have l39 : 1 ≤ w35.toInt := t_nel h36 l35 rfl rfl
      refine ev_loc f_X8_readRule (nx := 49) rfl rfl rfl rfl ?_
      refine ev_ic f_X8_readRule (nx := 50) (v := 0) rfl (by decide) rfl ?_
      refine ev_qI f_X8_readRule (nx := 53) (r := []) rfl rfl rfl rfl rfl rfl rfl (c_u_readEither2 hI (ar0) p_a0 (0) (by decide : (0:Int) ≤ (0:Int32).toInt) (Int.le_trans (by decide : (0:Int32).toInt ≤ (0:Int)) (by decide : (0:Int) ≤ 6))) rfl hX rfl (fun w40 gi40 gl40 gr40 l40 u40 hI hX hC40 q40 => ?_)
      have q40 : (∀ (b : Nat → Int32) (n q c : Nat) (T : List Int), t_US b n q c gi35 gl35 gr35 ar0 → (T.length : Int) = 0 → s_pop T = T → (w40.toInt = 1 ∧ ∃ q2 c2, s_Cnd b n false q c T = s_Cnd b n true q2 c2 T ∧ q < q2 ∧ t_US b n q2 c2 gi40 gl40 gr40 ar0 ∧ ¬ s_jnd b n q2) ∨ (w40.toInt = 0 ∧ ∃ p x, x ≠ 0 ∧ s_Cnd b n false q c T = s_qb b n p x ∧ t_FL gi40 (ar0 + 1) (s_fk b n p x) (s_F b n p))) ∧ t_lq ar0 gi35 gl35 gr35 gi40 gl40 gr40 := q40
      replace p_a0 := p_a0.ext hC40.2
      replace p1 := p1.ext hC40.2
      refine ev_if f_X8_readRule (t1 := 69) (t2 := 56) rfl rfl rfl (fun h41 => ?_) (fun h41 => ?_)
      · have u42 : w40.toInt ≤ 0 := t_equ h41 (by decide : (0:Int32).toInt ≤ (0:Int))
        refine ev_ic f_X8_readRule (nx := 70) (v := 0) rfl (by decide) rfl ?_
        exact ev_ret f_X8_readRule rfl rfl rfl ⟨_, _, _, rfl, hI, hX, ⟨_, rfl, (by decide : (0:Int) ≤ (0:Int32).toInt), (Int.le_trans (by decide : (0:Int32).toInt ≤ (0:Int)) (by decide : (0:Int) ≤ 1)), (show (∀ (b : Nat → Int32) (n q c r : Nat), t_US b n q c gi gl gr ar0 → (gi (ar0 + 2) 0).toInt = (r : Int) → r ≤ 12 → s_K b n q ≠ 0 → ((0 : Int) = 1 ∧ ∃ q2 c2, (∀ m, s_rls b n (m + 1) q c r = s_rls b n m q2 c2 (r + 1)) ∧ q < q2 ∧ t_US b n q2 c2 gi40 gl40 gr40 ar0 ∧ (gi40 (ar0 + 2) 0).toInt = (r : Int) + 1) ∨ ((0 : Int) = 0 ∧ ∃ p x, x ≠ 0 ∧ (∀ m, s_rls b n (m + 1) q c r = ((s_qb b n p x).1, 0)) ∧ t_FL gi40 (ar0 + 1) (s_fk b n p x) (s_F b n p))) ∧ t_lq ar0 gi gl gr gi40 gl40 gr40 from ⟨(by
                                                            intro b n q c r h hm hr12 hK
                                                            have h102 := p_a0.2.1
                                                            have hq := h.qn
                                                            obtain ⟨_, hW, ht1, hf1⟩ := (q35.1 b n _ h.1).resolve_right (fun hh => absurd hh.1 (by omega))
                                                            exact absurd hW (h.1.kwF e2 h3)), (t_lq.tr (t_lq.on t_lq.rf q35.2 (by omega)) q40.2)⟩)⟩⟩
      · have r43 : w40.toInt ≠ 0 := fun e => h41 (Int32.toInt_inj.mp (e.trans (by decide : (0:Int) = (0 : Int32).toInt)))
        have l44 : 1 ≤ w40.toInt := t_nel h41 l40 rfl rfl
        refine ev_loc f_X8_readRule (nx := 57) rfl rfl rfl rfl ?_
        refine ev_getR f_X8_readRule (nx := 60) (v := .ref (ar0 + 1)) rfl p_a0.1 rfl rfl ((hC40.1 ar0 0 (t_ninO hI.wf p_a0.1 (t_outO hI.wf p_a0.1 rfl) rfl)).2.2.trans ((hC35.1 ar0 0 (t_ninO hI.wf p_a0.1 (t_outO hI.wf p_a0.1 rfl) rfl)).2.2.trans e1)) rfl rfl ?_
        refine ev_heap f_X8_readRule (nx := 63) rfl rfl rfl rfl ?_
        refine ev_qI f_X8_readRule (nx := 66) (r := []) rfl rfl rfl rfl rfl rfl rfl (c_s_takeDo hI ((ar0 + 1)) p1) rfl hX rfl (fun w45 gi45 gl45 gr45 l45 u45 hI hX hC45 q45 => ?_)
        have q45 : (∀ (b : Nat → Int32) (n q : Nat), t_TC b n q gi40 gl40 gr40 (ar0 + 1) → (w45.toInt = 1 ∧ s_W b n q = some 14 ∧ t_TC b n (s_E b n q) gi45 gl45 gr45 (ar0 + 1) ∧ t_nf gi40 gi45 (ar0 + 1)) ∨ (w45.toInt = 0 ∧ s_W b n q ≠ some 14 ∧ t_FL gi45 (ar0 + 1) (s_fk b n q 2) (s_F b n q))) ∧ t_on (ar0 + 1) gi40 gl40 gr40 gi45 gl45 gr45 := q45
        replace p_a0 := p_a0.ext hC45.2
        replace p1 := p1.ext hC45.2
        refine ev_if f_X8_readRule (t1 := 69) (t2 := 71) rfl rfl rfl (fun h46 => ?_) (fun h46 => ?_)
        · have u47 : w45.toInt ≤ 0 := t_equ h46 (by decide : (0:Int32).toInt ≤ (0:Int))
          refine ev_ic f_X8_readRule (nx := 70) (v := 0) rfl (by decide) rfl ?_
          exact ev_ret f_X8_readRule rfl rfl rfl ⟨_, _, _, rfl, hI, hX, ⟨_, rfl, (by decide : (0:Int) ≤ (0:Int32).toInt), (Int.le_trans (by decide : (0:Int32).toInt ≤ (0:Int)) (by decide : (0:Int) ≤ 1)), (show (∀ (b : Nat → Int32) (n q c r : Nat), t_US b n q c gi gl gr ar0 → (gi (ar0 + 2) 0).toInt = (r : Int) → r ≤ 12 → s_K b n q ≠ 0 → ((0 : Int) = 1 ∧ ∃ q2 c2, (∀ m, s_rls b n (m + 1) q c r = s_rls b n m q2 c2 (r + 1)) ∧ q < q2 ∧ t_US b n q2 c2 gi45 gl45 gr45 ar0 ∧ (gi45 (ar0 + 2) 0).toInt = (r : Int) + 1) ∨ ((0 : Int) = 0 ∧ ∃ p x, x ≠ 0 ∧ (∀ m, s_rls b n (m + 1) q c r = ((s_qb b n p x).1, 0)) ∧ t_FL gi45 (ar0 + 1) (s_fk b n p x) (s_F b n p))) ∧ t_lq ar0 gi gl gr gi45 gl45 gr45 from ⟨(by
                                                            intro b n q c r h hm hr12 hK
                                                            have h102 := p_a0.2.1
                                                            have hq := h.qn
                                                            obtain ⟨_, hW, ht1, hf1⟩ := (q35.1 b n _ h.1).resolve_right (fun hh => absurd hh.1 (by omega))
                                                            exact absurd hW (h.1.kwF e2 h3)), (t_lq.on (t_lq.tr (t_lq.on t_lq.rf q35.2 (by omega)) q40.2) q45.2 (by omega))⟩)⟩⟩
        · have r48 : w45.toInt ≠ 0 := fun e => h46 (Int32.toInt_inj.mp (e.trans (by decide : (0:Int) = (0 : Int32).toInt)))
          have l49 : 1 ≤ w45.toInt := t_nel h46 l45 rfl rfl
          refine ev_loc f_X8_readRule (nx := 72) rfl rfl rfl rfl ?_
          refine ev_qI0 f_X8_readRule (nx := 75) (r := []) rfl rfl rfl rfl rfl rfl rfl (c_u_actTold hI (ar0) p_a0) rfl (fun w50 l50 u50 q50 => ?_)
          have q50 : ∀ (b : Nat → Int32) (n q : Nat), t_TC b n q gi45 gl45 gr45 (ar0 + 1) → (w50.toInt ≠ -1 ↔ (s_W b n q = some 15 ∨ s_W b n q = some 16 ∨ s_W b n q = some 17)) := q50
          refine ev_loc f_X8_readRule (nx := 76) (lo' := [(1, .int w50), (0, .ref ar0)]) rfl rfl rfl rfl ?_
          refine ev_loc f_X8_readRule (nx := 77) rfl rfl rfl rfl ?_
          refine ev_ic f_X8_readRule (nx := 78) (v := -1) rfl (by decide) rfl ?_
          refine ev_if f_X8_readRule (t1 := 81) (t2 := 90) rfl rfl rfl (fun h51 => ?_) (fun h51 => ?_)
          · have u52 : w50.toInt ≤ (-1) := t_equ h51 (by decide : ((-1):Int32).toInt ≤ ((-1):Int))
            refine ev_loc f_X8_readRule (nx := 82) rfl rfl rfl rfl ?_
            refine ev_getR f_X8_readRule (nx := 85) (v := .ref (ar0 + 1)) rfl p_a0.1 rfl rfl ((hC45.1 ar0 0 (t_ninO hI.wf p_a0.1 (t_outO hI.wf p_a0.1 rfl) rfl)).2.2.trans ((hC40.1 ar0 0 (t_ninO hI.wf p_a0.1 (t_outO hI.wf p_a0.1 rfl) rfl)).2.2.trans ((hC35.1 ar0 0 (t_ninO hI.wf p_a0.1 (t_outO hI.wf p_a0.1 rfl) rfl)).2.2.trans e1))) rfl rfl ?_
            refine ev_ic f_X8_readRule (nx := 86) (v := 2) rfl (by decide) rfl ?_
            refine ev_qI f_X8_readRule (nx := 89) (r := []) rfl rfl rfl rfl rfl rfl rfl (c_s_refuse hI ((ar0 + 1)) p1 (2) (by decide : (2:Int) ≤ (2:Int32).toInt) (Int.le_trans (by decide : (2:Int32).toInt ≤ (2:Int)) (by decide : (2:Int) ≤ 7))) rfl hX rfl (fun w53 gi53 gl53 gr53 l53 u53 hI hX hC53 q53 => ?_)
            have q53 : (∀ (b : Nat → Int32) (n q : Nat), t_TC b n q gi45 gl45 gr45 (ar0 + 1) → t_FL gi53 (ar0 + 1) (s_fk b n q 2) (s_F b n q)) ∧ w53.toInt = 0 ∧ t_on (ar0 + 1) gi45 gl45 gr45 gi53 gl53 gr53 := q53
            replace p_a0 := p_a0.ext hC53.2
            replace p1 := p1.ext hC53.2
            exact ev_retZ f_X8_readRule rfl l53 (Int.le_trans u53 (by decide : (0:Int) ≤ 1)) ⟨_, _, _, rfl, hI, hX, ⟨_, rfl, l53, (Int.le_trans u53 (by decide : (0:Int) ≤ 1)), (show (∀ (b : Nat → Int32) (n q c r : Nat), t_US b n q c gi gl gr ar0 → (gi (ar0 + 2) 0).toInt = (r : Int) → r ≤ 12 → s_K b n q ≠ 0 → (w53.toInt = 1 ∧ ∃ q2 c2, (∀ m, s_rls b n (m + 1) q c r = s_rls b n m q2 c2 (r + 1)) ∧ q < q2 ∧ t_US b n q2 c2 gi53 gl53 gr53 ar0 ∧ (gi53 (ar0 + 2) 0).toInt = (r : Int) + 1) ∨ (w53.toInt = 0 ∧ ∃ p x, x ≠ 0 ∧ (∀ m, s_rls b n (m + 1) q c r = ((s_qb b n p x).1, 0)) ∧ t_FL gi53 (ar0 + 1) (s_fk b n p x) (s_F b n p))) ∧ t_lq ar0 gi gl gr gi53 gl53 gr53 from ⟨(by
                                                            intro b n q c r h hm hr12 hK
                                                            have h102 := p_a0.2.1
                                                            have hq := h.qn
                                                            obtain ⟨_, hW, ht1, hf1⟩ := (q35.1 b n _ h.1).resolve_right (fun hh => absurd hh.1 (by omega))
                                                            exact absurd hW (h.1.kwF e2 h3)), (t_lq.on (t_lq.on (t_lq.tr (t_lq.on t_lq.rf q35.2 (by omega)) q40.2) q45.2 (by omega)) q53.2.2 (by omega))⟩)⟩⟩
          · have r54 : w50.toInt ≠ (-1) := fun e => h51 (Int32.toInt_inj.mp (e.trans (by decide : ((-1):Int) = ((-1) : Int32).toInt)))
            have l55 : 0 ≤ w50.toInt := t_nel h51 l50 rfl rfl
            refine ev_loc f_X8_readRule (nx := 91) rfl rfl rfl rfl ?_
            refine ev_getR f_X8_readRule (nx := 94) (v := .ref (ar0 + 1)) rfl p_a0.1 rfl rfl ((hC45.1 ar0 0 (t_ninO hI.wf p_a0.1 (t_outO hI.wf p_a0.1 rfl) rfl)).2.2.trans ((hC40.1 ar0 0 (t_ninO hI.wf p_a0.1 (t_outO hI.wf p_a0.1 rfl) rfl)).2.2.trans ((hC35.1 ar0 0 (t_ninO hI.wf p_a0.1 (t_outO hI.wf p_a0.1 rfl) rfl)).2.2.trans e1))) rfl rfl ?_
            refine ev_qN f_X8_readRule (nx := 97) (r := []) rfl rfl rfl rfl rfl rfl rfl (c_s_step hI ((ar0 + 1)) p1) rfl hX rfl (fun gi56 gl56 gr56 hI hX hC56 q56 => ?_)
            have q56 : (∀ (b : Nat → Int32) (n q : Nat), t_Sp b n q gi45 (ar0 + 1) → t_TC b n q gi56 gl56 gr56 (ar0 + 1)) ∧ t_nf gi45 gi56 (ar0 + 1) ∧ t_on (ar0 + 1) gi45 gl45 gr45 gi56 gl56 gr56 := q56
            replace p_a0 := p_a0.ext hC56.2
            replace p1 := p1.ext hC56.2
            refine ev_loc f_X8_readRule (nx := 98) rfl rfl rfl rfl ?_
            have e57 := p_a0.2.2.2.1
            have p57 := p_a0.2.2.2.2
            refine ev_getR f_X8_readRule (nx := 101) rfl p_a0.1 rfl rfl e57 rfl rfl ?_
            refine ev_loc f_X8_readRule (nx := 102) rfl rfl rfl rfl ?_
            refine ev_qN f_X8_readRule (nx := 105) (r := []) rfl rfl rfl rfl rfl rfl rfl (c_u_endRule hI ((ar0 + 2)) p57 (w50)) rfl hX rfl (fun gi58 gl58 gr58 hI hX hC58 q58 => ?_)
            have q58 : ((gi56 (ar0 + 2) 0).toInt < 12 → (gi58 (ar0 + 2) 0).toInt = (gi56 (ar0 + 2) 0).toInt + 1) ∧ t_xc [(ar0 + 2), (ar0 + 2) + 1, (ar0 + 2) + 2] gi56 gl56 gr56 gi58 gl58 gr58 := q58
            replace p_a0 := p_a0.ext hC58.2
            replace p1 := p1.ext hC58.2
            replace p57 := p57.ext hC58.2
            refine ev_loc f_X8_readRule (nx := 106) rfl rfl rfl rfl ?_
            refine ev_getR f_X8_readRule (nx := 109) (v := .ref (ar0 + 1)) rfl p_a0.1 rfl rfl ((hC58.1 ar0 0 (t_ninO hI.wf p_a0.1 (t_outO hI.wf p_a0.1 rfl) rfl)).2.2.trans ((hC56.1 ar0 0 (t_ninO hI.wf p_a0.1 (t_outO hI.wf p_a0.1 rfl) rfl)).2.2.trans ((hC45.1 ar0 0 (t_ninO hI.wf p_a0.1 (t_outO hI.wf p_a0.1 rfl) rfl)).2.2.trans ((hC40.1 ar0 0 (t_ninO hI.wf p_a0.1 (t_outO hI.wf p_a0.1 rfl) rfl)).2.2.trans ((hC35.1 ar0 0 (t_ninO hI.wf p_a0.1 (t_outO hI.wf p_a0.1 rfl) rfl)).2.2.trans e1))))) rfl rfl ?_
            refine ev_bp f_X8_readRule (nx := 111) (v := 59) rfl (by decide) rfl ?_
            refine ev_qI f_X8_readRule (nx := 114) (r := []) rfl rfl rfl rfl rfl rfl rfl (c_s_takeSign hI ((ar0 + 1)) p1 (59)) rfl hX rfl (fun w59 gi59 gl59 gr59 l59 u59 hI hX hC59 q59 => ?_)
            have q59 : (∀ (b : Nat → Int32) (n q : Nat), t_TC b n q gi58 gl58 gr58 (ar0 + 1) → (w59.toInt = 1 ∧ s_isS b n q 59 ∧ t_TC b n (s_E b n q) gi59 gl59 gr59 (ar0 + 1) ∧ t_nf gi58 gi59 (ar0 + 1)) ∨ (w59.toInt = 0 ∧ ¬ s_isS b n q 59 ∧ t_FL gi59 (ar0 + 1) (s_fk b n q 2) (s_F b n q))) ∧ t_on (ar0 + 1) gi58 gl58 gr58 gi59 gl59 gr59 := q59
            replace p_a0 := p_a0.ext hC59.2
            replace p1 := p1.ext hC59.2
            replace p57 := p57.ext hC59.2
            exact ev_retZ f_X8_readRule rfl l59 u59 ⟨_, _, _, rfl, hI, hX, ⟨_, rfl, l59, u59, (show (∀ (b : Nat → Int32) (n q c r : Nat), t_US b n q c gi gl gr ar0 → (gi (ar0 + 2) 0).toInt = (r : Int) → r ≤ 12 → s_K b n q ≠ 0 → (w59.toInt = 1 ∧ ∃ q2 c2, (∀ m, s_rls b n (m + 1) q c r = s_rls b n m q2 c2 (r + 1)) ∧ q < q2 ∧ t_US b n q2 c2 gi59 gl59 gr59 ar0 ∧ (gi59 (ar0 + 2) 0).toInt = (r : Int) + 1) ∨ (w59.toInt = 0 ∧ ∃ p x, x ≠ 0 ∧ (∀ m, s_rls b n (m + 1) q c r = ((s_qb b n p x).1, 0)) ∧ t_FL gi59 (ar0 + 1) (s_fk b n p x) (s_F b n p))) ∧ t_lq ar0 gi gl gr gi59 gl59 gr59 from ⟨(by
                                                            intro b n q c r h hm hr12 hK
                                                            have h102 := p_a0.2.1
                                                            have hq := h.qn
                                                            obtain ⟨_, hW, ht1, hf1⟩ := (q35.1 b n _ h.1).resolve_right (fun hh => absurd hh.1 (by omega))
                                                            exact absurd hW (h.1.kwF e2 h3)), (t_lq.on (t_lq.ex (t_lq.on (t_lq.on (t_lq.tr (t_lq.on t_lq.rf q35.2 (by omega)) q40.2) q45.2 (by omega)) q56.2.2 (by omega)) q58.2 (by intro x hx; simp only [List.mem_cons, List.not_mem_nil, or_false] at hx; omega)) q59.2 (by omega))⟩)⟩⟩
noncomputable def wl_u_rulesAll : List (Nat × Nat) := [(116, 0), (116, 3), (117, 2), (118, 2), (118, 3), (118, 4), (118, 5), (118, 6), (118, 7), (118, 8), (118, 9), (118, 10), (118, 11), (130, 9999)]
noncomputable def Q_u_rulesAll (gi : Nat → Nat → Int32) (gl : Nat → Nat → Int64) (gr : Nat → Nat → Value) (ar0 : Nat) : Int32 → (Nat → Nat → Int32) → (Nat → Nat → Int64) → (Nat → Nat → Value) → Prop := fun (v : Int32) (gi2 : Nat → Nat → Int32) (gl2 : Nat → Nat → Int64) (gr2 : Nat → Nat → Value) => (∀ (b : Nat → Int32) (n q c : Nat), t_US b n q c gi gl gr ar0 → (gi (ar0 + 2) 0).toInt = 0 → (v.toInt = 1 ∧ ∃ r : Nat, s_rls b n 301 q c 0 = ((0, 0), r) ∧ (gi2 (ar0 + 2) 0).toInt = (r : Int) ∧ t_FL gi2 (ar0 + 1) 0 (-1)) ∨ (v.toInt = 0 ∧ ∃ p x, x ≠ 0 ∧ s_rls b n 301 q c 0 = ((s_qb b n p x).1, 0) ∧ t_FL gi2 (ar0 + 1) (s_fk b n p x) (s_F b n p))) ∧ t_lq ar0 gi gl gr gi2 gl2 gr2
theorem c_u_rulesAll {X : x_Ext} {d : Nat} {sh : List (Nat ⊕ (Nat × Nat))} {gi : Nat → Nat → Int32} {gl : Nat → Nat → Int64} {gr : Nat → Nat → Value} (hI : t_I sh gi gr) (ar0 : Nat) (p_a0 : t_UQ sh gr ar0) : x_Me X (d + 65) n_X8_readAll [.ref ar0] (sh, gi, gl, gr) (t_PI wl_u_rulesAll sh gi gl gr 0 1 (Q_u_rulesAll gi gl gr ar0)) := by
  have hX : t_X wl_u_rulesAll sh gi gl gr gi gl gr := t_X.rf
  refine me_i f_X8_readAll p_a0.1 rfl rfl rfl ?_
  refine ev_ic f_X8_readAll (nx := 1) (v := 0) rfl (by decide) rfl ?_
  refine ev_loc f_X8_readAll (nx := 2) (lo' := [(1, .int 0), (0, .ref ar0)]) rfl rfl rfl rfl ?_
  have L1 : ∀ (m1 : Nat) (gi1 : Nat → Nat → Int32) (gl1 : Nat → Nat → Int64) (gr1 : Nat → Nat → Value) (y1_1 : Int32), t_I sh gi1 gr1 → t_X wl_u_rulesAll sh gi gl gr gi1 gl1 gr1 → t_UQ sh gr1 ar0 → 0 ≤ y1_1.toInt → y1_1.toInt ≤ 13 → (∀ (b : Nat → Int32) (n q c : Nat), t_US b n q c gi gl gr ar0 → (gi (ar0 + 2) 0).toInt = 0 → ∃ q2 c2, s_rls b n 301 q c 0 = s_rls b n (301 - y1_1.toNatClampNeg) q2 c2 y1_1.toNatClampNeg ∧ (gi1 (ar0 + 2) 0).toInt = y1_1.toInt ∧ t_US b n q2 c2 gi1 gl1 gr1 ar0) ∧ t_lq ar0 gi gl gr gi1 gl1 gr1 → (13 - y1_1.toInt).toNat = m1 → x_Ev X (d + 65) n_X8_readAll 2 [(1, .int y1_1), (0, .ref ar0)] [] (sh, gi1, gl1, gr1) (t_PI wl_u_rulesAll sh gi gl gr 0 1 (Q_u_rulesAll gi gl gr ar0)) := by
    intro m1
    induction m1 using Nat.strongRecOn with
    | _ m1 ih1 =>
    intro gi1 gl1 gr1 y1_1 hI hX p_a0 l1_1 u1_1 j1_0 hm1
    refine ev_loc f_X8_readAll (nx := 3) rfl rfl rfl rfl ?_
    refine ev_bp f_X8_readAll (nx := 5) (v := 12) rfl (by decide) rfl ?_
    refine ev_if f_X8_readAll (t1 := 34) (t2 := 8) rfl rfl rfl (fun h2 => ?_) (fun h2 => ?_)
    · have l3 : 13 ≤ y1_1.toInt := t_ltl h2 (by decide : (12:Int) ≤ (12:Int32).toInt) rfl
      refine ev_ic f_X8_readAll (nx := 35) (v := 1) rfl (by decide) rfl ?_
      exact ev_ret f_X8_readAll rfl rfl rfl ⟨_, _, _, rfl, hI, hX, ⟨_, rfl, (Int.le_trans (by decide : (0:Int) ≤ 1) (by decide : (1:Int) ≤ (1:Int32).toInt)), (by decide : (1:Int32).toInt ≤ (1:Int)), (show (∀ (b : Nat → Int32) (n q c : Nat), t_US b n q c gi gl gr ar0 → (gi (ar0 + 2) 0).toInt = 0 → ((1 : Int) = 1 ∧ ∃ r : Nat, s_rls b n 301 q c 0 = ((0, 0), r) ∧ (gi1 (ar0 + 2) 0).toInt = (r : Int) ∧ t_FL gi1 (ar0 + 1) 0 (-1)) ∨ ((1 : Int) = 0 ∧ ∃ p x, x ≠ 0 ∧ s_rls b n 301 q c 0 = ((s_qb b n p x).1, 0) ∧ t_FL gi1 (ar0 + 1) (s_fk b n p x) (s_F b n p))) ∧ t_lq ar0 gi gl gr gi1 gl1 gr1 from ⟨fun b n q c h hm => (by
                                                            obtain ⟨q2, c2, hs, hm2, h2⟩ := j1_0.1 b n q c h hm
                                                            have k1 := t_clamp (i := y1_1) (by omega)
                                                            have hb := hI.b (k := ar0 + 2) p_a0.2.2.2.2.1 (t_bdK rfl : t_bd 6 0 = some (0, 12))
                                                            exact absurd hb.2 (by omega)), j1_0.2⟩)⟩⟩
    · have u4 : y1_1.toInt ≤ 12 := t_leu (t_nlt h2) (by decide : (12:Int32).toInt ≤ (12:Int))
      refine ev_loc f_X8_readAll (nx := 9) rfl rfl rfl rfl ?_
      have e5 := p_a0.2.2.1.1
      have p5 := p_a0.2.2.1.2
      refine ev_getR f_X8_readAll (nx := 12) rfl p_a0.1 rfl rfl e5 rfl rfl ?_
      refine ev_getI f_X8_readAll (nx := 15) rfl p5.1 rfl rfl rfl ?_
      refine ev_ic f_X8_readAll (nx := 16) (v := 3) rfl (by decide) rfl ?_
      refine ev_if f_X8_readAll (t1 := 34) (t2 := 19) rfl rfl rfl (fun h6 => ?_) (fun h6 => ?_)
      · have u7 : (gi1 (ar0 + 1) 3).toInt ≤ 3 := t_equ h6 (by decide : (3:Int32).toInt ≤ (3:Int))
        have l8 : 3 ≤ (gi1 (ar0 + 1) 3).toInt := t_eql h6 (by decide : (3:Int) ≤ (3:Int32).toInt)
        refine ev_ic f_X8_readAll (nx := 35) (v := 1) rfl (by decide) rfl ?_
        exact ev_ret f_X8_readAll rfl rfl rfl ⟨_, _, _, rfl, hI, hX, ⟨_, rfl, (Int.le_trans (by decide : (0:Int) ≤ 1) (by decide : (1:Int) ≤ (1:Int32).toInt)), (by decide : (1:Int32).toInt ≤ (1:Int)), (show (∀ (b : Nat → Int32) (n q c : Nat), t_US b n q c gi gl gr ar0 → (gi (ar0 + 2) 0).toInt = 0 → ((1 : Int) = 1 ∧ ∃ r : Nat, s_rls b n 301 q c 0 = ((0, 0), r) ∧ (gi1 (ar0 + 2) 0).toInt = (r : Int) ∧ t_FL gi1 (ar0 + 1) 0 (-1)) ∨ ((1 : Int) = 0 ∧ ∃ p x, x ≠ 0 ∧ s_rls b n 301 q c 0 = ((s_qb b n p x).1, 0) ∧ t_FL gi1 (ar0 + 1) (s_fk b n p x) (s_F b n p))) ∧ t_lq ar0 gi gl gr gi1 gl1 gr1 from ⟨fun b n q c h hm => (by
                                                            obtain ⟨q2, c2, hs, hm2, h2⟩ := j1_0.1 b n q c h hm
                                                            have k1 := t_clamp (i := y1_1) (by omega)
                                                            have hb := hI.b (k := ar0 + 2) p_a0.2.2.2.2.1 (t_bdK rfl : t_bd 6 0 = some (0, 12))
                                                            rw [show 301 - y1_1.toNatClampNeg = (300 - y1_1.toNatClampNeg) + 1 from (by omega)] at hs
                                                            have hK : s_K b n q2 = 0 := by have := h2.1.K; omega
                                                            exact Or.inl ⟨rfl, y1_1.toNatClampNeg, hs.trans (s_rls_e hK), by omega, h2.2.2⟩), j1_0.2⟩)⟩⟩
      · have r9 : (gi1 (ar0 + 1) 3).toInt ≠ 3 := fun e => h6 (Int32.toInt_inj.mp (e.trans (by decide : (3:Int) = (3 : Int32).toInt)))
        refine ev_loc f_X8_readAll (nx := 20) rfl rfl rfl rfl ?_
        refine ev_qI f_X8_readAll (nx := 23) (r := []) rfl rfl rfl rfl rfl rfl rfl (c_u_readRule hI (ar0) p_a0) rfl hX rfl (fun w10 gi10 gl10 gr10 l10 u10 hI hX hC10 q10 => ?_)
        have q10 : (∀ (b : Nat → Int32) (n q c r : Nat), t_US b n q c gi1 gl1 gr1 ar0 → (gi1 (ar0 + 2) 0).toInt = (r : Int) → r ≤ 12 → s_K b n q ≠ 0 → (w10.toInt = 1 ∧ ∃ q2 c2, (∀ m, s_rls b n (m + 1) q c r = s_rls b n m q2 c2 (r + 1)) ∧ q < q2 ∧ t_US b n q2 c2 gi10 gl10 gr10 ar0 ∧ (gi10 (ar0 + 2) 0).toInt = (r : Int) + 1) ∨ (w10.toInt = 0 ∧ ∃ p x, x ≠ 0 ∧ (∀ m, s_rls b n (m + 1) q c r = ((s_qb b n p x).1, 0)) ∧ t_FL gi10 (ar0 + 1) (s_fk b n p x) (s_F b n p))) ∧ t_lq ar0 gi1 gl1 gr1 gi10 gl10 gr10 := q10
        replace p_a0 := p_a0.ext hC10.2
        replace p5 := p5.ext hC10.2
        refine ev_if f_X8_readAll (t1 := 26) (t2 := 28) rfl rfl rfl (fun h11 => ?_) (fun h11 => ?_)
        · have u12 : w10.toInt ≤ 0 := t_equ h11 (by decide : (0:Int32).toInt ≤ (0:Int))
          refine ev_ic f_X8_readAll (nx := 27) (v := 0) rfl (by decide) rfl ?_
          exact ev_ret f_X8_readAll rfl rfl rfl ⟨_, _, _, rfl, hI, hX, ⟨_, rfl, (by decide : (0:Int) ≤ (0:Int32).toInt), (Int.le_trans (by decide : (0:Int32).toInt ≤ (0:Int)) (by decide : (0:Int) ≤ 1)), (show (∀ (b : Nat → Int32) (n q c : Nat), t_US b n q c gi gl gr ar0 → (gi (ar0 + 2) 0).toInt = 0 → ((0 : Int) = 1 ∧ ∃ r : Nat, s_rls b n 301 q c 0 = ((0, 0), r) ∧ (gi10 (ar0 + 2) 0).toInt = (r : Int) ∧ t_FL gi10 (ar0 + 1) 0 (-1)) ∨ ((0 : Int) = 0 ∧ ∃ p x, x ≠ 0 ∧ s_rls b n 301 q c 0 = ((s_qb b n p x).1, 0) ∧ t_FL gi10 (ar0 + 1) (s_fk b n p x) (s_F b n p))) ∧ t_lq ar0 gi gl gr gi10 gl10 gr10 from ⟨fun b n q c h hm => (by
                                                            obtain ⟨q2, c2, hs, hm2, h2⟩ := j1_0.1 b n q c h hm
                                                            have k1 := t_clamp (i := y1_1) (by omega)
                                                            skip
                                                            have hlt : y1_1.toNatClampNeg ≤ 12 := by omega
                                                            rw [show 301 - y1_1.toNatClampNeg = (300 - y1_1.toNatClampNeg) + 1 from (by omega)] at hs
                                                            have hK : s_K b n q2 ≠ 0 := by have := h2.1.K; omega
                                                            obtain ⟨_, p, x, hx, hX, hf⟩ := (q10.1 b n q2 c2 y1_1.toNatClampNeg h2 (by omega) (by omega) hK).resolve_left (fun hh => absurd hh.1 (by omega))
                                                            exact Or.inr ⟨rfl, p, x, hx, hs.trans (hX _), hf⟩), (t_lq.tr j1_0.2 q10.2)⟩)⟩⟩
        · have r13 : w10.toInt ≠ 0 := fun e => h11 (Int32.toInt_inj.mp (e.trans (by decide : (0:Int) = (0 : Int32).toInt)))
          have l14 : 1 ≤ w10.toInt := t_nel h11 l10 rfl rfl
          refine ev_incR f_X8_readAll (nx := 31) (c := 1) (l := 1) (u := 13) rfl rfl (by decide) (by decide) l1_1 u4 rfl rfl (by decide) (by decide) rfl (fun z15 e15 l15 u15 => ?_)
          refine ev_jmp f_X8_readAll (nx := 2) rfl rfl rfl ?_
          refine ev_sub (lo := [(1, .int z15), (0, .ref ar0)]) rfl (t_sc rfl (t_sc rfl t_sn)) ?_
          exact ih1 _ (by omega) gi10 gl10 gr10 (z15) hI hX p_a0 (Int.le_trans (by decide : (0:Int) ≤ 1) l15) u15 ⟨fun b n q c h hm => (by
                                                            obtain ⟨q2, c2, hs, hm2, h2⟩ := j1_0.1 b n q c h hm
                                                            have k1 := t_clamp (i := y1_1) (by omega)
                                                            have k2 := t_clamp (i := z15) (by omega)
                                                            have hK : s_K b n q2 ≠ 0 := by have := h2.1.K; omega
                                                            obtain ⟨_, q3, c3, hX, hlt, h3, hm3⟩ := (q10.1 b n q2 c2 y1_1.toNatClampNeg h2 (by omega) (by omega) hK).resolve_right (fun hh => absurd hh.1 (by omega))
                                                            refine ⟨q3, c3, hs.trans ?_, by omega, h3⟩
                                                            rw [show 301 - y1_1.toNatClampNeg = (301 - z15.toNatClampNeg) + 1 by omega, show z15.toNatClampNeg = y1_1.toNatClampNeg + 1 by omega]
                                                            have hX := hX (301 - (y1_1.toNatClampNeg + 1))
                                                            exact hX), (t_lq.tr j1_0.2 q10.2)⟩ rfl
  refine ev_sub (lo := [(1, .int 0), (0, .ref ar0)]) rfl (t_sc rfl (t_sc rfl t_sn)) ?_
  exact L1 _ gi gl gr (0) hI hX p_a0 (by decide : (0:Int) ≤ (0:Int32).toInt) (Int.le_trans (by decide : (0:Int32).toInt ≤ (0:Int)) (by decide : (0:Int) ≤ 13)) ⟨fun b n q c h hm => ⟨q, c, rfl, by rw [hm]; rfl, h⟩, t_lq.rf⟩ rfl
