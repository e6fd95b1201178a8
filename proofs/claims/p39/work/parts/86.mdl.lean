/-! ===== printed by mdl3.py: contracts of the model ===== -/
/-- slot a copied to slot b, so far -/
noncomputable def t_cpy (g0 : Nat → Int32) (a b n : Nat) : Nat → Int32 := fun j => if 350 * b ≤ j ∧ j < 350 * b + n then g0 (j - 350 * b + 350 * a) else g0 j
theorem t_cpy0 (g0 : Nat → Int32) (a b j : Nat) : t_cpy g0 a b 0 j = g0 j := if_neg (by omega)
theorem t_cpyS {g0 : Nat → Int32} {g g' : Nat → Nat → Int32} {a b : Nat} {z z' i i2 w : Int32} (h : ∀ j, g 70 j = t_cpy g0 a b z.toInt.toNat j) (ew : w = g 70 i2.toNatClampNeg) (e : g' = x_up2 g 70 i.toNatClampNeg w) (hi : i.toNatClampNeg = 350 * b + z.toInt.toNat) (h2 : i2.toNatClampNeg = 350 * a + z.toInt.toNat) (hz : z'.toInt = z.toInt + 1) (h0 : 0 ≤ z.toInt) (hn : z.toInt < 350) (hab : a ≠ b) (ha : a < 5) : ∀ j, g' 70 j = t_cpy g0 a b z'.toInt.toNat j := by
  intro j
  have hz' : z'.toInt.toNat = z.toInt.toNat + 1 := by omega
  rw [hz']
  rcases t_stc e j with ⟨h3, h4⟩ | ⟨h3, h4⟩
  · rw [h4, ew, h, h2]
    unfold t_cpy
    rw [if_neg (by omega), if_pos (by omega)]
    congr 1
    omega
  · rw [h4, h]
    unfold t_cpy
    by_cases hc : 350 * b ≤ j ∧ j < 350 * b + z.toInt.toNat
    · rw [if_pos hc, if_pos (by omega)]
    · rw [if_neg hc, if_neg (by omega)]
noncomputable def wl_m_river : List (Nat × Nat) := [(69, 2), (69, 10), (69, 11), (69, 12), (69, 13), (69, 14), (69, 15), (69, 16), (69, 17), (69, 18), (69, 19), (69, 20), (70, 10349), (70, 140011400), (70, 140011749), (70, 140111401), (70, 140211402), (70, 140411404), (70, 140511405), (70, 140611406), (70, 140711407), (70, 141011452), (70, 141111458), (70, 145211482), (70, 145311483), (70, 145411484), (70, 145511485), (70, 145611486), (70, 148211500), (70, 148311501), (70, 148411502), (71, 10017), (71, 7210089), (76, 9999)]
noncomputable def Q_m_river (gi : Nat → Nat → Int32) (gl : Nat → Nat → Int64) (gr : Nat → Nat → Value) (J0 : Nat) (ar1 : Int32) : Int32 → (Nat → Nat → Int32) → (Nat → Nat → Int64) → (Nat → Nat → Value) → Prop := fun (v : Int32) (gi2 : Nat → Nat → Int32) (gl2 : Nat → Nat → Int64) (gr2 : Nat → Nat → Value) => ((0 ≤ ar1.toInt ∧ ar1.toInt ≤ (gi 69 10).toInt) → (gi2 69 10).toInt = 0) ∧ (¬ (0 ≤ ar1.toInt ∧ ar1.toInt ≤ (gi 69 10).toInt) → (gi2 69 10).toInt = (gi 69 10).toInt) ∧ (((gi2 70 J0) = (gi 70 J0)) ∨ ((gi2 70 3).toInt = 0 ∧ 1 ≤ (gi2 70 4).toInt))
theorem c_m_river {X : x_Ext} {d : Nat} {sh : List (Nat ⊕ (Nat × Nat))} {gi : Nat → Nat → Int32} {gl : Nat → Nat → Int64} {gr : Nat → Nat → Value} (hI : t_I sh gi gr) (J0 : Nat) (b_J0l : 0 ≤ J0) (b_J0u : J0 < 350) (ar1 : Int32) : x_Me X (d + 10) n_X12_river [.ref 69, .int ar1] (sh, gi, gl, gr) (t_PI wl_m_river sh gi gl gr (-1) 6 (Q_m_river gi gl gr J0 ar1)) := by
  have hX : t_X wl_m_river sh gi gl gr gi gl gr := t_X.rf
  refine me_i f_X12_river (hI.wf.s rfl) rfl rfl rfl ?_
  obtain ⟨l1, u1⟩ := hI.b (hI.wf.s (k := 69) rfl) (t_bdK rfl : t_bd 11 10 = some (0, 900))
  obtain ⟨l2, u2⟩ := hI.b (hI.wf.s (k := 69) rfl) (t_bdK rfl : t_bd 11 12 = some (0, 4))
  obtain ⟨l3, u3⟩ := hI.b (hI.wf.s (k := 69) rfl) (t_bdK rfl : t_bd 11 14 = some (0, 900))
  obtain ⟨l4, u4⟩ := hI.ab (by decide +kernel : t_abr 70 3 3 0 12 = true) (Nat.le_refl _) (Nat.le_refl _)
  obtain ⟨l5, u5⟩ := hI.ab (by decide +kernel : t_abr 70 4 4 0 20 = true) (Nat.le_refl _) (Nat.le_refl _)
  obtain ⟨l6, u6⟩ := hI.ab (by decide +kernel : t_abr 70 1403 1403 0 12 = true) (Nat.le_refl _) (Nat.le_refl _)
  obtain ⟨l7, u7⟩ := hI.ab (by decide +kernel : t_abr 70 1404 1404 0 20 = true) (Nat.le_refl _) (Nat.le_refl _)
  refine ev_loc f_X12_river (nx := 1) rfl rfl rfl rfl ?_
  refine ev_loc f_X12_river (nx := 2) rfl rfl rfl rfl ?_
  refine ev_sp f_X12_river (nx := 5) (v := 900) rfl (by decide) rfl ?_
  refine ev_qI f_X12_river (nx := 8) (r := []) rfl rfl rfl rfl rfl rfl rfl (c_m_begins hI (ar1) (900)) rfl hX rfl (fun w8 gi8 gl8 gr8 l8 u8 hI hX hC8 q8 => ?_)
  have q8 : (w8.toInt = 1 → (0 ≤ ar1.toInt ∧ ar1.toInt ≤ (gi 69 10).toInt ∧ ar1.toInt ≤ 900) ∧ (gi8 69 10).toInt = 0) ∧ (w8.toInt = 0 → ¬ (0 ≤ ar1.toInt ∧ ar1.toInt ≤ (gi 69 10).toInt ∧ ar1.toInt ≤ 900) ∧ (gi8 69 10).toInt = (gi 69 10).toInt) := q8
  obtain ⟨l9, u9⟩ := hI.b (hI.wf.s (k := 69) rfl) (t_bdK rfl : t_bd 11 10 = some (0, 900))
  obtain ⟨l10, u10⟩ := hI.b (hI.wf.s (k := 69) rfl) (t_bdK rfl : t_bd 11 12 = some (0, 4))
  obtain ⟨l11, u11⟩ := hI.b (hI.wf.s (k := 69) rfl) (t_bdK rfl : t_bd 11 14 = some (0, 900))
  refine ev_if f_X12_river (t1 := 11) (t2 := 17) rfl rfl rfl (fun h12 => ?_) (fun h12 => ?_)
  · have u13 : w8.toInt ≤ 0 := t_equ h12 (by decide : (0:Int32).toInt ≤ (0:Int))
    refine ev_loc f_X12_river (nx := 12) rfl rfl rfl rfl ?_
    refine ev_ic f_X12_river (nx := 13) (v := 1) rfl (by decide) rfl ?_
    refine ev_inV2 f_X12_river (nx := 16) (lo2 := [(0, .ref 69), (1, .int 1)]) rfl rfl rfl rfl f_X12_refuse (hI.wf.s rfl) rfl rfl rfl rfl rfl ?_
    refine ev_loc f_X12_refuse (nx := 1) rfl rfl rfl rfl ?_
    refine ev_loc f_X12_refuse (nx := 2) rfl rfl rfl rfl ?_
    refine ev_putIT f_X12_refuse (nx := 5) rfl (hI.wf.s rfl) rfl rfl rfl (hI.put0 (hI.wf.s rfl) rfl rfl) (hX.upI rfl) (fun g14 e14 hI hX => ?_)
    refine ev_ic f_X12_refuse (nx := 6) (v := -1) rfl (by decide) rfl ?_
    refine ev_retK1 f_X12_refuse rfl rfl rfl ?_
    exact ev_ret f_X12_river rfl rfl rfl ⟨_, _, _, rfl, hI, hX, ⟨_, rfl, (by decide : ((-1):Int) ≤ ((-1):Int32).toInt), (Int.le_trans (by decide : ((-1):Int32).toInt ≤ ((-1):Int)) (by decide : ((-1):Int) ≤ 6)), (show ((0 ≤ ar1.toInt ∧ ar1.toInt ≤ (gi 69 10).toInt) → (g14 69 10).toInt = 0) ∧ (¬ (0 ≤ ar1.toInt ∧ ar1.toInt ≤ (gi 69 10).toInt) → (g14 69 10).toInt = (gi 69 10).toInt) ∧ (((g14 70 J0) = (gi 70 J0)) ∨ ((g14 70 3).toInt = 0 ∧ 1 ≤ (g14 70 4).toInt)) from ⟨(by have ff15 : (g14 69 10).toInt = (gi8 69 10).toInt := congrArg Int32.toInt ((by rw [e14]; exact x_up2_off (Or.inr (by decide)) : g14 69 10 = gi8 69 10).trans rfl); omega), (by have ff16 : (g14 69 10).toInt = (gi8 69 10).toInt := congrArg Int32.toInt ((by rw [e14]; exact x_up2_off (Or.inr (by decide)) : g14 69 10 = gi8 69 10).trans rfl); omega), Or.inl ((by rw [e14]; exact x_up2_off (Or.inl (by decide)) : g14 70 J0 = gi8 70 J0).trans ((hC8.1 70 J0 (t_nG (lo := 0) (hi := 350) rfl (by omega) (by omega))).1.trans rfl))⟩)⟩⟩
  · have r17 : w8.toInt ≠ 0 := fun e => h12 (Int32.toInt_inj.mp (e.trans (by decide : (0:Int) = (0 : Int32).toInt)))
    have l18 : 1 ≤ w8.toInt := t_nel h12 l8 rfl rfl
    refine ev_ic f_X12_river (nx := 18) (v := 0) rfl (by decide) rfl ?_
    refine ev_loc f_X12_river (nx := 19) (lo' := [(2, .int 0), (0, .ref 69), (1, .int ar1)]) rfl rfl rfl rfl ?_
    have L19 : ∀ (m19 : Nat) (gi19 : Nat → Nat → Int32) (gl19 : Nat → Nat → Int64) (gr19 : Nat → Nat → Value) (y19_2 : Int32), t_I sh gi19 gr19 → t_X wl_m_river sh gi gl gr gi19 gl19 gr19 → 0 ≤ y19_2.toInt → y19_2.toInt ≤ 350 → gi19 69 10 = (gi8 69 10) → gi19 69 12 = (gi8 69 12) → gi19 69 14 = (gi8 69 14) → gi19 70 J0 = (gi 70 J0) → gi19 70 3 = (gi 70 3) → gi19 70 4 = (gi 70 4) → (y19_2.toInt > 3 → (gi19 70 1403).toInt = 0) → (350 - y19_2.toInt).toNat = m19 → x_Ev X (d + 10) n_X12_river 19 [(2, .int y19_2), (0, .ref 69), (1, .int ar1)] [] (sh, gi19, gl19, gr19) (t_PI wl_m_river sh gi gl gr (-1) 6 (Q_m_river gi gl gr J0 ar1)) := by
      intro m19
      induction m19 using Nat.strongRecOn with
      | _ m19 ih19 =>
      intro gi19 gl19 gr19 y19_2 hI hX l19_2 u19_2 c19_0 c19_1 c19_2 c19_3 c19_4 c19_5 j19_0 hm19
      obtain ⟨l20, u20⟩ := hI.ab (by decide +kernel : t_abr 70 1403 1403 0 12 = true) (Nat.le_refl _) (Nat.le_refl _)
      obtain ⟨l21, u21⟩ := hI.ab (by decide +kernel : t_abr 70 1404 1404 0 20 = true) (Nat.le_refl _) (Nat.le_refl _)
      refine ev_loc f_X12_river (nx := 20) rfl rfl rfl rfl ?_
      refine ev_sp f_X12_river (nx := 23) (v := 350) rfl (by decide) rfl ?_
      refine ev_if f_X12_river (t1 := 43) (t2 := 26) rfl rfl rfl (fun h22 => ?_) (fun h22 => ?_)
      · have l23 : 350 ≤ y19_2.toInt := t_lel h22 (by decide : (350:Int) ≤ (350:Int32).toInt)
        refine ev_loc f_X12_river (nx := 44) rfl rfl rfl rfl ?_
        refine ev_getR f_X12_river (nx := 47) rfl (hI.wf.s rfl) rfl rfl (hI.wf.r rfl) rfl rfl ?_
        refine ev_sp f_X12_river (nx := 50) (v := 1404) rfl (by decide) rfl ?_
        refine ev_ic f_X12_river (nx := 51) (v := 5) rfl (by decide) rfl ?_
        refine ev_iastT f_X12_river (nx := 52) rfl (hI.wf.s rfl) (by decide : (1404:Int) ≤ (1404:Int32).toInt) (by decide) (by decide : (1404:Int32).toInt ≤ (1404:Int)) (by decide) rfl (hI.astL (hI.wf.s rfl) (by decide +kernel : t_abw 70 1404 1404 5 5 = true) (t_cl1 (by decide : (1404:Int) ≤ (1404:Int32).toInt) (by decide)) (t_cl2 (by decide : (1404:Int) ≤ (1404:Int32).toInt) (by decide : (1404:Int32).toInt ≤ (1404:Int)) (by decide) (by decide)) (by decide : (5:Int) ≤ (5:Int32).toInt) (by decide : (5:Int32).toInt ≤ (5:Int)) rfl) (hX.upI (t_inR (p := 1404) (m := 1404) rfl (by decide : (1404:Int) ≤ (1404:Int32).toInt) (by decide) (by decide : (1404:Int32).toInt ≤ (1404:Int)) (by decide) (by decide))) (fun g24 e24 hI hX => ?_)
        refine ev_loc f_X12_river (nx := 53) rfl rfl rfl rfl ?_
        refine ev_ic f_X12_river (nx := 54) (v := 0) rfl (by decide) rfl ?_
        refine ev_putIT f_X12_river (nx := 57) rfl (hI.wf.s rfl) rfl rfl rfl (hI.put0 (hI.wf.s rfl) rfl rfl) (hX.upI rfl) (fun g25 e25 hI hX => ?_)
        refine ev_ic f_X12_river (nx := 58) (v := 1) rfl (by decide) rfl ?_
        refine ev_loc f_X12_river (nx := 59) (lo' := [(2, .int 1), (0, .ref 69), (1, .int ar1)]) rfl rfl rfl rfl ?_
        have L26 : ∀ (m26 : Nat) (gi26 : Nat → Nat → Int32) (gl26 : Nat → Nat → Int64) (gr26 : Nat → Nat → Value) (y26_2 : Int32), t_I sh gi26 gr26 → t_X wl_m_river sh gi gl gr gi26 gl26 gr26 → 0 ≤ y26_2.toInt → y26_2.toInt ≤ 1 → gi26 69 10 = (gi8 69 10) → gi26 70 J0 = (gi 70 J0) → gi26 70 1403 = (gi19 70 1403) → gi26 70 3 = (gi 70 3) → gi26 70 4 = (gi 70 4) → (gi26 70 1403).toInt = 0 → 1 ≤ (gi26 70 1404).toInt → (4 * (900 - (gi26 69 14).toInt) + 2 * min (gi26 69 12).toInt 1 + y26_2.toInt).toNat = m26 → x_Ev X (d + 10) n_X12_river 59 [(2, .int y26_2), (0, .ref 69), (1, .int ar1)] [] (sh, gi26, gl26, gr26) (t_PI wl_m_river sh gi gl gr (-1) 6 (Q_m_river gi gl gr J0 ar1)) := by
          intro m26
          induction m26 using Nat.strongRecOn with
          | _ m26 ih26 =>
          intro gi26 gl26 gr26 y26_2 hI hX l26_2 u26_2 c26_0 c26_1 c26_2 c26_3 c26_4 j26_0 j26_1 hm26
          obtain ⟨l27, u27⟩ := hI.b (hI.wf.s (k := 69) rfl) (t_bdK rfl : t_bd 11 12 = some (0, 4))
          obtain ⟨l28, u28⟩ := hI.b (hI.wf.s (k := 69) rfl) (t_bdK rfl : t_bd 11 14 = some (0, 900))
          obtain ⟨l29, u29⟩ := hI.ab (by decide +kernel : t_abr 70 1404 1404 0 20 = true) (Nat.le_refl _) (Nat.le_refl _)
          refine ev_loc f_X12_river (nx := 60) rfl rfl rfl rfl ?_
          refine ev_if f_X12_river (t1 := 78) (t2 := 63) rfl rfl rfl (fun h30 => ?_) (fun h30 => ?_)
          · have u31 : y26_2.toInt ≤ 0 := t_equ h30 (by decide : (0:Int32).toInt ≤ (0:Int))
            refine ev_loc f_X12_river (nx := 79) rfl rfl rfl rfl ?_
            refine ev_getI f_X12_river (nx := 82) rfl (hI.wf.s rfl) rfl rfl rfl ?_
            refine ev_if f_X12_river (t1 := 85) (t2 := 145) rfl rfl rfl (fun h32 => ?_) (fun h32 => ?_)
            · have u33 : (gi26 69 18).toInt ≤ 0 := t_equ h32 (by decide : (0:Int32).toInt ≤ (0:Int))
              have l34 : 0 ≤ (gi26 69 18).toInt := t_eql h32 (by decide : (0:Int) ≤ (0:Int32).toInt)
              refine ev_ic f_X12_river (nx := 86) (v := 0) rfl (by decide) rfl ?_
              refine ev_loc f_X12_river (nx := 87) (lo' := [(3, .int 0), (2, .int y26_2), (0, .ref 69), (1, .int ar1)]) rfl rfl rfl rfl ?_
              have L35 : ∀ (m35 : Nat) (gi35 : Nat → Nat → Int32) (gl35 : Nat → Nat → Int64) (gr35 : Nat → Nat → Value) (y35_3 : Int32), t_I sh gi35 gr35 → t_X wl_m_river sh gi gl gr gi35 gl35 gr35 → 0 ≤ y35_3.toInt → y35_3.toInt ≤ 350 → gi35 69 10 = (gi8 69 10) → gi35 69 18 = (gi26 69 18) → gi35 70 1403 = (gi19 70 1403) → (gi35 70 1403).toInt = 0 → 1 ≤ (gi35 70 1404).toInt → (y35_3.toInt > 3 → (gi35 70 3).toInt = 0) → (y35_3.toInt > 4 → 1 ≤ (gi35 70 4).toInt) → (350 - y35_3.toInt).toNat = m35 → x_Ev X (d + 10) n_X12_river 87 [(3, .int y35_3), (2, .int y26_2), (0, .ref 69), (1, .int ar1)] [] (sh, gi35, gl35, gr35) (t_PI wl_m_river sh gi gl gr (-1) 6 (Q_m_river gi gl gr J0 ar1)) := by
                intro m35
                induction m35 using Nat.strongRecOn with
                | _ m35 ih35 =>
                intro gi35 gl35 gr35 y35_3 hI hX l35_3 u35_3 c35_0 c35_1 c35_2 j35_0 j35_1 j35_2 j35_3 hm35
                obtain ⟨l36, u36⟩ := hI.b (hI.wf.s (k := 69) rfl) (t_bdK rfl : t_bd 11 12 = some (0, 4))
                obtain ⟨l37, u37⟩ := hI.b (hI.wf.s (k := 69) rfl) (t_bdK rfl : t_bd 11 14 = some (0, 900))
                obtain ⟨l38, u38⟩ := hI.ab (by decide +kernel : t_abr 70 3 3 0 12 = true) (Nat.le_refl _) (Nat.le_refl _)
                obtain ⟨l39, u39⟩ := hI.ab (by decide +kernel : t_abr 70 4 4 0 20 = true) (Nat.le_refl _) (Nat.le_refl _)
                obtain ⟨l40, u40⟩ := hI.ab (by decide +kernel : t_abr 70 1404 1404 0 20 = true) (Nat.le_refl _) (Nat.le_refl _)
                refine ev_loc f_X12_river (nx := 88) rfl rfl rfl rfl ?_
                refine ev_sp f_X12_river (nx := 91) (v := 350) rfl (by decide) rfl ?_
                refine ev_if f_X12_river (t1 := 116) (t2 := 94) rfl rfl rfl (fun h41 => ?_) (fun h41 => ?_)
                · have l42 : 350 ≤ y35_3.toInt := t_lel h41 (by decide : (350:Int) ≤ (350:Int32).toInt)
                  refine ev_ic f_X12_river (nx := 117) (v := 0) rfl (by decide) rfl ?_
                  refine ev_loc f_X12_river (nx := 118) (lo' := [(3, .int 0), (2, .int y26_2), (0, .ref 69), (1, .int ar1)]) rfl rfl rfl rfl ?_
                  have L43 : ∀ (m43 : Nat) (gi43 : Nat → Nat → Int32) (gl43 : Nat → Nat → Int64) (gr43 : Nat → Nat → Value) (y43_3 : Int32), t_I sh gi43 gr43 → t_X wl_m_river sh gi gl gr gi43 gl43 gr43 → 0 ≤ y43_3.toInt → y43_3.toInt ≤ 18 → gi43 69 10 = (gi8 69 10) → gi43 69 18 = (gi26 69 18) → gi43 70 J0 = (gi35 70 J0) → gi43 70 1403 = (gi19 70 1403) → gi43 70 3 = (gi35 70 3) → gi43 70 4 = (gi35 70 4) → (gi43 70 3).toInt = 0 → 1 ≤ (gi43 70 4).toInt → (18 - y43_3.toInt).toNat = m43 → x_Ev X (d + 10) n_X12_river 118 [(3, .int y43_3), (2, .int y26_2), (0, .ref 69), (1, .int ar1)] [] (sh, gi43, gl43, gr43) (t_PI wl_m_river sh gi gl gr (-1) 6 (Q_m_river gi gl gr J0 ar1)) := by
                    intro m43
                    induction m43 using Nat.strongRecOn with
                    | _ m43 ih43 =>
                    intro gi43 gl43 gr43 y43_3 hI hX l43_3 u43_3 c43_0 c43_1 c43_2 c43_3 c43_4 c43_5 j43_0 j43_1 hm43
                    obtain ⟨l44, u44⟩ := hI.b (hI.wf.s (k := 69) rfl) (t_bdK rfl : t_bd 11 12 = some (0, 4))
                    obtain ⟨l45, u45⟩ := hI.b (hI.wf.s (k := 69) rfl) (t_bdK rfl : t_bd 11 14 = some (0, 900))
                    obtain ⟨l46, u46⟩ := hI.ab (by decide +kernel : t_abr 70 1404 1404 0 20 = true) (Nat.le_refl _) (Nat.le_refl _)
                    refine ev_loc f_X12_river (nx := 119) rfl rfl rfl rfl ?_
                    refine ev_bp f_X12_river (nx := 121) (v := 18) rfl (by decide) rfl ?_
                    refine ev_if f_X12_river (t1 := 145) (t2 := 124) rfl rfl rfl (fun h47 => ?_) (fun h47 => ?_)
                    · have l48 : 18 ≤ y43_3.toInt := t_lel h47 (by decide : (18:Int) ≤ (18:Int32).toInt)
                      refine ev_loc f_X12_river (nx := 146) rfl rfl rfl rfl ?_
                      refine ev_loc f_X12_river (nx := 147) rfl rfl rfl rfl ?_
                      refine ev_getR f_X12_river (nx := 150) rfl (hI.wf.s rfl) rfl rfl (hI.wf.r rfl) rfl rfl ?_
                      refine ev_ic f_X12_river (nx := 151) (v := 1) rfl (by decide) rfl ?_
                      obtain ⟨l49, u49⟩ := hI.ab (by decide +kernel : t_abr 70 1 1 0 6 = true) (Nat.le_refl _) (Nat.le_refl _)
                      refine ev_ialdv f_X12_river (nx := 152) (w := (gi43 70 1)) rfl (hI.wf.s rfl) (by decide) (rfl : (1 : Int32).toNatClampNeg = 1) (by decide) rfl rfl ?_
                      refine ev_inV2 f_X12_river (nx := 155) (lo2 := [(0, .ref 69), (1, .int (gi43 70 1))]) rfl rfl rfl rfl f_X12_taken (hI.wf.s rfl) rfl rfl rfl rfl rfl ?_
                      refine ev_loc f_X12_taken (nx := 1) rfl rfl rfl rfl ?_
                      refine ev_loc f_X12_taken (nx := 2) rfl rfl rfl rfl ?_
                      refine ev_gvI f_X12_taken (nx := 5) (w := (gi26 69 18)) rfl (hI.wf.s rfl) rfl rfl c43_1 rfl ?_
                      refine ev_putIT f_X12_taken (nx := 8) rfl (hI.wf.s rfl) rfl rfl rfl (hI.put0 (hI.wf.s rfl) rfl rfl) (hX.upI rfl) (fun g50 e50 hI hX => ?_)
                      refine ev_loc f_X12_taken (nx := 9) rfl rfl rfl rfl ?_
                      refine ev_gvI f_X12_taken (nx := 12) (w := (gi26 69 18)) rfl (hI.wf.s rfl) rfl rfl ((by rw [e50]; exact x_up2_off (Or.inr (by decide)) : g50 69 18 = gi43 69 18).trans c43_1) rfl ?_
                      refine ev_t f_X12_taken (t1 := 24) (t2 := 15) rfl rfl rfl (t_leT u33 (by decide : (0:Int) ≤ (0:Int32).toInt) (by decide)) ?_
                      refine ev_loc f_X12_taken (nx := 25) rfl rfl rfl rfl ?_
                      refine ev_loc f_X12_taken (nx := 26) rfl rfl rfl rfl ?_
                      refine ev_inV2 f_X12_taken (nx := 29) (lo2 := [(0, .ref 69), (1, .int (gi43 70 1))]) rfl rfl rfl rfl f_X12_gives (hI.wf.s rfl) rfl rfl rfl rfl rfl ?_
                      refine ev_loc f_X12_gives (nx := 1) rfl rfl rfl rfl ?_
                      refine ev_ic f_X12_gives (nx := 2) (v := 0) rfl (by decide) rfl ?_
                      refine ev_putIT f_X12_gives (nx := 5) rfl (hI.wf.s rfl) rfl rfl rfl (hI.put0 (hI.wf.s rfl) rfl rfl) (hX.upI rfl) (fun g51 e51 hI hX => ?_)
                      refine ev_loc f_X12_gives (nx := 6) rfl rfl rfl rfl ?_
                      refine ev_retK1 f_X12_gives rfl rfl rfl ?_
                      refine ev_retK1 f_X12_taken rfl rfl rfl ?_
                      exact ev_ret f_X12_river rfl rfl rfl ⟨_, _, _, rfl, hI, hX, ⟨_, rfl, (Int.le_trans (by decide : ((-1):Int) ≤ 0) l49), u49, (show ((0 ≤ ar1.toInt ∧ ar1.toInt ≤ (gi 69 10).toInt) → (g51 69 10).toInt = 0) ∧ (¬ (0 ≤ ar1.toInt ∧ ar1.toInt ≤ (gi 69 10).toInt) → (g51 69 10).toInt = (gi 69 10).toInt) ∧ (((g51 70 J0) = (gi 70 J0)) ∨ ((g51 70 3).toInt = 0 ∧ 1 ≤ (g51 70 4).toInt)) from ⟨(by have ff52 : (g51 69 10).toInt = (gi8 69 10).toInt := congrArg Int32.toInt ((by rw [e51]; exact x_up2_off (Or.inr (by decide)) : g51 69 10 = g50 69 10).trans ((by rw [e50]; exact x_up2_off (Or.inr (by decide)) : g50 69 10 = gi43 69 10).trans c43_0)); omega), (by have ff53 : (g51 69 10).toInt = (gi8 69 10).toInt := congrArg Int32.toInt ((by rw [e51]; exact x_up2_off (Or.inr (by decide)) : g51 69 10 = g50 69 10).trans ((by rw [e50]; exact x_up2_off (Or.inr (by decide)) : g50 69 10 = gi43 69 10).trans c43_0)); omega), Or.inr (by have ff54 : (g51 70 3).toInt = (gi35 70 3).toInt := congrArg Int32.toInt ((by rw [e51]; exact x_up2_off (Or.inr (by decide)) : g51 70 3 = g50 70 3).trans ((by rw [e50]; exact x_up2_off (Or.inr (by decide)) : g50 70 3 = gi43 70 3).trans c43_4)); have ff55 : (g51 70 4).toInt = (gi35 70 4).toInt := congrArg Int32.toInt ((by rw [e51]; exact x_up2_off (Or.inr (by decide)) : g51 70 4 = g50 70 4).trans ((by rw [e50]; exact x_up2_off (Or.inr (by decide)) : g50 70 4 = gi43 70 4).trans c43_5)); omega)⟩)⟩⟩
                    · have u56 : y43_3.toInt ≤ 17 := t_ltu (t_nle h47) (by decide : (18:Int32).toInt ≤ (18:Int)) rfl
                      refine ev_loc f_X12_river (nx := 125) rfl rfl rfl rfl ?_
                      refine ev_getR f_X12_river (nx := 128) rfl (hI.wf.s rfl) rfl rfl (hI.wf.r rfl) rfl rfl ?_
                      refine ev_loc f_X12_river (nx := 129) rfl rfl rfl rfl ?_
                      refine ev_loc f_X12_river (nx := 130) rfl rfl rfl rfl ?_
                      refine ev_getR f_X12_river (nx := 133) rfl (hI.wf.s rfl) rfl rfl (hI.wf.r rfl) rfl rfl ?_
                      refine ev_bp f_X12_river (nx := 135) (v := 72) rfl (by decide) rfl ?_
                      refine ev_loc f_X12_river (nx := 136) rfl rfl rfl rfl ?_
                      refine ev_addK f_X12_river (nx := 137) (c := 72) (l := 72) (u := 89) rfl (by decide) l43_3 u56 rfl rfl (by decide) (by decide) rfl (fun z57 e57 l57 u57 => ?_)
                      refine ev_laldT f_X12_river (nx := 138) rfl (hI.wf.s rfl) l57 (by decide) u57 (by decide) rfl (fun w58 e58 => ?_)
                      refine ev_lastT f_X12_river (nx := 139) rfl (hI.wf.s rfl) l43_3 (by decide) u56 (by decide) rfl (hX.upL (t_inR (p := 0) (m := 17) rfl l43_3 (by decide) u56 (by decide) (by decide))) (fun g59 e59 hX => ?_)
                      refine ev_incR f_X12_river (nx := 142) (c := 1) (l := 1) (u := 18) rfl rfl (by decide) (by decide) l43_3 u56 rfl rfl (by decide) (by decide) rfl (fun z60 e60 l60 u60 => ?_)
                      refine ev_jmp f_X12_river (nx := 118) rfl rfl rfl ?_
                      refine ev_sub (lo := [(3, .int z60), (2, .int y26_2), (0, .ref 69), (1, .int ar1)]) rfl (t_sc rfl (t_sc rfl (t_sc rfl (t_sc rfl t_sn)))) ?_
                      exact ih43 _ (by omega) gi43 g59 gr43 (z60) hI hX  (Int.le_trans (by decide : (0:Int) ≤ 1) l60) u60 c43_0 c43_1 c43_2 c43_3 c43_4 c43_5 (by have ff61 : (gi43 70 3).toInt = (gi35 70 3).toInt := congrArg Int32.toInt c43_4; omega) (by have ff62 : (gi43 70 4).toInt = (gi35 70 4).toInt := congrArg Int32.toInt c43_5; omega) rfl
                  refine ev_sub (lo := [(3, .int 0), (2, .int y26_2), (0, .ref 69), (1, .int ar1)]) rfl (t_sc rfl (t_sc rfl (t_sc rfl (t_sc rfl t_sn)))) ?_
                  exact L43 _ gi35 gl35 gr35 (0) hI hX  (by decide : (0:Int) ≤ (0:Int32).toInt) (Int.le_trans (by decide : (0:Int32).toInt ≤ (0:Int)) (by decide : (0:Int) ≤ 18)) c35_0 c35_1 rfl c35_2 rfl rfl (by omega) (by omega) rfl
                · have u63 : y35_3.toInt ≤ 349 := t_ltu (t_nle h41) (by decide : (350:Int32).toInt ≤ (350:Int)) rfl
                  refine ev_loc f_X12_river (nx := 95) rfl rfl rfl rfl ?_
                  refine ev_getR f_X12_river (nx := 98) rfl (hI.wf.s rfl) rfl rfl (hI.wf.r rfl) rfl rfl ?_
                  refine ev_loc f_X12_river (nx := 99) rfl rfl rfl rfl ?_
                  refine ev_loc f_X12_river (nx := 100) rfl rfl rfl rfl ?_
                  refine ev_getR f_X12_river (nx := 103) rfl (hI.wf.s rfl) rfl rfl (hI.wf.r rfl) rfl rfl ?_
                  refine ev_sp f_X12_river (nx := 106) (v := 1400) rfl (by decide) rfl ?_
                  refine ev_loc f_X12_river (nx := 107) rfl rfl rfl rfl ?_
                  refine ev_addK f_X12_river (nx := 108) (c := 1400) (l := 1400) (u := 1749) rfl (by decide) l35_3 u63 rfl rfl (by decide) (by decide) rfl (fun z64 e64 l64 u64 => ?_)
                  refine ev_ialdT f_X12_river (nx := 109) rfl (hI.wf.s rfl) l64 (by decide) u64 (by decide) rfl (fun w65 e65 => ?_)
                  refine ev_iastT f_X12_river (nx := 110) rfl (hI.wf.s rfl) l35_3 (by decide) u63 (by decide) rfl (hI.astS (a := 4) (b := 0) (k := y35_3.toInt.toNat) e65 (by omega) (by omega) (by omega) (by omega) (by omega)) (hX.upI (t_inR (p := 0) (m := 349) rfl l35_3 (by decide) u63 (by decide) (by decide))) (fun g66 e66 hI hX => ?_)
                  refine ev_incR f_X12_river (nx := 113) (c := 1) (l := 1) (u := 350) rfl rfl (by decide) (by decide) l35_3 u63 rfl rfl (by decide) (by decide) rfl (fun z67 e67 l67 u67 => ?_)
                  refine ev_jmp f_X12_river (nx := 87) rfl rfl rfl ?_
                  refine ev_sub (lo := [(3, .int z67), (2, .int y26_2), (0, .ref 69), (1, .int ar1)]) rfl (t_sc rfl (t_sc rfl (t_sc rfl (t_sc rfl t_sn)))) ?_
                  exact ih35 _ (by omega) g66 gl35 gr35 (z67) hI hX  (Int.le_trans (by decide : (0:Int) ≤ 1) l67) u67 ((by rw [e66]; exact x_up2_off (Or.inl (by decide)) : g66 69 10 = gi35 69 10).trans c35_0) ((by rw [e66]; exact x_up2_off (Or.inl (by decide)) : g66 69 18 = gi35 69 18).trans c35_1) ((by rw [e66]; exact x_up2_off (Or.inr (t_neCu l35_3 u63 (by decide) (by decide))) : g66 70 1403 = gi35 70 1403).trans c35_2) (by have ff68 : (g66 70 1403).toInt = (gi19 70 1403).toInt := congrArg Int32.toInt ((by rw [e66]; exact x_up2_off (Or.inr (t_neCu l35_3 u63 (by decide) (by decide))) : g66 70 1403 = gi35 70 1403).trans c35_2); omega) (by have ff69 : (g66 70 1404).toInt = (gi35 70 1404).toInt := congrArg Int32.toInt ((by rw [e66]; exact x_up2_off (Or.inr (t_neCu l35_3 u63 (by decide) (by decide))) : g66 70 1404 = gi35 70 1404).trans rfl); omega) (by rcases t_stc e66 3 with ⟨h1, h2⟩ | ⟨h1, h2⟩ <;> rw [h2] <;> first | (have hc := t_clamp (i := y35_3) (by omega); have hd := t_clamp (i := z64) (by omega); have hx : z64.toNatClampNeg = 1403 := (by omega); rw [e65, hx]; omega) | (have hc := t_clamp (i := y35_3) (by omega); omega)) (by rcases t_stc e66 4 with ⟨h1, h2⟩ | ⟨h1, h2⟩ <;> rw [h2] <;> first | (have hc := t_clamp (i := y35_3) (by omega); have hd := t_clamp (i := z64) (by omega); have hx : z64.toNatClampNeg = 1404 := (by omega); rw [e65, hx]; omega) | (have hc := t_clamp (i := y35_3) (by omega); omega)) rfl
              refine ev_sub (lo := [(3, .int 0), (2, .int y26_2), (0, .ref 69), (1, .int ar1)]) rfl (t_sc rfl (t_sc rfl (t_sc rfl (t_sc rfl t_sn)))) ?_
              exact L35 _ gi26 gl26 gr26 (0) hI hX  (by decide : (0:Int) ≤ (0:Int32).toInt) (Int.le_trans (by decide : (0:Int32).toInt ≤ (0:Int)) (by decide : (0:Int) ≤ 350)) c26_0 rfl c26_2 (by have ff72 : (gi26 70 1403).toInt = (gi19 70 1403).toInt := congrArg Int32.toInt c26_2; omega) (by omega) (by have kf73 : (0 : Int32).toInt = 0 := (by decide); have ff74 : (gi26 70 3).toInt = (gi 70 3).toInt := congrArg Int32.toInt c26_3; omega) (by have kf75 : (0 : Int32).toInt = 0 := (by decide); have ff76 : (gi26 70 4).toInt = (gi 70 4).toInt := congrArg Int32.toInt c26_4; omega) rfl
            · have r77 : (gi26 69 18).toInt ≠ 0 := fun e => h32 (Int32.toInt_inj.mp (e.trans (by decide : (0:Int) = (0 : Int32).toInt)))
              refine ev_loc f_X12_river (nx := 146) rfl rfl rfl rfl ?_
              refine ev_loc f_X12_river (nx := 147) rfl rfl rfl rfl ?_
              refine ev_getR f_X12_river (nx := 150) rfl (hI.wf.s rfl) rfl rfl (hI.wf.r rfl) rfl rfl ?_
              refine ev_ic f_X12_river (nx := 151) (v := 1) rfl (by decide) rfl ?_
              obtain ⟨l78, u78⟩ := hI.ab (by decide +kernel : t_abr 70 1 1 0 6 = true) (Nat.le_refl _) (Nat.le_refl _)
              refine ev_ialdv f_X12_river (nx := 152) (w := (gi26 70 1)) rfl (hI.wf.s rfl) (by decide) (rfl : (1 : Int32).toNatClampNeg = 1) (by decide) rfl rfl ?_
              refine ev_inV2 f_X12_river (nx := 155) (lo2 := [(0, .ref 69), (1, .int (gi26 70 1))]) rfl rfl rfl rfl f_X12_taken (hI.wf.s rfl) rfl rfl rfl rfl rfl ?_
              refine ev_loc f_X12_taken (nx := 1) rfl rfl rfl rfl ?_
              refine ev_loc f_X12_taken (nx := 2) rfl rfl rfl rfl ?_
              refine ev_gvI f_X12_taken (nx := 5) (w := (gi26 69 18)) rfl (hI.wf.s rfl) rfl rfl rfl rfl ?_
              refine ev_putIT f_X12_taken (nx := 8) rfl (hI.wf.s rfl) rfl rfl rfl (hI.put0 (hI.wf.s rfl) rfl rfl) (hX.upI rfl) (fun g79 e79 hI hX => ?_)
              refine ev_loc f_X12_taken (nx := 9) rfl rfl rfl rfl ?_
              refine ev_gvI f_X12_taken (nx := 12) (w := (gi26 69 18)) rfl (hI.wf.s rfl) rfl rfl ((by rw [e79]; exact x_up2_off (Or.inr (by decide)) : g79 69 18 = gi26 69 18).trans rfl) rfl ?_
              refine ev_if f_X12_taken (t1 := 24) (t2 := 15) rfl rfl rfl (fun h80 => ?_) (fun h80 => ?_)
              · have u81 : (gi26 69 18).toInt ≤ 0 := t_leu h80 (by decide : (0:Int32).toInt ≤ (0:Int))
                refine ev_loc f_X12_taken (nx := 25) rfl rfl rfl rfl ?_
                refine ev_loc f_X12_taken (nx := 26) rfl rfl rfl rfl ?_
                refine ev_inV2 f_X12_taken (nx := 29) (lo2 := [(0, .ref 69), (1, .int (gi26 70 1))]) rfl rfl rfl rfl f_X12_gives (hI.wf.s rfl) rfl rfl rfl rfl rfl ?_
                refine ev_loc f_X12_gives (nx := 1) rfl rfl rfl rfl ?_
                refine ev_ic f_X12_gives (nx := 2) (v := 0) rfl (by decide) rfl ?_
                refine ev_putIT f_X12_gives (nx := 5) rfl (hI.wf.s rfl) rfl rfl rfl (hI.put0 (hI.wf.s rfl) rfl rfl) (hX.upI rfl) (fun g82 e82 hI hX => ?_)
                refine ev_loc f_X12_gives (nx := 6) rfl rfl rfl rfl ?_
                refine ev_retK1 f_X12_gives rfl rfl rfl ?_
                refine ev_retK1 f_X12_taken rfl rfl rfl ?_
                exact ev_ret f_X12_river rfl rfl rfl ⟨_, _, _, rfl, hI, hX, ⟨_, rfl, (Int.le_trans (by decide : ((-1):Int) ≤ 0) l78), u78, (show ((0 ≤ ar1.toInt ∧ ar1.toInt ≤ (gi 69 10).toInt) → (g82 69 10).toInt = 0) ∧ (¬ (0 ≤ ar1.toInt ∧ ar1.toInt ≤ (gi 69 10).toInt) → (g82 69 10).toInt = (gi 69 10).toInt) ∧ (((g82 70 J0) = (gi 70 J0)) ∨ ((g82 70 3).toInt = 0 ∧ 1 ≤ (g82 70 4).toInt)) from ⟨(by have ff83 : (g82 69 10).toInt = (gi8 69 10).toInt := congrArg Int32.toInt ((by rw [e82]; exact x_up2_off (Or.inr (by decide)) : g82 69 10 = g79 69 10).trans ((by rw [e79]; exact x_up2_off (Or.inr (by decide)) : g79 69 10 = gi26 69 10).trans c26_0)); omega), (by have ff84 : (g82 69 10).toInt = (gi8 69 10).toInt := congrArg Int32.toInt ((by rw [e82]; exact x_up2_off (Or.inr (by decide)) : g82 69 10 = g79 69 10).trans ((by rw [e79]; exact x_up2_off (Or.inr (by decide)) : g79 69 10 = gi26 69 10).trans c26_0)); omega), Or.inl ((by rw [e82]; exact x_up2_off (Or.inl (by decide)) : g82 70 J0 = g79 70 J0).trans ((by rw [e79]; exact x_up2_off (Or.inl (by decide)) : g79 70 J0 = gi26 70 J0).trans c26_1))⟩)⟩⟩
              · have l85 : 1 ≤ (gi26 69 18).toInt := t_ltl (t_nle h80) (by decide : (0:Int) ≤ (0:Int32).toInt) rfl
                refine ev_loc f_X12_taken (nx := 16) rfl rfl rfl rfl ?_
                refine ev_bp f_X12_taken (nx := 18) (v := 9) rfl (by decide) rfl ?_
                refine ev_inV2 f_X12_taken (nx := 21) (lo2 := [(0, .ref 69), (1, .int 9)]) rfl rfl rfl rfl f_X12_refuse (hI.wf.s rfl) rfl rfl rfl rfl rfl ?_
                refine ev_loc f_X12_refuse (nx := 1) rfl rfl rfl rfl ?_
                refine ev_loc f_X12_refuse (nx := 2) rfl rfl rfl rfl ?_
                refine ev_putIT f_X12_refuse (nx := 5) rfl (hI.wf.s rfl) rfl rfl rfl (hI.put0 (hI.wf.s rfl) rfl rfl) (hX.upI rfl) (fun g86 e86 hI hX => ?_)
                refine ev_ic f_X12_refuse (nx := 6) (v := -1) rfl (by decide) rfl ?_
                refine ev_retK1 f_X12_refuse rfl rfl rfl ?_
                refine ev_jmp f_X12_taken (nx := 29) rfl rfl rfl ?_
                refine ev_retK1 f_X12_taken rfl rfl rfl ?_
                exact ev_ret f_X12_river rfl rfl rfl ⟨_, _, _, rfl, hI, hX, ⟨_, rfl, (by decide : ((-1):Int) ≤ ((-1):Int32).toInt), (Int.le_trans (by decide : ((-1):Int32).toInt ≤ ((-1):Int)) (by decide : ((-1):Int) ≤ 6)), (show ((0 ≤ ar1.toInt ∧ ar1.toInt ≤ (gi 69 10).toInt) → (g86 69 10).toInt = 0) ∧ (¬ (0 ≤ ar1.toInt ∧ ar1.toInt ≤ (gi 69 10).toInt) → (g86 69 10).toInt = (gi 69 10).toInt) ∧ (((g86 70 J0) = (gi 70 J0)) ∨ ((g86 70 3).toInt = 0 ∧ 1 ≤ (g86 70 4).toInt)) from ⟨(by have ff87 : (g86 69 10).toInt = (gi8 69 10).toInt := congrArg Int32.toInt ((by rw [e86]; exact x_up2_off (Or.inr (by decide)) : g86 69 10 = g79 69 10).trans ((by rw [e79]; exact x_up2_off (Or.inr (by decide)) : g79 69 10 = gi26 69 10).trans c26_0)); omega), (by have ff88 : (g86 69 10).toInt = (gi8 69 10).toInt := congrArg Int32.toInt ((by rw [e86]; exact x_up2_off (Or.inr (by decide)) : g86 69 10 = g79 69 10).trans ((by rw [e79]; exact x_up2_off (Or.inr (by decide)) : g79 69 10 = gi26 69 10).trans c26_0)); omega), Or.inl ((by rw [e86]; exact x_up2_off (Or.inl (by decide)) : g86 70 J0 = g79 70 J0).trans ((by rw [e79]; exact x_up2_off (Or.inl (by decide)) : g79 70 J0 = gi26 70 J0).trans c26_1))⟩)⟩⟩
          · have r89 : y26_2.toInt ≠ 0 := fun e => h30 (Int32.toInt_inj.mp (e.trans (by decide : (0:Int) = (0 : Int32).toInt)))
            have l90 : 1 ≤ y26_2.toInt := t_nel h30 l26_2 rfl rfl
            refine ev_loc f_X12_river (nx := 64) rfl rfl rfl rfl ?_
            refine ev_gvI f_X12_river (nx := 67) (w := (gi26 69 12)) rfl (hI.wf.s rfl) rfl rfl rfl rfl ?_
            refine ev_if f_X12_river (t1 := 78) (t2 := 70) rfl rfl rfl (fun h91 => ?_) (fun h91 => ?_)
            · have u92 : (gi26 69 12).toInt ≤ 0 := t_equ h91 (by decide : (0:Int32).toInt ≤ (0:Int))
              refine ev_loc f_X12_river (nx := 79) rfl rfl rfl rfl ?_
              refine ev_getI f_X12_river (nx := 82) rfl (hI.wf.s rfl) rfl rfl rfl ?_
              refine ev_if f_X12_river (t1 := 85) (t2 := 145) rfl rfl rfl (fun h93 => ?_) (fun h93 => ?_)
              · have u94 : (gi26 69 18).toInt ≤ 0 := t_equ h93 (by decide : (0:Int32).toInt ≤ (0:Int))
                have l95 : 0 ≤ (gi26 69 18).toInt := t_eql h93 (by decide : (0:Int) ≤ (0:Int32).toInt)
                refine ev_ic f_X12_river (nx := 86) (v := 0) rfl (by decide) rfl ?_
                refine ev_loc f_X12_river (nx := 87) (lo' := [(3, .int 0), (2, .int y26_2), (0, .ref 69), (1, .int ar1)]) rfl rfl rfl rfl ?_
                have L96 : ∀ (m96 : Nat) (gi96 : Nat → Nat → Int32) (gl96 : Nat → Nat → Int64) (gr96 : Nat → Nat → Value) (y96_3 : Int32), t_I sh gi96 gr96 → t_X wl_m_river sh gi gl gr gi96 gl96 gr96 → 0 ≤ y96_3.toInt → y96_3.toInt ≤ 350 → gi96 69 10 = (gi8 69 10) → gi96 69 18 = (gi26 69 18) → gi96 70 1403 = (gi19 70 1403) → (gi96 70 1403).toInt = 0 → 1 ≤ (gi96 70 1404).toInt → (y96_3.toInt > 3 → (gi96 70 3).toInt = 0) → (y96_3.toInt > 4 → 1 ≤ (gi96 70 4).toInt) → (350 - y96_3.toInt).toNat = m96 → x_Ev X (d + 10) n_X12_river 87 [(3, .int y96_3), (2, .int y26_2), (0, .ref 69), (1, .int ar1)] [] (sh, gi96, gl96, gr96) (t_PI wl_m_river sh gi gl gr (-1) 6 (Q_m_river gi gl gr J0 ar1)) := by
                  intro m96
                  induction m96 using Nat.strongRecOn with
                  | _ m96 ih96 =>
                  intro gi96 gl96 gr96 y96_3 hI hX l96_3 u96_3 c96_0 c96_1 c96_2 j96_0 j96_1 j96_2 j96_3 hm96
                  obtain ⟨l97, u97⟩ := hI.b (hI.wf.s (k := 69) rfl) (t_bdK rfl : t_bd 11 12 = some (0, 4))
                  obtain ⟨l98, u98⟩ := hI.b (hI.wf.s (k := 69) rfl) (t_bdK rfl : t_bd 11 14 = some (0, 900))
                  obtain ⟨l99, u99⟩ := hI.ab (by decide +kernel : t_abr 70 3 3 0 12 = true) (Nat.le_refl _) (Nat.le_refl _)
                  obtain ⟨l100, u100⟩ := hI.ab (by decide +kernel : t_abr 70 4 4 0 20 = true) (Nat.le_refl _) (Nat.le_refl _)
                  obtain ⟨l101, u101⟩ := hI.ab (by decide +kernel : t_abr 70 1404 1404 0 20 = true) (Nat.le_refl _) (Nat.le_refl _)
                  refine ev_loc f_X12_river (nx := 88) rfl rfl rfl rfl ?_
                  refine ev_sp f_X12_river (nx := 91) (v := 350) rfl (by decide) rfl ?_
                  refine ev_if f_X12_river (t1 := 116) (t2 := 94) rfl rfl rfl (fun h102 => ?_) (fun h102 => ?_)
                  · have l103 : 350 ≤ y96_3.toInt := t_lel h102 (by decide : (350:Int) ≤ (350:Int32).toInt)
                    refine ev_ic f_X12_river (nx := 117) (v := 0) rfl (by decide) rfl ?_
                    refine ev_loc f_X12_river (nx := 118) (lo' := [(3, .int 0), (2, .int y26_2), (0, .ref 69), (1, .int ar1)]) rfl rfl rfl rfl ?_
                    have L104 : ∀ (m104 : Nat) (gi104 : Nat → Nat → Int32) (gl104 : Nat → Nat → Int64) (gr104 : Nat → Nat → Value) (y104_3 : Int32), t_I sh gi104 gr104 → t_X wl_m_river sh gi gl gr gi104 gl104 gr104 → 0 ≤ y104_3.toInt → y104_3.toInt ≤ 18 → gi104 69 10 = (gi8 69 10) → gi104 69 18 = (gi26 69 18) → gi104 70 J0 = (gi96 70 J0) → gi104 70 1403 = (gi19 70 1403) → gi104 70 3 = (gi96 70 3) → gi104 70 4 = (gi96 70 4) → (gi104 70 3).toInt = 0 → 1 ≤ (gi104 70 4).toInt → (18 - y104_3.toInt).toNat = m104 → x_Ev X (d + 10) n_X12_river 118 [(3, .int y104_3), (2, .int y26_2), (0, .ref 69), (1, .int ar1)] [] (sh, gi104, gl104, gr104) (t_PI wl_m_river sh gi gl gr (-1) 6 (Q_m_river gi gl gr J0 ar1)) := by
                      intro m104
                      induction m104 using Nat.strongRecOn with
                      | _ m104 ih104 =>
                      intro gi104 gl104 gr104 y104_3 hI hX l104_3 u104_3 c104_0 c104_1 c104_2 c104_3 c104_4 c104_5 j104_0 j104_1 hm104
                      obtain ⟨l105, u105⟩ := hI.b (hI.wf.s (k := 69) rfl) (t_bdK rfl : t_bd 11 12 = some (0, 4))
                      obtain ⟨l106, u106⟩ := hI.b (hI.wf.s (k := 69) rfl) (t_bdK rfl : t_bd 11 14 = some (0, 900))
                      obtain ⟨l107, u107⟩ := hI.ab (by decide +kernel : t_abr 70 1404 1404 0 20 = true) (Nat.le_refl _) (Nat.le_refl _)
                      refine ev_loc f_X12_river (nx := 119) rfl rfl rfl rfl ?_
                      refine ev_bp f_X12_river (nx := 121) (v := 18) rfl (by decide) rfl ?_
                      refine ev_if f_X12_river (t1 := 145) (t2 := 124) rfl rfl rfl (fun h108 => ?_) (fun h108 => ?_)
                      · have l109 : 18 ≤ y104_3.toInt := t_lel h108 (by decide : (18:Int) ≤ (18:Int32).toInt)
                        refine ev_loc f_X12_river (nx := 146) rfl rfl rfl rfl ?_
                        refine ev_loc f_X12_river (nx := 147) rfl rfl rfl rfl ?_
                        refine ev_getR f_X12_river (nx := 150) rfl (hI.wf.s rfl) rfl rfl (hI.wf.r rfl) rfl rfl ?_
                        refine ev_ic f_X12_river (nx := 151) (v := 1) rfl (by decide) rfl ?_
                        obtain ⟨l110, u110⟩ := hI.ab (by decide +kernel : t_abr 70 1 1 0 6 = true) (Nat.le_refl _) (Nat.le_refl _)
                        refine ev_ialdv f_X12_river (nx := 152) (w := (gi104 70 1)) rfl (hI.wf.s rfl) (by decide) (rfl : (1 : Int32).toNatClampNeg = 1) (by decide) rfl rfl ?_
                        refine ev_inV2 f_X12_river (nx := 155) (lo2 := [(0, .ref 69), (1, .int (gi104 70 1))]) rfl rfl rfl rfl f_X12_taken (hI.wf.s rfl) rfl rfl rfl rfl rfl ?_
                        refine ev_loc f_X12_taken (nx := 1) rfl rfl rfl rfl ?_
                        refine ev_loc f_X12_taken (nx := 2) rfl rfl rfl rfl ?_
                        refine ev_gvI f_X12_taken (nx := 5) (w := (gi26 69 18)) rfl (hI.wf.s rfl) rfl rfl c104_1 rfl ?_
                        refine ev_putIT f_X12_taken (nx := 8) rfl (hI.wf.s rfl) rfl rfl rfl (hI.put0 (hI.wf.s rfl) rfl rfl) (hX.upI rfl) (fun g111 e111 hI hX => ?_)
                        refine ev_loc f_X12_taken (nx := 9) rfl rfl rfl rfl ?_
                        refine ev_gvI f_X12_taken (nx := 12) (w := (gi26 69 18)) rfl (hI.wf.s rfl) rfl rfl ((by rw [e111]; exact x_up2_off (Or.inr (by decide)) : g111 69 18 = gi104 69 18).trans c104_1) rfl ?_
                        refine ev_t f_X12_taken (t1 := 24) (t2 := 15) rfl rfl rfl (t_leT u94 (by decide : (0:Int) ≤ (0:Int32).toInt) (by decide)) ?_
                        refine ev_loc f_X12_taken (nx := 25) rfl rfl rfl rfl ?_
                        refine ev_loc f_X12_taken (nx := 26) rfl rfl rfl rfl ?_
                        refine ev_inV2 f_X12_taken (nx := 29) (lo2 := [(0, .ref 69), (1, .int (gi104 70 1))]) rfl rfl rfl rfl f_X12_gives (hI.wf.s rfl) rfl rfl rfl rfl rfl ?_
                        refine ev_loc f_X12_gives (nx := 1) rfl rfl rfl rfl ?_
                        refine ev_ic f_X12_gives (nx := 2) (v := 0) rfl (by decide) rfl ?_
                        refine ev_putIT f_X12_gives (nx := 5) rfl (hI.wf.s rfl) rfl rfl rfl (hI.put0 (hI.wf.s rfl) rfl rfl) (hX.upI rfl) (fun g112 e112 hI hX => ?_)
                        refine ev_loc f_X12_gives (nx := 6) rfl rfl rfl rfl ?_
                        refine ev_retK1 f_X12_gives rfl rfl rfl ?_
                        refine ev_retK1 f_X12_taken rfl rfl rfl ?_
                        exact ev_ret f_X12_river rfl rfl rfl ⟨_, _, _, rfl, hI, hX, ⟨_, rfl, (Int.le_trans (by decide : ((-1):Int) ≤ 0) l110), u110, (show ((0 ≤ ar1.toInt ∧ ar1.toInt ≤ (gi 69 10).toInt) → (g112 69 10).toInt = 0) ∧ (¬ (0 ≤ ar1.toInt ∧ ar1.toInt ≤ (gi 69 10).toInt) → (g112 69 10).toInt = (gi 69 10).toInt) ∧ (((g112 70 J0) = (gi 70 J0)) ∨ ((g112 70 3).toInt = 0 ∧ 1 ≤ (g112 70 4).toInt)) from ⟨(by have ff113 : (g112 69 10).toInt = (gi8 69 10).toInt := congrArg Int32.toInt ((by rw [e112]; exact x_up2_off (Or.inr (by decide)) : g112 69 10 = g111 69 10).trans ((by rw [e111]; exact x_up2_off (Or.inr (by decide)) : g111 69 10 = gi104 69 10).trans c104_0)); omega), (by have ff114 : (g112 69 10).toInt = (gi8 69 10).toInt := congrArg Int32.toInt ((by rw [e112]; exact x_up2_off (Or.inr (by decide)) : g112 69 10 = g111 69 10).trans ((by rw [e111]; exact x_up2_off (Or.inr (by decide)) : g111 69 10 = gi104 69 10).trans c104_0)); omega), Or.inr (by have ff115 : (g112 70 3).toInt = (gi96 70 3).toInt := congrArg Int32.toInt ((by rw [e112]; exact x_up2_off (Or.inr (by decide)) : g112 70 3 = g111 70 3).trans ((by rw [e111]; exact x_up2_off (Or.inr (by decide)) : g111 70 3 = gi104 70 3).trans c104_4)); have ff116 : (g112 70 4).toInt = (gi96 70 4).toInt := congrArg Int32.toInt ((by rw [e112]; exact x_up2_off (Or.inr (by decide)) : g112 70 4 = g111 70 4).trans ((by rw [e111]; exact x_up2_off (Or.inr (by decide)) : g111 70 4 = gi104 70 4).trans c104_5)); omega)⟩)⟩⟩
                      · have u117 : y104_3.toInt ≤ 17 := t_ltu (t_nle h108) (by decide : (18:Int32).toInt ≤ (18:Int)) rfl
                        refine ev_loc f_X12_river (nx := 125) rfl rfl rfl rfl ?_
                        refine ev_getR f_X12_river (nx := 128) rfl (hI.wf.s rfl) rfl rfl (hI.wf.r rfl) rfl rfl ?_
                        refine ev_loc f_X12_river (nx := 129) rfl rfl rfl rfl ?_
                        refine ev_loc f_X12_river (nx := 130) rfl rfl rfl rfl ?_
                        refine ev_getR f_X12_river (nx := 133) rfl (hI.wf.s rfl) rfl rfl (hI.wf.r rfl) rfl rfl ?_
                        refine ev_bp f_X12_river (nx := 135) (v := 72) rfl (by decide) rfl ?_
                        refine ev_loc f_X12_river (nx := 136) rfl rfl rfl rfl ?_
                        refine ev_addK f_X12_river (nx := 137) (c := 72) (l := 72) (u := 89) rfl (by decide) l104_3 u117 rfl rfl (by decide) (by decide) rfl (fun z118 e118 l118 u118 => ?_)
                        refine ev_laldT f_X12_river (nx := 138) rfl (hI.wf.s rfl) l118 (by decide) u118 (by decide) rfl (fun w119 e119 => ?_)
                        refine ev_lastT f_X12_river (nx := 139) rfl (hI.wf.s rfl) l104_3 (by decide) u117 (by decide) rfl (hX.upL (t_inR (p := 0) (m := 17) rfl l104_3 (by decide) u117 (by decide) (by decide))) (fun g120 e120 hX => ?_)
                        refine ev_incR f_X12_river (nx := 142) (c := 1) (l := 1) (u := 18) rfl rfl (by decide) (by decide) l104_3 u117 rfl rfl (by decide) (by decide) rfl (fun z121 e121 l121 u121 => ?_)
                        refine ev_jmp f_X12_river (nx := 118) rfl rfl rfl ?_
                        refine ev_sub (lo := [(3, .int z121), (2, .int y26_2), (0, .ref 69), (1, .int ar1)]) rfl (t_sc rfl (t_sc rfl (t_sc rfl (t_sc rfl t_sn)))) ?_
                        exact ih104 _ (by omega) gi104 g120 gr104 (z121) hI hX  (Int.le_trans (by decide : (0:Int) ≤ 1) l121) u121 c104_0 c104_1 c104_2 c104_3 c104_4 c104_5 (by have ff122 : (gi104 70 3).toInt = (gi96 70 3).toInt := congrArg Int32.toInt c104_4; omega) (by have ff123 : (gi104 70 4).toInt = (gi96 70 4).toInt := congrArg Int32.toInt c104_5; omega) rfl
                    refine ev_sub (lo := [(3, .int 0), (2, .int y26_2), (0, .ref 69), (1, .int ar1)]) rfl (t_sc rfl (t_sc rfl (t_sc rfl (t_sc rfl t_sn)))) ?_
                    exact L104 _ gi96 gl96 gr96 (0) hI hX  (by decide : (0:Int) ≤ (0:Int32).toInt) (Int.le_trans (by decide : (0:Int32).toInt ≤ (0:Int)) (by decide : (0:Int) ≤ 18)) c96_0 c96_1 rfl c96_2 rfl rfl (by omega) (by omega) rfl
                  · have u124 : y96_3.toInt ≤ 349 := t_ltu (t_nle h102) (by decide : (350:Int32).toInt ≤ (350:Int)) rfl
                    refine ev_loc f_X12_river (nx := 95) rfl rfl rfl rfl ?_
                    refine ev_getR f_X12_river (nx := 98) rfl (hI.wf.s rfl) rfl rfl (hI.wf.r rfl) rfl rfl ?_
                    refine ev_loc f_X12_river (nx := 99) rfl rfl rfl rfl ?_
                    refine ev_loc f_X12_river (nx := 100) rfl rfl rfl rfl ?_
                    refine ev_getR f_X12_river (nx := 103) rfl (hI.wf.s rfl) rfl rfl (hI.wf.r rfl) rfl rfl ?_
                    refine ev_sp f_X12_river (nx := 106) (v := 1400) rfl (by decide) rfl ?_
                    refine ev_loc f_X12_river (nx := 107) rfl rfl rfl rfl ?_
                    refine ev_addK f_X12_river (nx := 108) (c := 1400) (l := 1400) (u := 1749) rfl (by decide) l96_3 u124 rfl rfl (by decide) (by decide) rfl (fun z125 e125 l125 u125 => ?_)
                    refine ev_ialdT f_X12_river (nx := 109) rfl (hI.wf.s rfl) l125 (by decide) u125 (by decide) rfl (fun w126 e126 => ?_)
                    refine ev_iastT f_X12_river (nx := 110) rfl (hI.wf.s rfl) l96_3 (by decide) u124 (by decide) rfl (hI.astS (a := 4) (b := 0) (k := y96_3.toInt.toNat) e126 (by omega) (by omega) (by omega) (by omega) (by omega)) (hX.upI (t_inR (p := 0) (m := 349) rfl l96_3 (by decide) u124 (by decide) (by decide))) (fun g127 e127 hI hX => ?_)
                    refine ev_incR f_X12_river (nx := 113) (c := 1) (l := 1) (u := 350) rfl rfl (by decide) (by decide) l96_3 u124 rfl rfl (by decide) (by decide) rfl (fun z128 e128 l128 u128 => ?_)
                    refine ev_jmp f_X12_river (nx := 87) rfl rfl rfl ?_
                    refine ev_sub (lo := [(3, .int z128), (2, .int y26_2), (0, .ref 69), (1, .int ar1)]) rfl (t_sc rfl (t_sc rfl (t_sc rfl (t_sc rfl t_sn)))) ?_
                    exact ih96 _ (by omega) g127 gl96 gr96 (z128) hI hX  (Int.le_trans (by decide : (0:Int) ≤ 1) l128) u128 ((by rw [e127]; exact x_up2_off (Or.inl (by decide)) : g127 69 10 = gi96 69 10).trans c96_0) ((by rw [e127]; exact x_up2_off (Or.inl (by decide)) : g127 69 18 = gi96 69 18).trans c96_1) ((by rw [e127]; exact x_up2_off (Or.inr (t_neCu l96_3 u124 (by decide) (by decide))) : g127 70 1403 = gi96 70 1403).trans c96_2) (by have ff129 : (g127 70 1403).toInt = (gi19 70 1403).toInt := congrArg Int32.toInt ((by rw [e127]; exact x_up2_off (Or.inr (t_neCu l96_3 u124 (by decide) (by decide))) : g127 70 1403 = gi96 70 1403).trans c96_2); omega) (by have ff130 : (g127 70 1404).toInt = (gi96 70 1404).toInt := congrArg Int32.toInt ((by rw [e127]; exact x_up2_off (Or.inr (t_neCu l96_3 u124 (by decide) (by decide))) : g127 70 1404 = gi96 70 1404).trans rfl); omega) (by rcases t_stc e127 3 with ⟨h1, h2⟩ | ⟨h1, h2⟩ <;> rw [h2] <;> first | (have hc := t_clamp (i := y96_3) (by omega); have hd := t_clamp (i := z125) (by omega); have hx : z125.toNatClampNeg = 1403 := (by omega); rw [e126, hx]; omega) | (have hc := t_clamp (i := y96_3) (by omega); omega)) (by rcases t_stc e127 4 with ⟨h1, h2⟩ | ⟨h1, h2⟩ <;> rw [h2] <;> first | (have hc := t_clamp (i := y96_3) (by omega); have hd := t_clamp (i := z125) (by omega); have hx : z125.toNatClampNeg = 1404 := (by omega); rw [e126, hx]; omega) | (have hc := t_clamp (i := y96_3) (by omega); omega)) rfl
                refine ev_sub (lo := [(3, .int 0), (2, .int y26_2), (0, .ref 69), (1, .int ar1)]) rfl (t_sc rfl (t_sc rfl (t_sc rfl (t_sc rfl t_sn)))) ?_
                exact L96 _ gi26 gl26 gr26 (0) hI hX  (by decide : (0:Int) ≤ (0:Int32).toInt) (Int.le_trans (by decide : (0:Int32).toInt ≤ (0:Int)) (by decide : (0:Int) ≤ 350)) c26_0 rfl c26_2 (by have ff133 : (gi26 70 1403).toInt = (gi19 70 1403).toInt := congrArg Int32.toInt c26_2; omega) (by omega) (by have kf134 : (0 : Int32).toInt = 0 := (by decide); have ff135 : (gi26 70 3).toInt = (gi 70 3).toInt := congrArg Int32.toInt c26_3; omega) (by have kf136 : (0 : Int32).toInt = 0 := (by decide); have ff137 : (gi26 70 4).toInt = (gi 70 4).toInt := congrArg Int32.toInt c26_4; omega) rfl
              · have r138 : (gi26 69 18).toInt ≠ 0 := fun e => h93 (Int32.toInt_inj.mp (e.trans (by decide : (0:Int) = (0 : Int32).toInt)))
                refine ev_loc f_X12_river (nx := 146) rfl rfl rfl rfl ?_
                refine ev_loc f_X12_river (nx := 147) rfl rfl rfl rfl ?_
                refine ev_getR f_X12_river (nx := 150) rfl (hI.wf.s rfl) rfl rfl (hI.wf.r rfl) rfl rfl ?_
                refine ev_ic f_X12_river (nx := 151) (v := 1) rfl (by decide) rfl ?_
                obtain ⟨l139, u139⟩ := hI.ab (by decide +kernel : t_abr 70 1 1 0 6 = true) (Nat.le_refl _) (Nat.le_refl _)
                refine ev_ialdv f_X12_river (nx := 152) (w := (gi26 70 1)) rfl (hI.wf.s rfl) (by decide) (rfl : (1 : Int32).toNatClampNeg = 1) (by decide) rfl rfl ?_
                refine ev_inV2 f_X12_river (nx := 155) (lo2 := [(0, .ref 69), (1, .int (gi26 70 1))]) rfl rfl rfl rfl f_X12_taken (hI.wf.s rfl) rfl rfl rfl rfl rfl ?_
                refine ev_loc f_X12_taken (nx := 1) rfl rfl rfl rfl ?_
                refine ev_loc f_X12_taken (nx := 2) rfl rfl rfl rfl ?_
                refine ev_gvI f_X12_taken (nx := 5) (w := (gi26 69 18)) rfl (hI.wf.s rfl) rfl rfl rfl rfl ?_
                refine ev_putIT f_X12_taken (nx := 8) rfl (hI.wf.s rfl) rfl rfl rfl (hI.put0 (hI.wf.s rfl) rfl rfl) (hX.upI rfl) (fun g140 e140 hI hX => ?_)
                refine ev_loc f_X12_taken (nx := 9) rfl rfl rfl rfl ?_
                refine ev_gvI f_X12_taken (nx := 12) (w := (gi26 69 18)) rfl (hI.wf.s rfl) rfl rfl ((by rw [e140]; exact x_up2_off (Or.inr (by decide)) : g140 69 18 = gi26 69 18).trans rfl) rfl ?_
                refine ev_if f_X12_taken (t1 := 24) (t2 := 15) rfl rfl rfl (fun h141 => ?_) (fun h141 => ?_)
                · have u142 : (gi26 69 18).toInt ≤ 0 := t_leu h141 (by decide : (0:Int32).toInt ≤ (0:Int))
                  refine ev_loc f_X12_taken (nx := 25) rfl rfl rfl rfl ?_
                  refine ev_loc f_X12_taken (nx := 26) rfl rfl rfl rfl ?_
                  refine ev_inV2 f_X12_taken (nx := 29) (lo2 := [(0, .ref 69), (1, .int (gi26 70 1))]) rfl rfl rfl rfl f_X12_gives (hI.wf.s rfl) rfl rfl rfl rfl rfl ?_
                  refine ev_loc f_X12_gives (nx := 1) rfl rfl rfl rfl ?_
                  refine ev_ic f_X12_gives (nx := 2) (v := 0) rfl (by decide) rfl ?_
                  refine ev_putIT f_X12_gives (nx := 5) rfl (hI.wf.s rfl) rfl rfl rfl (hI.put0 (hI.wf.s rfl) rfl rfl) (hX.upI rfl) (fun g143 e143 hI hX => ?_)
                  refine ev_loc f_X12_gives (nx := 6) rfl rfl rfl rfl ?_
                  refine ev_retK1 f_X12_gives rfl rfl rfl ?_
                  refine ev_retK1 f_X12_taken rfl rfl rfl ?_
                  exact ev_ret f_X12_river rfl rfl rfl ⟨_, _, _, rfl, hI, hX, ⟨_, rfl, (Int.le_trans (by decide : ((-1):Int) ≤ 0) l139), u139, (show ((0 ≤ ar1.toInt ∧ ar1.toInt ≤ (gi 69 10).toInt) → (g143 69 10).toInt = 0) ∧ (¬ (0 ≤ ar1.toInt ∧ ar1.toInt ≤ (gi 69 10).toInt) → (g143 69 10).toInt = (gi 69 10).toInt) ∧ (((g143 70 J0) = (gi 70 J0)) ∨ ((g143 70 3).toInt = 0 ∧ 1 ≤ (g143 70 4).toInt)) from ⟨(by have ff144 : (g143 69 10).toInt = (gi8 69 10).toInt := congrArg Int32.toInt ((by rw [e143]; exact x_up2_off (Or.inr (by decide)) : g143 69 10 = g140 69 10).trans ((by rw [e140]; exact x_up2_off (Or.inr (by decide)) : g140 69 10 = gi26 69 10).trans c26_0)); omega), (by have ff145 : (g143 69 10).toInt = (gi8 69 10).toInt := congrArg Int32.toInt ((by rw [e143]; exact x_up2_off (Or.inr (by decide)) : g143 69 10 = g140 69 10).trans ((by rw [e140]; exact x_up2_off (Or.inr (by decide)) : g140 69 10 = gi26 69 10).trans c26_0)); omega), Or.inl ((by rw [e143]; exact x_up2_off (Or.inl (by decide)) : g143 70 J0 = g140 70 J0).trans ((by rw [e140]; exact x_up2_off (Or.inl (by decide)) : g140 70 J0 = gi26 70 J0).trans c26_1))⟩)⟩⟩
                · have l146 : 1 ≤ (gi26 69 18).toInt := t_ltl (t_nle h141) (by decide : (0:Int) ≤ (0:Int32).toInt) rfl
                  refine ev_loc f_X12_taken (nx := 16) rfl rfl rfl rfl ?_
                  refine ev_bp f_X12_taken (nx := 18) (v := 9) rfl (by decide) rfl ?_
                  refine ev_inV2 f_X12_taken (nx := 21) (lo2 := [(0, .ref 69), (1, .int 9)]) rfl rfl rfl rfl f_X12_refuse (hI.wf.s rfl) rfl rfl rfl rfl rfl ?_
                  refine ev_loc f_X12_refuse (nx := 1) rfl rfl rfl rfl ?_
                  refine ev_loc f_X12_refuse (nx := 2) rfl rfl rfl rfl ?_
                  refine ev_putIT f_X12_refuse (nx := 5) rfl (hI.wf.s rfl) rfl rfl rfl (hI.put0 (hI.wf.s rfl) rfl rfl) (hX.upI rfl) (fun g147 e147 hI hX => ?_)
                  refine ev_ic f_X12_refuse (nx := 6) (v := -1) rfl (by decide) rfl ?_
                  refine ev_retK1 f_X12_refuse rfl rfl rfl ?_
                  refine ev_jmp f_X12_taken (nx := 29) rfl rfl rfl ?_
                  refine ev_retK1 f_X12_taken rfl rfl rfl ?_
                  exact ev_ret f_X12_river rfl rfl rfl ⟨_, _, _, rfl, hI, hX, ⟨_, rfl, (by decide : ((-1):Int) ≤ ((-1):Int32).toInt), (Int.le_trans (by decide : ((-1):Int32).toInt ≤ ((-1):Int)) (by decide : ((-1):Int) ≤ 6)), (show ((0 ≤ ar1.toInt ∧ ar1.toInt ≤ (gi 69 10).toInt) → (g147 69 10).toInt = 0) ∧ (¬ (0 ≤ ar1.toInt ∧ ar1.toInt ≤ (gi 69 10).toInt) → (g147 69 10).toInt = (gi 69 10).toInt) ∧ (((g147 70 J0) = (gi 70 J0)) ∨ ((g147 70 3).toInt = 0 ∧ 1 ≤ (g147 70 4).toInt)) from ⟨(by have ff148 : (g147 69 10).toInt = (gi8 69 10).toInt := congrArg Int32.toInt ((by rw [e147]; exact x_up2_off (Or.inr (by decide)) : g147 69 10 = g140 69 10).trans ((by rw [e140]; exact x_up2_off (Or.inr (by decide)) : g140 69 10 = gi26 69 10).trans c26_0)); omega), (by have ff149 : (g147 69 10).toInt = (gi8 69 10).toInt := congrArg Int32.toInt ((by rw [e147]; exact x_up2_off (Or.inr (by decide)) : g147 69 10 = g140 69 10).trans ((by rw [e140]; exact x_up2_off (Or.inr (by decide)) : g140 69 10 = gi26 69 10).trans c26_0)); omega), Or.inl ((by rw [e147]; exact x_up2_off (Or.inl (by decide)) : g147 70 J0 = g140 70 J0).trans ((by rw [e140]; exact x_up2_off (Or.inl (by decide)) : g140 70 J0 = gi26 70 J0).trans c26_1))⟩)⟩⟩
            · have r150 : (gi26 69 12).toInt ≠ 0 := fun e => h91 (Int32.toInt_inj.mp (e.trans (by decide : (0:Int) = (0 : Int32).toInt)))
              have l151 : 1 ≤ (gi26 69 12).toInt := t_nel h91 l27 rfl rfl
              refine ev_loc f_X12_river (nx := 71) rfl rfl rfl rfl ?_
              refine ev_qI f_X12_river (nx := 74) (r := []) rfl rfl rfl rfl rfl rfl rfl (c_m_riverPart hI ) rfl hX rfl (fun w152 gi152 gl152 gr152 l152 u152 hI hX hC152 q152 => ?_)
              have q152 : (gi26 69 14).toInt ≤ (gi152 69 14).toInt ∧ (w152.toInt = 1 → (gi152 69 12).toInt ≠ 0 → (gi26 69 14).toInt < (gi152 69 14).toInt) ∧ (1 ≤ (gi26 70 1404).toInt → 1 ≤ (gi152 70 1404).toInt) := q152
              obtain ⟨l153, u153⟩ := hI.b (hI.wf.s (k := 69) rfl) (t_bdK rfl : t_bd 11 12 = some (0, 4))
              obtain ⟨l154, u154⟩ := hI.b (hI.wf.s (k := 69) rfl) (t_bdK rfl : t_bd 11 14 = some (0, 900))
              obtain ⟨l155, u155⟩ := hI.ab (by decide +kernel : t_abr 70 1404 1404 0 20 = true) (Nat.le_refl _) (Nat.le_refl _)
              refine ev_loc f_X12_river (nx := 75) (lo' := [(2, .int w152), (0, .ref 69), (1, .int ar1)]) rfl rfl rfl rfl ?_
              refine ev_jmp f_X12_river (nx := 59) rfl rfl rfl ?_
              refine ev_sub (lo := [(2, .int w152), (0, .ref 69), (1, .int ar1)]) rfl (t_sc rfl (t_sc rfl (t_sc rfl t_sn))) ?_
              exact ih26 _ (by omega) gi152 gl152 gr152 (w152) hI hX  l152 u152 ((hC152.1 69 10 rfl).1.trans c26_0) ((hC152.1 70 J0 (t_nG (lo := 0) (hi := 350) rfl (by omega) (by omega))).1.trans c26_1) ((hC152.1 70 1403 rfl).1.trans c26_2) ((hC152.1 70 3 rfl).1.trans c26_3) ((hC152.1 70 4 rfl).1.trans c26_4) (by have ff156 : (gi152 70 1403).toInt = (gi19 70 1403).toInt := congrArg Int32.toInt ((hC152.1 70 1403 rfl).1.trans c26_2); omega) (by omega) rfl
        refine ev_sub (lo := [(2, .int 1), (0, .ref 69), (1, .int ar1)]) rfl (t_sc rfl (t_sc rfl (t_sc rfl t_sn))) ?_
        exact L26 _ g25 gl19 gr19 (1) hI hX  (Int.le_trans (by decide : (0:Int) ≤ 1) (by decide : (1:Int) ≤ (1:Int32).toInt)) (by decide : (1:Int32).toInt ≤ (1:Int)) ((by rw [e25]; exact x_up2_off (Or.inr (by decide)) : g25 69 10 = g24 69 10).trans ((by rw [e24]; exact x_up2_off (Or.inl (by decide)) : g24 69 10 = gi19 69 10).trans c19_0)) ((by rw [e25]; exact x_up2_off (Or.inl (by decide)) : g25 70 J0 = g24 70 J0).trans ((by rw [e24]; exact x_up2_off (Or.inr (by have : (1404 : Int32).toNatClampNeg = 1404 := rfl; omega)) : g24 70 J0 = gi19 70 J0).trans c19_3)) ((by rw [e25]; exact x_up2_off (Or.inr (by decide)) : g25 70 1403 = g24 70 1403).trans ((by rw [e24]; exact x_up2_off (Or.inr (by decide)) : g24 70 1403 = gi19 70 1403).trans rfl)) ((by rw [e25]; exact x_up2_off (Or.inr (by decide)) : g25 70 3 = g24 70 3).trans ((by rw [e24]; exact x_up2_off (Or.inr (by decide)) : g24 70 3 = gi19 70 3).trans c19_4)) ((by rw [e25]; exact x_up2_off (Or.inr (by decide)) : g25 70 4 = g24 70 4).trans ((by rw [e24]; exact x_up2_off (Or.inr (by decide)) : g24 70 4 = gi19 70 4).trans c19_5)) (by have ff157 : (g25 70 1403).toInt = (gi19 70 1403).toInt := congrArg Int32.toInt ((by rw [e25]; exact x_up2_off (Or.inr (by decide)) : g25 70 1403 = g24 70 1403).trans ((by rw [e24]; exact x_up2_off (Or.inr (by decide)) : g24 70 1403 = gi19 70 1403).trans rfl)); omega) (by have ff158 : (g25 70 1404).toInt = 5 := (congrArg Int32.toInt ((by rw [e25]; exact x_up2_off (Or.inr (by decide)) : g25 70 1404 = g24 70 1404).trans (by rw [e24]; exact x_up2_at _ _ _ _ : g24 70 1404 = 5))).trans (by decide); omega) rfl
      · have u159 : y19_2.toInt ≤ 349 := t_ltu (t_nle h22) (by decide : (350:Int32).toInt ≤ (350:Int)) rfl
        refine ev_loc f_X12_river (nx := 27) rfl rfl rfl rfl ?_
        refine ev_getR f_X12_river (nx := 30) rfl (hI.wf.s rfl) rfl rfl (hI.wf.r rfl) rfl rfl ?_
        refine ev_sp f_X12_river (nx := 33) (v := 1400) rfl (by decide) rfl ?_
        refine ev_loc f_X12_river (nx := 34) rfl rfl rfl rfl ?_
        refine ev_addK f_X12_river (nx := 35) (c := 1400) (l := 1400) (u := 1749) rfl (by decide) l19_2 u159 rfl rfl (by decide) (by decide) rfl (fun z160 e160 l160 u160 => ?_)
        refine ev_ic f_X12_river (nx := 36) (v := 0) rfl (by decide) rfl ?_
        refine ev_iastT f_X12_river (nx := 37) rfl (hI.wf.s rfl) l160 (by decide) u160 (by decide) rfl (hI.astL (hI.wf.s rfl) (by decide +kernel : t_abw 70 1400 1749 0 0 = true) (t_cl1 l160 (by decide)) (t_cl2 l160 u160 (by decide) (by decide)) (by decide : (0:Int) ≤ (0:Int32).toInt) (by decide : (0:Int32).toInt ≤ (0:Int)) rfl) (hX.upI (t_inR (p := 1400) (m := 1749) rfl l160 (by decide) u160 (by decide) (by decide))) (fun g161 e161 hI hX => ?_)
        refine ev_incR f_X12_river (nx := 40) (c := 1) (l := 1) (u := 350) rfl rfl (by decide) (by decide) l19_2 u159 rfl rfl (by decide) (by decide) rfl (fun z162 e162 l162 u162 => ?_)
        refine ev_jmp f_X12_river (nx := 19) rfl rfl rfl ?_
        refine ev_sub (lo := [(2, .int z162), (0, .ref 69), (1, .int ar1)]) rfl (t_sc rfl (t_sc rfl (t_sc rfl t_sn))) ?_
        exact ih19 _ (by omega) g161 gl19 gr19 (z162) hI hX  (Int.le_trans (by decide : (0:Int) ≤ 1) l162) u162 ((by rw [e161]; exact x_up2_off (Or.inl (by decide)) : g161 69 10 = gi19 69 10).trans c19_0) ((by rw [e161]; exact x_up2_off (Or.inl (by decide)) : g161 69 12 = gi19 69 12).trans c19_1) ((by rw [e161]; exact x_up2_off (Or.inl (by decide)) : g161 69 14 = gi19 69 14).trans c19_2) ((by rw [e161]; exact x_up2_off (Or.inr (by have := t_cl1 (p := 1400) l160 (by decide); omega)) : g161 70 J0 = gi19 70 J0).trans c19_3) ((by rw [e161]; exact x_up2_off (Or.inr (t_neCl l160 (by decide))) : g161 70 3 = gi19 70 3).trans c19_4) ((by rw [e161]; exact x_up2_off (Or.inr (t_neCl l160 (by decide))) : g161 70 4 = gi19 70 4).trans c19_5) (by rcases t_stc e161 1403 with ⟨h1, h2⟩ | ⟨h1, h2⟩ <;> rw [h2] <;> first | (intro _; decide) | (have hc := t_clamp (i := z160) (by omega); omega)) rfl
    refine ev_sub (lo := [(2, .int 0), (0, .ref 69), (1, .int ar1)]) rfl (t_sc rfl (t_sc rfl (t_sc rfl t_sn))) ?_
    exact L19 _ gi8 gl8 gr8 (0) hI hX  (by decide : (0:Int) ≤ (0:Int32).toInt) (Int.le_trans (by decide : (0:Int32).toInt ≤ (0:Int)) (by decide : (0:Int) ≤ 350)) rfl rfl rfl ((hC8.1 70 J0 (t_nG (lo := 0) (hi := 350) rfl (by omega) (by omega))).1.trans rfl) ((hC8.1 70 3 rfl).1.trans rfl) ((hC8.1 70 4 rfl).1.trans rfl) (by have kf163 : (0 : Int32).toInt = 0 := (by decide); have ff164 : (gi8 70 1403).toInt = (gi 70 1403).toInt := congrArg Int32.toInt ((hC8.1 70 1403 rfl).1.trans rfl); omega) rfl
noncomputable def wl_m_beatsOf : List (Nat × Nat) := []
noncomputable def Q_m_beatsOf (gi : Nat → Nat → Int32) (gl : Nat → Nat → Int64) (gr : Nat → Nat → Value) (ar1 : Int32) (ar2 : Int32) : Int64 → (Nat → Nat → Int32) → (Nat → Nat → Int64) → (Nat → Nat → Value) → Prop := fun (v : Int64) (gi2 : Nat → Nat → Int32) (gl2 : Nat → Nat → Int64) (gr2 : Nat → Nat → Value) => 0 ≤ v.toInt ∧ v.toInt < 16777216
theorem c_m_beatsOf {X : x_Ext} {d : Nat} {sh : List (Nat ⊕ (Nat × Nat))} {gi : Nat → Nat → Int32} {gl : Nat → Nat → Int64} {gr : Nat → Nat → Value} (hI : t_I sh gi gr) (ar1 : Int32) (l_a1 : 11 ≤ ar1.toInt) (u_a1 : ar1.toInt ≤ 1752) (ar2 : Int32) (u_a2 : ar2.toInt ≤ 6) : x_Me X (d + 1) n_X12_beatsOf [.ref 69, .int ar1, .int ar2] (sh, gi, gl, gr) (t_PL wl_m_beatsOf sh gi gl gr (Q_m_beatsOf gi gl gr ar1 ar2)) := by
  have hX : t_X wl_m_beatsOf sh gi gl gr gi gl gr := t_X.rf
  refine me_i f_X12_beatsOf (hI.wf.s rfl) rfl rfl rfl ?_
  refine ev_lc f_X12_beatsOf (nx := 1) (v := 0) rfl (by decide) rfl ?_
  refine ev_loc f_X12_beatsOf (nx := 2) (lo' := [(3, .long 0), (0, .ref 69), (1, .int ar1), (2, .int ar2)]) rfl rfl rfl rfl ?_
  refine ev_ic f_X12_beatsOf (nx := 3) (v := 0) rfl (by decide) rfl ?_
  refine ev_loc f_X12_beatsOf (nx := 5) (lo' := [(5, .int 0), (3, .long 0), (0, .ref 69), (1, .int ar1), (2, .int ar2)]) rfl rfl rfl rfl ?_
  refine ev_ic f_X12_beatsOf (nx := 6) (v := 0) rfl (by decide) rfl ?_
  refine ev_loc f_X12_beatsOf (nx := 8) (lo' := [(6, .int 0), (5, .int 0), (3, .long 0), (0, .ref 69), (1, .int ar1), (2, .int ar2)]) rfl rfl rfl rfl ?_
  have L1 : ∀ (m1 : Nat) (gi1 : Nat → Nat → Int32) (gl1 : Nat → Nat → Int64) (gr1 : Nat → Nat → Value) (y1_6 : Int32) (y1_5 : Int32) (y1_3 : Int64), t_I sh gi1 gr1 → t_X wl_m_beatsOf sh gi gl gr gi1 gl1 gr1 → 0 ≤ y1_6.toInt → y1_6.toInt ≤ 6 → 0 ≤ y1_5.toInt → y1_5.toInt ≤ 28 → 0 ≤ y1_3.toInt ∧ y1_3.toInt < 16777216 → y1_5.toInt ≤ 4 * y1_6.toInt → (6 - y1_6.toInt).toNat = m1 → x_Ev X (d + 1) n_X12_beatsOf 8 [(6, .int y1_6), (5, .int y1_5), (3, .long y1_3), (0, .ref 69), (1, .int ar1), (2, .int ar2)] [] (sh, gi1, gl1, gr1) (t_PL wl_m_beatsOf sh gi gl gr (Q_m_beatsOf gi gl gr ar1 ar2)) := by
    intro m1
    induction m1 using Nat.strongRecOn with
    | _ m1 ih1 =>
    intro gi1 gl1 gr1 y1_6 y1_5 y1_3 hI hX l1_6 u1_6 l1_5 u1_5 j1_0 j1_1 hm1
    refine ev_loc f_X12_beatsOf (nx := 10) rfl rfl rfl rfl ?_
    refine ev_loc f_X12_beatsOf (nx := 11) rfl rfl rfl rfl ?_
    refine ev_if f_X12_beatsOf (t1 := 76) (t2 := 14) rfl rfl rfl (fun h2 => ?_) (fun h2 => ?_)
    · have r3 : ar2.toInt ≤ y1_6.toInt := Int32.le_iff_toInt_le.mp h2
      refine ev_loc f_X12_beatsOf (nx := 77) rfl rfl rfl rfl ?_
      exact ev_ret f_X12_beatsOf rfl rfl rfl ⟨_, _, _, rfl, hI, hX, ⟨_, rfl, (show 0 ≤ y1_3.toInt ∧ y1_3.toInt < 16777216 from (by omega))⟩⟩
    · have r4 : y1_6.toInt < ar2.toInt := Int32.lt_iff_toInt_lt.mp (t_nle h2)
      have u5 : y1_6.toInt ≤ 5 := t_ltu (t_nle h2) u_a2 rfl
      have l6 : 1 ≤ ar2.toInt := t_ltl (t_nle h2) l1_6 rfl
      refine ev_loc f_X12_beatsOf (nx := 15) rfl rfl rfl rfl ?_
      refine ev_getR f_X12_beatsOf (nx := 18) rfl (hI.wf.s rfl) rfl rfl (hI.wf.r rfl) rfl rfl ?_
      refine ev_loc f_X12_beatsOf (nx := 19) rfl rfl rfl rfl ?_
      refine ev_loc f_X12_beatsOf (nx := 21) rfl rfl rfl rfl ?_
      refine ev_addR f_X12_beatsOf (nx := 22) (l := 11) (u := 1757) rfl l_a1 u_a1 l1_6 u5 rfl rfl (by decide) (by decide) rfl (fun z7 e7 l7 u7 => ?_)
      refine ev_ialdT f_X12_beatsOf (nx := 23) rfl (hI.wf.s rfl) l7 (by decide) u7 (by decide) rfl (fun w8 e8 => ?_)
      refine ev_bp f_X12_beatsOf (nx := 25) (v := 108) rfl (by decide) rfl ?_
      refine ev_if f_X12_beatsOf (t1 := 28) (t2 := 32) rfl rfl rfl (fun h9 => ?_) (fun h9 => ?_)
      · have u10 : w8.toInt ≤ 108 := t_equ h9 (by decide : (108:Int32).toInt ≤ (108:Int))
        have l11 : 108 ≤ w8.toInt := t_eql h9 (by decide : (108:Int) ≤ (108:Int32).toInt)
        refine ev_ic f_X12_beatsOf (nx := 29) (v := 3) rfl (by decide) rfl ?_
        refine ev_jmp f_X12_beatsOf (nx := 33) rfl rfl rfl ?_
        refine ev_loc f_X12_beatsOf (nx := 35) (lo' := [(7, .int 3), (6, .int y1_6), (5, .int y1_5), (3, .long y1_3), (0, .ref 69), (1, .int ar1), (2, .int ar2)]) rfl rfl rfl rfl ?_
        refine ev_ic f_X12_beatsOf (nx := 36) (v := 0) rfl (by decide) rfl ?_
        refine ev_loc f_X12_beatsOf (nx := 38) (lo' := [(8, .int 0), (7, .int 3), (6, .int y1_6), (5, .int y1_5), (3, .long y1_3), (0, .ref 69), (1, .int ar1), (2, .int ar2)]) rfl rfl rfl rfl ?_
        have L12 : ∀ (m12 : Nat) (gi12 : Nat → Nat → Int32) (gl12 : Nat → Nat → Int64) (gr12 : Nat → Nat → Value) (y12_8 : Int32) (y12_7 : Int32) (y12_3 : Int64), t_I sh gi12 gr12 → t_X wl_m_beatsOf sh gi gl gr gi12 gl12 gr12 → 0 ≤ y12_8.toInt → y12_8.toInt ≤ 3 → 1 ≤ y12_7.toInt → y12_7.toInt ≤ 3 → 0 ≤ y12_3.toInt ∧ y12_3.toInt < 16777216 → (3 - y12_8.toInt).toNat = m12 → x_Ev X (d + 1) n_X12_beatsOf 38 [(8, .int y12_8), (7, .int y12_7), (6, .int y1_6), (5, .int y1_5), (3, .long y12_3), (0, .ref 69), (1, .int ar1), (2, .int ar2)] [] (sh, gi12, gl12, gr12) (t_PL wl_m_beatsOf sh gi gl gr (Q_m_beatsOf gi gl gr ar1 ar2)) := by
          intro m12
          induction m12 using Nat.strongRecOn with
          | _ m12 ih12 =>
          intro gi12 gl12 gr12 y12_8 y12_7 y12_3 hI hX l12_8 u12_8 l12_7 u12_7 j12_0 hm12
          refine ev_loc f_X12_beatsOf (nx := 40) rfl rfl rfl rfl ?_
          refine ev_loc f_X12_beatsOf (nx := 42) rfl rfl rfl rfl ?_
          refine ev_if f_X12_beatsOf (t1 := 61) (t2 := 45) rfl rfl rfl (fun h13 => ?_) (fun h13 => ?_)
          · have r14 : y12_7.toInt ≤ y12_8.toInt := Int32.le_iff_toInt_le.mp h13
            have l15 : 1 ≤ y12_8.toInt := t_lel h13 l12_7
            refine ev_loc f_X12_beatsOf (nx := 63) rfl rfl rfl rfl ?_
            refine ev_loc f_X12_beatsOf (nx := 65) rfl rfl rfl rfl ?_
            refine ev_ic f_X12_beatsOf (nx := 66) (v := 1) rfl (by decide) rfl ?_
            refine ev_addC f_X12_beatsOf (nx := 67) (c := 1) (l := 2) (u := 4) rfl (by decide) l12_7 u12_7 rfl rfl (by decide) (by decide) rfl (fun z16 e16 l16 u16 => ?_)
            refine ev_addR f_X12_beatsOf (nx := 68) (l := 2) (u := 32) rfl l1_5 u1_5 l16 u16 rfl rfl (by decide) (by decide) rfl (fun z17 e17 l17 u17 => ?_)
            refine ev_loc f_X12_beatsOf (nx := 70) (lo' := [(5, .int z17), (8, .int y12_8), (7, .int y12_7), (6, .int y1_6), (3, .long y12_3), (0, .ref 69), (1, .int ar1), (2, .int ar2)]) rfl rfl rfl rfl ?_
            refine ev_incR f_X12_beatsOf (nx := 73) (c := 1) (l := 1) (u := 6) rfl rfl (by decide) (by decide) l1_6 u5 rfl rfl (by decide) (by decide) rfl (fun z18 e18 l18 u18 => ?_)
            refine ev_jmp f_X12_beatsOf (nx := 8) rfl rfl rfl ?_
            refine ev_sub (lo := [(6, .int z18), (5, .int z17), (3, .long y12_3), (0, .ref 69), (1, .int ar1), (2, .int ar2)]) rfl (t_sc rfl (t_sc rfl (t_sc rfl (t_sc rfl (t_sc rfl (t_sc rfl t_sn)))))) ?_
            exact ih1 _ (by omega) gi12 gl12 gr12 (z18) (z17) (y12_3) hI hX  (Int.le_trans (by decide : (0:Int) ≤ 1) l18) u18 (Int.le_trans (by decide : (0:Int) ≤ 2) l17) (by omega : z17.toInt ≤ (28:Int)) (by omega) (by omega) rfl
          · have r19 : y12_8.toInt < y12_7.toInt := Int32.lt_iff_toInt_lt.mp (t_nle h13)
            have u20 : y12_8.toInt ≤ 2 := t_ltu (t_nle h13) u12_7 rfl
            refine ev_loc f_X12_beatsOf (nx := 46) rfl rfl rfl rfl ?_
            refine ev_lc f_X12_beatsOf (nx := 47) (v := 1) rfl (by decide) rfl ?_
            refine ev_loc f_X12_beatsOf (nx := 49) rfl rfl rfl rfl ?_
            refine ev_loc f_X12_beatsOf (nx := 51) rfl rfl rfl rfl ?_
            refine ev_addR f_X12_beatsOf (nx := 52) (l := 0) (u := 30) rfl l1_5 u1_5 l12_8 u20 rfl rfl (by decide) (by decide) rfl (fun z21 e21 l21 u21 => ?_)
            refine ev_anyLE f_X12_beatsOf (nx := 53) rfl rfl rfl rfl (fun z22 e22 => ?_)
            refine ev_anyLE f_X12_beatsOf (nx := 54) rfl rfl rfl rfl (fun z23 e23 => ?_)
            refine ev_loc f_X12_beatsOf (nx := 55) (lo' := [(3, .long z23), (8, .int y12_8), (7, .int y12_7), (6, .int y1_6), (5, .int y1_5), (0, .ref 69), (1, .int ar1), (2, .int ar2)]) rfl rfl rfl rfl ?_
            refine ev_incR f_X12_beatsOf (nx := 58) (c := 1) (l := 1) (u := 3) rfl rfl (by decide) (by decide) l12_8 u20 rfl rfl (by decide) (by decide) rfl (fun z24 e24 l24 u24 => ?_)
            refine ev_jmp f_X12_beatsOf (nx := 38) rfl rfl rfl ?_
            refine ev_sub (lo := [(8, .int z24), (7, .int y12_7), (6, .int y1_6), (5, .int y1_5), (3, .long z23), (0, .ref 69), (1, .int ar1), (2, .int ar2)]) rfl (t_sc rfl (t_sc rfl (t_sc rfl (t_sc rfl (t_sc rfl (t_sc rfl (t_sc rfl (t_sc rfl t_sn)))))))) ?_
            exact ih12 _ (by omega) gi12 gl12 gr12 (z24) (y12_7) (z23) hI hX  (Int.le_trans (by decide : (0:Int) ≤ 1) l24) u24 l12_7 u12_7 (t_lor1 e22 e23 (by omega) (by omega) (by omega)) rfl
        refine ev_sub (lo := [(8, .int 0), (7, .int 3), (6, .int y1_6), (5, .int y1_5), (3, .long y1_3), (0, .ref 69), (1, .int ar1), (2, .int ar2)]) rfl (t_sc rfl (t_sc rfl (t_sc rfl (t_sc rfl (t_sc rfl (t_sc rfl (t_sc rfl (t_sc rfl t_sn)))))))) ?_
        exact L12 _ gi1 gl1 gr1 (0) (3) (y1_3) hI hX  (by decide : (0:Int) ≤ (0:Int32).toInt) (Int.le_trans (by decide : (0:Int32).toInt ≤ (0:Int)) (by decide : (0:Int) ≤ 3)) (Int.le_trans (by decide : (1:Int) ≤ 3) (by decide : (3:Int) ≤ (3:Int32).toInt)) (by decide : (3:Int32).toInt ≤ (3:Int)) (by omega) rfl
      · have r25 : w8.toInt ≠ 108 := fun e => h9 (Int32.toInt_inj.mp (e.trans (by decide : (108:Int) = (108 : Int32).toInt)))
        refine ev_ic f_X12_beatsOf (nx := 33) (v := 1) rfl (by decide) rfl ?_
        refine ev_loc f_X12_beatsOf (nx := 35) (lo' := [(7, .int 1), (6, .int y1_6), (5, .int y1_5), (3, .long y1_3), (0, .ref 69), (1, .int ar1), (2, .int ar2)]) rfl rfl rfl rfl ?_
        refine ev_ic f_X12_beatsOf (nx := 36) (v := 0) rfl (by decide) rfl ?_
        refine ev_loc f_X12_beatsOf (nx := 38) (lo' := [(8, .int 0), (7, .int 1), (6, .int y1_6), (5, .int y1_5), (3, .long y1_3), (0, .ref 69), (1, .int ar1), (2, .int ar2)]) rfl rfl rfl rfl ?_
        have L26 : ∀ (m26 : Nat) (gi26 : Nat → Nat → Int32) (gl26 : Nat → Nat → Int64) (gr26 : Nat → Nat → Value) (y26_8 : Int32) (y26_7 : Int32) (y26_3 : Int64), t_I sh gi26 gr26 → t_X wl_m_beatsOf sh gi gl gr gi26 gl26 gr26 → 0 ≤ y26_8.toInt → y26_8.toInt ≤ 3 → 1 ≤ y26_7.toInt → y26_7.toInt ≤ 3 → 0 ≤ y26_3.toInt ∧ y26_3.toInt < 16777216 → (3 - y26_8.toInt).toNat = m26 → x_Ev X (d + 1) n_X12_beatsOf 38 [(8, .int y26_8), (7, .int y26_7), (6, .int y1_6), (5, .int y1_5), (3, .long y26_3), (0, .ref 69), (1, .int ar1), (2, .int ar2)] [] (sh, gi26, gl26, gr26) (t_PL wl_m_beatsOf sh gi gl gr (Q_m_beatsOf gi gl gr ar1 ar2)) := by
          intro m26
          induction m26 using Nat.strongRecOn with
          | _ m26 ih26 =>
          intro gi26 gl26 gr26 y26_8 y26_7 y26_3 hI hX l26_8 u26_8 l26_7 u26_7 j26_0 hm26
          refine ev_loc f_X12_beatsOf (nx := 40) rfl rfl rfl rfl ?_
          refine ev_loc f_X12_beatsOf (nx := 42) rfl rfl rfl rfl ?_
          refine ev_if f_X12_beatsOf (t1 := 61) (t2 := 45) rfl rfl rfl (fun h27 => ?_) (fun h27 => ?_)
          · have r28 : y26_7.toInt ≤ y26_8.toInt := Int32.le_iff_toInt_le.mp h27
            have l29 : 1 ≤ y26_8.toInt := t_lel h27 l26_7
            refine ev_loc f_X12_beatsOf (nx := 63) rfl rfl rfl rfl ?_
            refine ev_loc f_X12_beatsOf (nx := 65) rfl rfl rfl rfl ?_
            refine ev_ic f_X12_beatsOf (nx := 66) (v := 1) rfl (by decide) rfl ?_
            refine ev_addC f_X12_beatsOf (nx := 67) (c := 1) (l := 2) (u := 4) rfl (by decide) l26_7 u26_7 rfl rfl (by decide) (by decide) rfl (fun z30 e30 l30 u30 => ?_)
            refine ev_addR f_X12_beatsOf (nx := 68) (l := 2) (u := 32) rfl l1_5 u1_5 l30 u30 rfl rfl (by decide) (by decide) rfl (fun z31 e31 l31 u31 => ?_)
            refine ev_loc f_X12_beatsOf (nx := 70) (lo' := [(5, .int z31), (8, .int y26_8), (7, .int y26_7), (6, .int y1_6), (3, .long y26_3), (0, .ref 69), (1, .int ar1), (2, .int ar2)]) rfl rfl rfl rfl ?_
            refine ev_incR f_X12_beatsOf (nx := 73) (c := 1) (l := 1) (u := 6) rfl rfl (by decide) (by decide) l1_6 u5 rfl rfl (by decide) (by decide) rfl (fun z32 e32 l32 u32 => ?_)
            refine ev_jmp f_X12_beatsOf (nx := 8) rfl rfl rfl ?_
            refine ev_sub (lo := [(6, .int z32), (5, .int z31), (3, .long y26_3), (0, .ref 69), (1, .int ar1), (2, .int ar2)]) rfl (t_sc rfl (t_sc rfl (t_sc rfl (t_sc rfl (t_sc rfl (t_sc rfl t_sn)))))) ?_
            exact ih1 _ (by omega) gi26 gl26 gr26 (z32) (z31) (y26_3) hI hX  (Int.le_trans (by decide : (0:Int) ≤ 1) l32) u32 (Int.le_trans (by decide : (0:Int) ≤ 2) l31) (by omega : z31.toInt ≤ (28:Int)) (by omega) (by omega) rfl
          · have r33 : y26_8.toInt < y26_7.toInt := Int32.lt_iff_toInt_lt.mp (t_nle h27)
            have u34 : y26_8.toInt ≤ 2 := t_ltu (t_nle h27) u26_7 rfl
            refine ev_loc f_X12_beatsOf (nx := 46) rfl rfl rfl rfl ?_
            refine ev_lc f_X12_beatsOf (nx := 47) (v := 1) rfl (by decide) rfl ?_
            refine ev_loc f_X12_beatsOf (nx := 49) rfl rfl rfl rfl ?_
            refine ev_loc f_X12_beatsOf (nx := 51) rfl rfl rfl rfl ?_
            refine ev_addR f_X12_beatsOf (nx := 52) (l := 0) (u := 30) rfl l1_5 u1_5 l26_8 u34 rfl rfl (by decide) (by decide) rfl (fun z35 e35 l35 u35 => ?_)
            refine ev_anyLE f_X12_beatsOf (nx := 53) rfl rfl rfl rfl (fun z36 e36 => ?_)
            refine ev_anyLE f_X12_beatsOf (nx := 54) rfl rfl rfl rfl (fun z37 e37 => ?_)
            refine ev_loc f_X12_beatsOf (nx := 55) (lo' := [(3, .long z37), (8, .int y26_8), (7, .int y26_7), (6, .int y1_6), (5, .int y1_5), (0, .ref 69), (1, .int ar1), (2, .int ar2)]) rfl rfl rfl rfl ?_
            refine ev_incR f_X12_beatsOf (nx := 58) (c := 1) (l := 1) (u := 3) rfl rfl (by decide) (by decide) l26_8 u34 rfl rfl (by decide) (by decide) rfl (fun z38 e38 l38 u38 => ?_)
            refine ev_jmp f_X12_beatsOf (nx := 38) rfl rfl rfl ?_
            refine ev_sub (lo := [(8, .int z38), (7, .int y26_7), (6, .int y1_6), (5, .int y1_5), (3, .long z37), (0, .ref 69), (1, .int ar1), (2, .int ar2)]) rfl (t_sc rfl (t_sc rfl (t_sc rfl (t_sc rfl (t_sc rfl (t_sc rfl (t_sc rfl (t_sc rfl t_sn)))))))) ?_
            exact ih26 _ (by omega) gi26 gl26 gr26 (z38) (y26_7) (z37) hI hX  (Int.le_trans (by decide : (0:Int) ≤ 1) l38) u38 l26_7 u26_7 (t_lor1 e36 e37 (by omega) (by omega) (by omega)) rfl
        refine ev_sub (lo := [(8, .int 0), (7, .int 1), (6, .int y1_6), (5, .int y1_5), (3, .long y1_3), (0, .ref 69), (1, .int ar1), (2, .int ar2)]) rfl (t_sc rfl (t_sc rfl (t_sc rfl (t_sc rfl (t_sc rfl (t_sc rfl (t_sc rfl (t_sc rfl t_sn)))))))) ?_
        exact L26 _ gi1 gl1 gr1 (0) (1) (y1_3) hI hX  (by decide : (0:Int) ≤ (0:Int32).toInt) (Int.le_trans (by decide : (0:Int32).toInt ≤ (0:Int)) (by decide : (0:Int) ≤ 3)) (by decide : (1:Int) ≤ (1:Int32).toInt) (Int.le_trans (by decide : (1:Int32).toInt ≤ (1:Int)) (by decide : (1:Int) ≤ 3)) (by omega) rfl
  refine ev_sub (lo := [(6, .int 0), (5, .int 0), (3, .long 0), (0, .ref 69), (1, .int ar1), (2, .int ar2)]) rfl (t_sc rfl (t_sc rfl (t_sc rfl (t_sc rfl (t_sc rfl (t_sc rfl t_sn)))))) ?_
  exact L1 _ gi gl gr (0) (0) (0) hI hX  (by decide : (0:Int) ≤ (0:Int32).toInt) (Int.le_trans (by decide : (0:Int32).toInt ≤ (0:Int)) (by decide : (0:Int) ≤ 6)) (by decide : (0:Int) ≤ (0:Int32).toInt) (Int.le_trans (by decide : (0:Int32).toInt ≤ (0:Int)) (by decide : (0:Int) ≤ 28)) (by decide) (by have kf39 : (0 : Int32).toInt = 0 := (by decide); omega) rfl
noncomputable def wl_m_heardOf : List (Nat × Nat) := []
noncomputable def Q_m_heardOf (gi : Nat → Nat → Int32) (gl : Nat → Nat → Int64) (gr : Nat → Nat → Value) (ar1 : Int32) : Int64 → (Nat → Nat → Int32) → (Nat → Nat → Int64) → (Nat → Nat → Value) → Prop := fun (v : Int64) (gi2 : Nat → Nat → Int32) (gl2 : Nat → Nat → Int64) (gr2 : Nat → Nat → Value) => 0 ≤ v.toInt ∧ v.toInt < 8589934592
theorem c_m_heardOf {X : x_Ext} {d : Nat} {sh : List (Nat ⊕ (Nat × Nat))} {gi : Nat → Nat → Int32} {gl : Nat → Nat → Int64} {gr : Nat → Nat → Value} (hI : t_I sh gi gr) (ar1 : Int32) (l_a1 : 0 ≤ ar1.toInt) (u_a1 : ar1.toInt ≤ 5) : x_Me X (d + 3) n_X12_heardOf [.ref 69, .int ar1] (sh, gi, gl, gr) (t_PL wl_m_heardOf sh gi gl gr (Q_m_heardOf gi gl gr ar1)) := by
  have hX : t_X wl_m_heardOf sh gi gl gr gi gl gr := t_X.rf
  refine me_i f_X12_heardOf (hI.wf.s rfl) rfl rfl rfl ?_
  refine ev_loc f_X12_heardOf (nx := 1) rfl rfl rfl rfl ?_
  refine ev_loc f_X12_heardOf (nx := 2) rfl rfl rfl rfl ?_
  refine ev_inV2 f_X12_heardOf (nx := 5) (lo2 := [(0, .ref 69), (1, .int ar1)]) rfl rfl rfl rfl f_X12_soundOf (hI.wf.s rfl) rfl rfl rfl rfl rfl ?_
  refine ev_loc f_X12_soundOf (nx := 1) rfl rfl rfl rfl ?_
  refine ev_bp f_X12_soundOf (nx := 3) (v := 10) rfl (by decide) rfl ?_
  refine ev_bp f_X12_soundOf (nx := 5) (v := 7) rfl (by decide) rfl ?_
  refine ev_loc f_X12_soundOf (nx := 6) rfl rfl rfl rfl ?_
  refine ev_mulL f_X12_soundOf (nx := 7) (c := 7) (l := 0) (u := 35) rfl (by decide) (by decide) l_a1 u_a1 rfl rfl (by decide) (by decide) rfl (fun z1 e1 l1 u1 => ?_)
  refine ev_addK f_X12_soundOf (nx := 8) (c := 10) (l := 10) (u := 45) rfl (by decide) l1 u1 rfl rfl (by decide) (by decide) rfl (fun z2 e2 l2 u2 => ?_)
  refine ev_ic f_X12_soundOf (nx := 9) (v := 1) rfl (by decide) rfl ?_
  refine ev_addC f_X12_soundOf (nx := 10) (c := 1) (l := 11) (u := 46) rfl (by decide) l2 u2 rfl rfl (by decide) (by decide) rfl (fun z3 e3 l3 u3 => ?_)
  refine ev_loc f_X12_soundOf (nx := 11) rfl rfl rfl rfl ?_
  refine ev_getR f_X12_soundOf (nx := 14) rfl (hI.wf.s rfl) rfl rfl (hI.wf.r rfl) rfl rfl ?_
  refine ev_bp f_X12_soundOf (nx := 16) (v := 10) rfl (by decide) rfl ?_
  refine ev_bp f_X12_soundOf (nx := 18) (v := 7) rfl (by decide) rfl ?_
  refine ev_loc f_X12_soundOf (nx := 19) rfl rfl rfl rfl ?_
  refine ev_mulL f_X12_soundOf (nx := 20) (c := 7) (l := 0) (u := 35) rfl (by decide) (by decide) l_a1 u_a1 rfl rfl (by decide) (by decide) rfl (fun z4 e4 l4 u4 => ?_)
  refine ev_addK f_X12_soundOf (nx := 21) (c := 10) (l := 10) (u := 45) rfl (by decide) l4 u4 rfl rfl (by decide) (by decide) rfl (fun z5 e5 l5 u5 => ?_)
  refine ev_ialdT f_X12_soundOf (nx := 22) rfl (hI.wf.s rfl) l5 (by decide) u5 (by decide) rfl (fun w6 e6 => ?_)
  obtain ⟨l6, u6⟩ := hI.abA (x := ar1) e6 (by decide +kernel : t_aba 70 10 7 0 5 (-900) 6 = true) (by omega) (by omega) (by omega)
  refine ev_qL f_X12_soundOf (nx := 25) (r := []) rfl rfl rfl rfl rfl rfl rfl (c_m_beatsOf hI (z3) l3 (Int.le_trans u3 (by decide : (46:Int) ≤ 1752)) (w6) u6) rfl hX rfl (fun w7 gi7 gl7 gr7 hI hX hC7 q7 => ?_)
  have q7 : 0 ≤ w7.toInt ∧ w7.toInt < 16777216 := q7
  refine ev_retK1 f_X12_soundOf rfl rfl rfl ?_
  refine ev_loc f_X12_heardOf (nx := 6) rfl rfl rfl rfl ?_
  refine ev_getR f_X12_heardOf (nx := 9) rfl (hI.wf.s rfl) rfl rfl (hI.wf.r rfl) rfl rfl ?_
  refine ev_bp f_X12_heardOf (nx := 11) (v := 7) rfl (by decide) rfl ?_
  obtain ⟨l8, u8⟩ := hI.ab (by decide +kernel : t_abr 70 7 7 0 9 = true) (Nat.le_refl _) (Nat.le_refl _)
  refine ev_ialdv f_X12_heardOf (nx := 12) (w := (gi7 70 7)) rfl (hI.wf.s rfl) (by decide) (rfl : (7 : Int32).toNatClampNeg = 7) (by decide) rfl rfl ?_
  refine ev_inS2 f_X12_heardOf (nx := 15) (lo2 := [(0, .long w7), (2, .int (gi7 70 7))]) rfl rfl rfl rfl f_X12_echoed rfl rfl rfl rfl ?_
  refine ev_loc f_X12_echoed (nx := 1) rfl rfl rfl rfl ?_
  refine ev_if f_X12_echoed (t1 := 4) (t2 := 8) rfl rfl rfl (fun h9 => ?_) (fun h9 => ?_)
  · have u10 : (gi7 70 7).toInt ≤ 0 := t_equ h9 (by decide : (0:Int32).toInt ≤ (0:Int))
    refine ev_loc f_X12_echoed (nx := 5) rfl rfl rfl rfl ?_
    refine ev_jmp f_X12_echoed (nx := 13) rfl rfl rfl ?_
    refine ev_retK1 f_X12_echoed rfl rfl rfl ?_
    exact ev_ret f_X12_heardOf rfl rfl rfl ⟨_, _, _, rfl, hI, hX, ⟨_, rfl, (show 0 ≤ w7.toInt ∧ w7.toInt < 8589934592 from (by omega))⟩⟩
  · have r11 : (gi7 70 7).toInt ≠ 0 := fun e => h9 (Int32.toInt_inj.mp (e.trans (by decide : (0:Int) = (0 : Int32).toInt)))
    have l12 : 1 ≤ (gi7 70 7).toInt := t_nel h9 l8 rfl rfl
    refine ev_loc f_X12_echoed (nx := 9) rfl rfl rfl rfl ?_
    refine ev_loc f_X12_echoed (nx := 10) rfl rfl rfl rfl ?_
    refine ev_loc f_X12_echoed (nx := 11) rfl rfl rfl rfl ?_
    refine ev_anyLE f_X12_echoed (nx := 12) rfl rfl rfl rfl (fun z13 e13 => ?_)
    refine ev_anyLE f_X12_echoed (nx := 13) rfl rfl rfl rfl (fun z14 e14 => ?_)
    refine ev_retK1 f_X12_echoed rfl rfl rfl ?_
    exact ev_ret f_X12_heardOf rfl rfl rfl ⟨_, _, _, rfl, hI, hX, ⟨_, rfl, (show 0 ≤ z14.toInt ∧ z14.toInt < 8589934592 from (t_ech e13 e14 (by omega) (by omega) (by omega)))⟩⟩
noncomputable def wl_m_bits : List (Nat × Nat) := []
theorem c_m_bits {X : x_Ext} {d : Nat} {sh : List (Nat ⊕ (Nat × Nat))} {gi : Nat → Nat → Int32} {gl : Nat → Nat → Int64} {gr : Nat → Nat → Value} (hI : t_I sh gi gr) (ar0 : Int64) : x_Me X (d + 1) n_X12_bits [.long ar0] (sh, gi, gl, gr) (t_P wl_m_bits sh gi gl gr (t_Ri (-2147483648) 2147483647)) := by
  have hX : t_X wl_m_bits sh gi gl gr gi gl gr := t_X.rf
  refine me_s f_X12_bits rfl rfl ?_
  refine ev_ic f_X12_bits (nx := 1) (v := 0) rfl (by decide) rfl ?_
  refine ev_loc f_X12_bits (nx := 2) (lo' := [(2, .int 0), (0, .long ar0)]) rfl rfl rfl rfl ?_
  refine ev_loc f_X12_bits (nx := 3) rfl rfl rfl rfl ?_
  refine ev_loc f_X12_bits (nx := 4) (lo' := [(3, .long ar0), (2, .int 0), (0, .long ar0)]) rfl rfl rfl rfl ?_
  have L1 : ∀ (m1 : Nat) (gi1 : Nat → Nat → Int32) (gl1 : Nat → Nat → Int64) (gr1 : Nat → Nat → Value) (y1_3 : Int64) (y1_2 : Int32), t_I sh gi1 gr1 → t_X wl_m_bits sh gi gl gr gi1 gl1 gr1 → y1_3.toUInt64.toNat = m1 → x_Ev X (d + 1) n_X12_bits 4 [(3, .long y1_3), (2, .int y1_2), (0, .long ar0)] [] (sh, gi1, gl1, gr1) (t_P wl_m_bits sh gi gl gr (t_Ri (-2147483648) 2147483647)) := by
    intro m1
    induction m1 using Nat.strongRecOn with
    | _ m1 ih1 =>
    intro gi1 gl1 gr1 y1_3 y1_2 hI hX hm1
    refine ev_loc f_X12_bits (nx := 5) rfl rfl rfl rfl ?_
    refine ev_lc f_X12_bits (nx := 6) (v := 0) rfl (by decide) rfl ?_
    refine ev_anyIE f_X12_bits (nx := 7) rfl rfl rfl rfl (fun z2 e2 => ?_)
    refine ev_if f_X12_bits (t1 := 22) (t2 := 10) rfl rfl rfl (fun h3 => ?_) (fun h3 => ?_)
    · have u4 : z2.toInt ≤ 0 := t_equ h3 (by decide : (0:Int32).toInt ≤ (0:Int))
      have l5 : 0 ≤ z2.toInt := t_eql h3 (by decide : (0:Int) ≤ (0:Int32).toInt)
      refine ev_loc f_X12_bits (nx := 23) rfl rfl rfl rfl ?_
      exact ev_ret f_X12_bits rfl rfl rfl ⟨_, _, _, rfl, hI, hX, ⟨_, rfl, (t_lo y1_2), (t_hi y1_2)⟩⟩
    · have r6 : z2.toInt ≠ 0 := fun e => h3 (Int32.toInt_inj.mp (e.trans (by decide : (0:Int) = (0 : Int32).toInt)))
      refine ev_incN f_X12_bits (nx := 13) rfl rfl (by decide) rfl (fun z7 => ?_)
      refine ev_loc f_X12_bits (nx := 14) rfl rfl rfl rfl ?_
      refine ev_loc f_X12_bits (nx := 15) rfl rfl rfl rfl ?_
      refine ev_lc f_X12_bits (nx := 16) (v := 1) rfl (by decide) rfl ?_
      refine ev_anyLE f_X12_bits (nx := 17) rfl rfl rfl rfl (fun z8 e8 => ?_)
      refine ev_anyLE f_X12_bits (nx := 18) rfl rfl rfl rfl (fun z9 e9 => ?_)
      refine ev_loc f_X12_bits (nx := 19) (lo' := [(3, .long z9), (2, .int z7), (0, .long ar0)]) rfl rfl rfl rfl ?_
      refine ev_jmp f_X12_bits (nx := 4) rfl rfl rfl ?_
      refine ev_sub (lo := [(3, .long z9), (2, .int z7), (0, .long ar0)]) rfl (t_sc rfl (t_sc rfl (t_sc rfl t_sn))) ?_
      exact ih1 _ (by have := t_bits e2 h3 e8 e9; omega) gi1 gl1 gr1 (z9) (z7) hI hX  rfl
  refine ev_sub (lo := [(3, .long ar0), (2, .int 0), (0, .long ar0)]) rfl (t_sc rfl (t_sc rfl (t_sc rfl t_sn))) ?_
  exact L1 _ gi gl gr (ar0) (0) hI hX  rfl
noncomputable def wl_m_sound : List (Nat × Nat) := [(69, 2)]
theorem c_m_sound {X : x_Ext} {d : Nat} {sh : List (Nat ⊕ (Nat × Nat))} {gi : Nat → Nat → Int32} {gl : Nat → Nat → Int64} {gr : Nat → Nat → Value} (hI : t_I sh gi gr) (ar1 : Int32) : x_Me X (d + 3) n_X12_sound [.ref 69, .int ar1] (sh, gi, gl, gr) (t_P wl_m_sound sh gi gl gr t_Rl) := by
  have hX : t_X wl_m_sound sh gi gl gr gi gl gr := t_X.rf
  refine me_i f_X12_sound (hI.wf.s rfl) rfl rfl rfl ?_
  refine ev_loc f_X12_sound (nx := 1) rfl rfl rfl rfl ?_
  refine ev_loc f_X12_sound (nx := 2) rfl rfl rfl rfl ?_
  refine ev_inV2 f_X12_sound (nx := 5) (lo2 := [(0, .ref 69), (1, .int ar1)]) rfl rfl rfl rfl f_X12_isPort (hI.wf.s rfl) rfl rfl rfl rfl rfl ?_
  refine ev_loc f_X12_isPort (nx := 1) rfl rfl rfl rfl ?_
  refine ev_if f_X12_isPort (t1 := 18) (t2 := 4) rfl rfl rfl (fun h1 => ?_) (fun h1 => ?_)
  · have u2 : ar1.toInt ≤ (-1) := t_ltu h1 (by decide : (0:Int32).toInt ≤ (0:Int)) rfl
    refine ev_ic f_X12_isPort (nx := 19) (v := 0) rfl (by decide) rfl ?_
    refine ev_retK1 f_X12_isPort rfl rfl rfl ?_
    refine ev_t f_X12_sound (t1 := 20) (t2 := 8) rfl rfl rfl (by decide) ?_
    refine ev_loc f_X12_sound (nx := 21) rfl rfl rfl rfl ?_
    refine ev_ic f_X12_sound (nx := 22) (v := 1) rfl (by decide) rfl ?_
    refine ev_inV2 f_X12_sound (nx := 25) (lo2 := [(0, .ref 69), (1, .int 1)]) rfl rfl rfl rfl f_X12_refuse (hI.wf.s rfl) rfl rfl rfl rfl rfl ?_
    refine ev_loc f_X12_refuse (nx := 1) rfl rfl rfl rfl ?_
    refine ev_loc f_X12_refuse (nx := 2) rfl rfl rfl rfl ?_
    refine ev_putIT f_X12_refuse (nx := 5) rfl (hI.wf.s rfl) rfl rfl rfl (hI.put0 (hI.wf.s rfl) rfl rfl) (hX.upI rfl) (fun g3 e3 hI hX => ?_)
    refine ev_ic f_X12_refuse (nx := 6) (v := -1) rfl (by decide) rfl ?_
    refine ev_retK1 f_X12_refuse rfl rfl rfl ?_
    refine ev_aluvL f_X12_sound (nx := 26) (w := -1) rfl rfl rfl (by decide) rfl ?_
    exact ev_ret f_X12_sound rfl rfl rfl ⟨_, _, _, rfl, hI, hX, ⟨_, rfl⟩⟩
  · have l4 : 0 ≤ ar1.toInt := t_lel (t_nlt h1) (by decide : (0:Int) ≤ (0:Int32).toInt)
    refine ev_loc f_X12_isPort (nx := 5) rfl rfl rfl rfl ?_
    refine ev_loc f_X12_isPort (nx := 6) rfl rfl rfl rfl ?_
    refine ev_getR f_X12_isPort (nx := 9) rfl (hI.wf.s rfl) rfl rfl (hI.wf.r rfl) rfl rfl ?_
    refine ev_ic f_X12_isPort (nx := 10) (v := 0) rfl (by decide) rfl ?_
    obtain ⟨l5, u5⟩ := hI.ab (by decide +kernel : t_abr 70 0 0 0 6 = true) (Nat.le_refl _) (Nat.le_refl _)
    refine ev_ialdv f_X12_isPort (nx := 11) (w := (gi 70 0)) rfl (hI.wf.s rfl) (by decide) (rfl : (0 : Int32).toNatClampNeg = 0) (by decide) rfl rfl ?_
    refine ev_if f_X12_isPort (t1 := 18) (t2 := 14) rfl rfl rfl (fun h6 => ?_) (fun h6 => ?_)
    · have r7 : (gi 70 0).toInt ≤ ar1.toInt := Int32.le_iff_toInt_le.mp h6
      refine ev_ic f_X12_isPort (nx := 19) (v := 0) rfl (by decide) rfl ?_
      refine ev_retK1 f_X12_isPort rfl rfl rfl ?_
      refine ev_t f_X12_sound (t1 := 20) (t2 := 8) rfl rfl rfl (by decide) ?_
      refine ev_loc f_X12_sound (nx := 21) rfl rfl rfl rfl ?_
      refine ev_ic f_X12_sound (nx := 22) (v := 1) rfl (by decide) rfl ?_
      refine ev_inV2 f_X12_sound (nx := 25) (lo2 := [(0, .ref 69), (1, .int 1)]) rfl rfl rfl rfl f_X12_refuse (hI.wf.s rfl) rfl rfl rfl rfl rfl ?_
      refine ev_loc f_X12_refuse (nx := 1) rfl rfl rfl rfl ?_
      refine ev_loc f_X12_refuse (nx := 2) rfl rfl rfl rfl ?_
      refine ev_putIT f_X12_refuse (nx := 5) rfl (hI.wf.s rfl) rfl rfl rfl (hI.put0 (hI.wf.s rfl) rfl rfl) (hX.upI rfl) (fun g8 e8 hI hX => ?_)
      refine ev_ic f_X12_refuse (nx := 6) (v := -1) rfl (by decide) rfl ?_
      refine ev_retK1 f_X12_refuse rfl rfl rfl ?_
      refine ev_aluvL f_X12_sound (nx := 26) (w := -1) rfl rfl rfl (by decide) rfl ?_
      exact ev_ret f_X12_sound rfl rfl rfl ⟨_, _, _, rfl, hI, hX, ⟨_, rfl⟩⟩
    · have r9 : ar1.toInt < (gi 70 0).toInt := Int32.lt_iff_toInt_lt.mp (t_nle h6)
      have u10 : ar1.toInt ≤ 5 := t_ltu (t_nle h6) u5 rfl
      have l11 : 1 ≤ (gi 70 0).toInt := t_ltl (t_nle h6) l4 rfl
      refine ev_ic f_X12_isPort (nx := 15) (v := 1) rfl (by decide) rfl ?_
      refine ev_jmp f_X12_isPort (nx := 19) rfl rfl rfl ?_
      refine ev_retK1 f_X12_isPort rfl rfl rfl ?_
      refine ev_f f_X12_sound (t1 := 20) (t2 := 8) rfl rfl rfl (by decide) ?_
      refine ev_loc f_X12_sound (nx := 9) rfl rfl rfl rfl ?_
      refine ev_loc f_X12_sound (nx := 10) rfl rfl rfl rfl ?_
      refine ev_loc f_X12_sound (nx := 11) rfl rfl rfl rfl ?_
      refine ev_inV2 f_X12_sound (nx := 14) (lo2 := [(0, .ref 69), (1, .int ar1)]) rfl rfl rfl rfl f_X12_soundOf (hI.wf.s rfl) rfl rfl rfl rfl rfl ?_
      refine ev_loc f_X12_soundOf (nx := 1) rfl rfl rfl rfl ?_
      refine ev_bp f_X12_soundOf (nx := 3) (v := 10) rfl (by decide) rfl ?_
      refine ev_bp f_X12_soundOf (nx := 5) (v := 7) rfl (by decide) rfl ?_
      refine ev_loc f_X12_soundOf (nx := 6) rfl rfl rfl rfl ?_
      refine ev_mulL f_X12_soundOf (nx := 7) (c := 7) (l := 0) (u := 35) rfl (by decide) (by decide) l4 u10 rfl rfl (by decide) (by decide) rfl (fun z12 e12 l12 u12 => ?_)
      refine ev_addK f_X12_soundOf (nx := 8) (c := 10) (l := 10) (u := 45) rfl (by decide) l12 u12 rfl rfl (by decide) (by decide) rfl (fun z13 e13 l13 u13 => ?_)
      refine ev_ic f_X12_soundOf (nx := 9) (v := 1) rfl (by decide) rfl ?_
      refine ev_addC f_X12_soundOf (nx := 10) (c := 1) (l := 11) (u := 46) rfl (by decide) l13 u13 rfl rfl (by decide) (by decide) rfl (fun z14 e14 l14 u14 => ?_)
      refine ev_loc f_X12_soundOf (nx := 11) rfl rfl rfl rfl ?_
      refine ev_getR f_X12_soundOf (nx := 14) rfl (hI.wf.s rfl) rfl rfl (hI.wf.r rfl) rfl rfl ?_
      refine ev_bp f_X12_soundOf (nx := 16) (v := 10) rfl (by decide) rfl ?_
      refine ev_bp f_X12_soundOf (nx := 18) (v := 7) rfl (by decide) rfl ?_
      refine ev_loc f_X12_soundOf (nx := 19) rfl rfl rfl rfl ?_
      refine ev_mulL f_X12_soundOf (nx := 20) (c := 7) (l := 0) (u := 35) rfl (by decide) (by decide) l4 u10 rfl rfl (by decide) (by decide) rfl (fun z15 e15 l15 u15 => ?_)
      refine ev_addK f_X12_soundOf (nx := 21) (c := 10) (l := 10) (u := 45) rfl (by decide) l15 u15 rfl rfl (by decide) (by decide) rfl (fun z16 e16 l16 u16 => ?_)
      refine ev_ialdT f_X12_soundOf (nx := 22) rfl (hI.wf.s rfl) l16 (by decide) u16 (by decide) rfl (fun w17 e17 => ?_)
      obtain ⟨l17, u17⟩ := hI.abA (x := ar1) e17 (by decide +kernel : t_aba 70 10 7 0 5 (-900) 6 = true) (by omega) (by omega) (by omega)
      refine ev_qL f_X12_soundOf (nx := 25) (r := []) rfl rfl rfl rfl rfl rfl rfl (c_m_beatsOf hI (z14) l14 (Int.le_trans u14 (by decide : (46:Int) ≤ 1752)) (w17) u17) rfl hX rfl (fun w18 gi18 gl18 gr18 hI hX hC18 q18 => ?_)
      have q18 : 0 ≤ w18.toInt ∧ w18.toInt < 16777216 := q18
      refine ev_retK1 f_X12_soundOf rfl rfl rfl ?_
      refine ev_inV2 f_X12_sound (nx := 17) (lo2 := [(0, .ref 69), (1, .long w18)]) rfl rfl rfl rfl f_X12_givesLong (hI.wf.s rfl) rfl rfl rfl rfl rfl ?_
      refine ev_loc f_X12_givesLong (nx := 1) rfl rfl rfl rfl ?_
      refine ev_ic f_X12_givesLong (nx := 2) (v := 0) rfl (by decide) rfl ?_
      refine ev_putIT f_X12_givesLong (nx := 5) rfl (hI.wf.s rfl) rfl rfl rfl (hI.put0 (hI.wf.s rfl) rfl rfl) (hX.upI rfl) (fun g19 e19 hI hX => ?_)
      refine ev_loc f_X12_givesLong (nx := 6) rfl rfl rfl rfl ?_
      refine ev_retK1 f_X12_givesLong rfl rfl rfl ?_
      refine ev_jmp f_X12_sound (nx := 26) rfl rfl rfl ?_
      exact ev_ret f_X12_sound rfl rfl rfl ⟨_, _, _, rfl, hI, hX, ⟨_, rfl⟩⟩
noncomputable def wl_m_heard : List (Nat × Nat) := [(69, 2)]
theorem c_m_heard {X : x_Ext} {d : Nat} {sh : List (Nat ⊕ (Nat × Nat))} {gi : Nat → Nat → Int32} {gl : Nat → Nat → Int64} {gr : Nat → Nat → Value} (hI : t_I sh gi gr) (ar1 : Int32) : x_Me X (d + 4) n_X12_heard [.ref 69, .int ar1] (sh, gi, gl, gr) (t_P wl_m_heard sh gi gl gr t_Rl) := by
  have hX : t_X wl_m_heard sh gi gl gr gi gl gr := t_X.rf
  refine me_i f_X12_heard (hI.wf.s rfl) rfl rfl rfl ?_
  refine ev_loc f_X12_heard (nx := 1) rfl rfl rfl rfl ?_
  refine ev_loc f_X12_heard (nx := 2) rfl rfl rfl rfl ?_
  refine ev_inV2 f_X12_heard (nx := 5) (lo2 := [(0, .ref 69), (1, .int ar1)]) rfl rfl rfl rfl f_X12_isPort (hI.wf.s rfl) rfl rfl rfl rfl rfl ?_
  refine ev_loc f_X12_isPort (nx := 1) rfl rfl rfl rfl ?_
  refine ev_if f_X12_isPort (t1 := 18) (t2 := 4) rfl rfl rfl (fun h1 => ?_) (fun h1 => ?_)
  · have u2 : ar1.toInt ≤ (-1) := t_ltu h1 (by decide : (0:Int32).toInt ≤ (0:Int)) rfl
    refine ev_ic f_X12_isPort (nx := 19) (v := 0) rfl (by decide) rfl ?_
    refine ev_retK1 f_X12_isPort rfl rfl rfl ?_
    refine ev_t f_X12_heard (t1 := 20) (t2 := 8) rfl rfl rfl (by decide) ?_
    refine ev_loc f_X12_heard (nx := 21) rfl rfl rfl rfl ?_
    refine ev_ic f_X12_heard (nx := 22) (v := 1) rfl (by decide) rfl ?_
    refine ev_inV2 f_X12_heard (nx := 25) (lo2 := [(0, .ref 69), (1, .int 1)]) rfl rfl rfl rfl f_X12_refuse (hI.wf.s rfl) rfl rfl rfl rfl rfl ?_
    refine ev_loc f_X12_refuse (nx := 1) rfl rfl rfl rfl ?_
    refine ev_loc f_X12_refuse (nx := 2) rfl rfl rfl rfl ?_
    refine ev_putIT f_X12_refuse (nx := 5) rfl (hI.wf.s rfl) rfl rfl rfl (hI.put0 (hI.wf.s rfl) rfl rfl) (hX.upI rfl) (fun g3 e3 hI hX => ?_)
    refine ev_ic f_X12_refuse (nx := 6) (v := -1) rfl (by decide) rfl ?_
    refine ev_retK1 f_X12_refuse rfl rfl rfl ?_
    refine ev_aluvL f_X12_heard (nx := 26) (w := -1) rfl rfl rfl (by decide) rfl ?_
    exact ev_ret f_X12_heard rfl rfl rfl ⟨_, _, _, rfl, hI, hX, ⟨_, rfl⟩⟩
  · have l4 : 0 ≤ ar1.toInt := t_lel (t_nlt h1) (by decide : (0:Int) ≤ (0:Int32).toInt)
    refine ev_loc f_X12_isPort (nx := 5) rfl rfl rfl rfl ?_
    refine ev_loc f_X12_isPort (nx := 6) rfl rfl rfl rfl ?_
    refine ev_getR f_X12_isPort (nx := 9) rfl (hI.wf.s rfl) rfl rfl (hI.wf.r rfl) rfl rfl ?_
    refine ev_ic f_X12_isPort (nx := 10) (v := 0) rfl (by decide) rfl ?_
    obtain ⟨l5, u5⟩ := hI.ab (by decide +kernel : t_abr 70 0 0 0 6 = true) (Nat.le_refl _) (Nat.le_refl _)
    refine ev_ialdv f_X12_isPort (nx := 11) (w := (gi 70 0)) rfl (hI.wf.s rfl) (by decide) (rfl : (0 : Int32).toNatClampNeg = 0) (by decide) rfl rfl ?_
    refine ev_if f_X12_isPort (t1 := 18) (t2 := 14) rfl rfl rfl (fun h6 => ?_) (fun h6 => ?_)
    · have r7 : (gi 70 0).toInt ≤ ar1.toInt := Int32.le_iff_toInt_le.mp h6
      refine ev_ic f_X12_isPort (nx := 19) (v := 0) rfl (by decide) rfl ?_
      refine ev_retK1 f_X12_isPort rfl rfl rfl ?_
      refine ev_t f_X12_heard (t1 := 20) (t2 := 8) rfl rfl rfl (by decide) ?_
      refine ev_loc f_X12_heard (nx := 21) rfl rfl rfl rfl ?_
      refine ev_ic f_X12_heard (nx := 22) (v := 1) rfl (by decide) rfl ?_
      refine ev_inV2 f_X12_heard (nx := 25) (lo2 := [(0, .ref 69), (1, .int 1)]) rfl rfl rfl rfl f_X12_refuse (hI.wf.s rfl) rfl rfl rfl rfl rfl ?_
      refine ev_loc f_X12_refuse (nx := 1) rfl rfl rfl rfl ?_
      refine ev_loc f_X12_refuse (nx := 2) rfl rfl rfl rfl ?_
      refine ev_putIT f_X12_refuse (nx := 5) rfl (hI.wf.s rfl) rfl rfl rfl (hI.put0 (hI.wf.s rfl) rfl rfl) (hX.upI rfl) (fun g8 e8 hI hX => ?_)
      refine ev_ic f_X12_refuse (nx := 6) (v := -1) rfl (by decide) rfl ?_
      refine ev_retK1 f_X12_refuse rfl rfl rfl ?_
      refine ev_aluvL f_X12_heard (nx := 26) (w := -1) rfl rfl rfl (by decide) rfl ?_
      exact ev_ret f_X12_heard rfl rfl rfl ⟨_, _, _, rfl, hI, hX, ⟨_, rfl⟩⟩
    · have r9 : ar1.toInt < (gi 70 0).toInt := Int32.lt_iff_toInt_lt.mp (t_nle h6)
      have u10 : ar1.toInt ≤ 5 := t_ltu (t_nle h6) u5 rfl
      have l11 : 1 ≤ (gi 70 0).toInt := t_ltl (t_nle h6) l4 rfl
      refine ev_ic f_X12_isPort (nx := 15) (v := 1) rfl (by decide) rfl ?_
      refine ev_jmp f_X12_isPort (nx := 19) rfl rfl rfl ?_
      refine ev_retK1 f_X12_isPort rfl rfl rfl ?_
      refine ev_f f_X12_heard (t1 := 20) (t2 := 8) rfl rfl rfl (by decide) ?_
      refine ev_loc f_X12_heard (nx := 9) rfl rfl rfl rfl ?_
      refine ev_loc f_X12_heard (nx := 10) rfl rfl rfl rfl ?_
      refine ev_loc f_X12_heard (nx := 11) rfl rfl rfl rfl ?_
      refine ev_qL f_X12_heard (nx := 14) (r := [.ref 69]) rfl rfl rfl rfl rfl rfl rfl (c_m_heardOf hI (ar1) l4 u10) rfl hX rfl (fun w12 gi12 gl12 gr12 hI hX hC12 q12 => ?_)
      have q12 : 0 ≤ w12.toInt ∧ w12.toInt < 8589934592 := q12
      refine ev_inV2 f_X12_heard (nx := 17) (lo2 := [(0, .ref 69), (1, .long w12)]) rfl rfl rfl rfl f_X12_givesLong (hI.wf.s rfl) rfl rfl rfl rfl rfl ?_
      refine ev_loc f_X12_givesLong (nx := 1) rfl rfl rfl rfl ?_
      refine ev_ic f_X12_givesLong (nx := 2) (v := 0) rfl (by decide) rfl ?_
      refine ev_putIT f_X12_givesLong (nx := 5) rfl (hI.wf.s rfl) rfl rfl rfl (hI.put0 (hI.wf.s rfl) rfl rfl) (hX.upI rfl) (fun g13 e13 hI hX => ?_)
      refine ev_loc f_X12_givesLong (nx := 6) rfl rfl rfl rfl ?_
      refine ev_retK1 f_X12_givesLong rfl rfl rfl ?_
      refine ev_jmp f_X12_heard (nx := 26) rfl rfl rfl ?_
      exact ev_ret f_X12_heard rfl rfl rfl ⟨_, _, _, rfl, hI, hX, ⟨_, rfl⟩⟩
noncomputable def wl_m_together : List (Nat × Nat) := [(69, 2)]
theorem c_m_together {X : x_Ext} {d : Nat} {sh : List (Nat ⊕ (Nat × Nat))} {gi : Nat → Nat → Int32} {gl : Nat → Nat → Int64} {gr : Nat → Nat → Value} (hI : t_I sh gi gr) (ar1 : Int32) (ar2 : Int32) (ar3 : Int32) : x_Me X (d + 4) n_X12_together [.ref 69, .int ar1, .int ar2, .int ar3] (sh, gi, gl, gr) (t_P wl_m_together sh gi gl gr t_Rl) := by
  have hX : t_X wl_m_together sh gi gl gr gi gl gr := t_X.rf
  refine me_i f_X12_together (hI.wf.s rfl) rfl rfl rfl ?_
  refine ev_loc f_X12_together (nx := 1) rfl rfl rfl rfl ?_
  refine ev_loc f_X12_together (nx := 2) rfl rfl rfl rfl ?_
  refine ev_inV2 f_X12_together (nx := 5) (lo2 := [(0, .ref 69), (1, .int ar1)]) rfl rfl rfl rfl f_X12_isPort (hI.wf.s rfl) rfl rfl rfl rfl rfl ?_
  refine ev_loc f_X12_isPort (nx := 1) rfl rfl rfl rfl ?_
  refine ev_if f_X12_isPort (t1 := 18) (t2 := 4) rfl rfl rfl (fun h1 => ?_) (fun h1 => ?_)
  · have u2 : ar1.toInt ≤ (-1) := t_ltu h1 (by decide : (0:Int32).toInt ≤ (0:Int)) rfl
    refine ev_ic f_X12_isPort (nx := 19) (v := 0) rfl (by decide) rfl ?_
    refine ev_retK1 f_X12_isPort rfl rfl rfl ?_
    refine ev_t f_X12_together (t1 := 48) (t2 := 8) rfl rfl rfl (by decide) ?_
    refine ev_loc f_X12_together (nx := 49) rfl rfl rfl rfl ?_
    refine ev_ic f_X12_together (nx := 50) (v := 1) rfl (by decide) rfl ?_
    refine ev_inV2 f_X12_together (nx := 53) (lo2 := [(0, .ref 69), (1, .int 1)]) rfl rfl rfl rfl f_X12_refuse (hI.wf.s rfl) rfl rfl rfl rfl rfl ?_
    refine ev_loc f_X12_refuse (nx := 1) rfl rfl rfl rfl ?_
    refine ev_loc f_X12_refuse (nx := 2) rfl rfl rfl rfl ?_
    refine ev_putIT f_X12_refuse (nx := 5) rfl (hI.wf.s rfl) rfl rfl rfl (hI.put0 (hI.wf.s rfl) rfl rfl) (hX.upI rfl) (fun g3 e3 hI hX => ?_)
    refine ev_ic f_X12_refuse (nx := 6) (v := -1) rfl (by decide) rfl ?_
    refine ev_retK1 f_X12_refuse rfl rfl rfl ?_
    refine ev_aluvL f_X12_together (nx := 54) (w := -1) rfl rfl rfl (by decide) rfl ?_
    exact ev_ret f_X12_together rfl rfl rfl ⟨_, _, _, rfl, hI, hX, ⟨_, rfl⟩⟩
  · have l4 : 0 ≤ ar1.toInt := t_lel (t_nlt h1) (by decide : (0:Int) ≤ (0:Int32).toInt)
    refine ev_loc f_X12_isPort (nx := 5) rfl rfl rfl rfl ?_
    refine ev_loc f_X12_isPort (nx := 6) rfl rfl rfl rfl ?_
    refine ev_getR f_X12_isPort (nx := 9) rfl (hI.wf.s rfl) rfl rfl (hI.wf.r rfl) rfl rfl ?_
    refine ev_ic f_X12_isPort (nx := 10) (v := 0) rfl (by decide) rfl ?_
    obtain ⟨l5, u5⟩ := hI.ab (by decide +kernel : t_abr 70 0 0 0 6 = true) (Nat.le_refl _) (Nat.le_refl _)
    refine ev_ialdv f_X12_isPort (nx := 11) (w := (gi 70 0)) rfl (hI.wf.s rfl) (by decide) (rfl : (0 : Int32).toNatClampNeg = 0) (by decide) rfl rfl ?_
    refine ev_if f_X12_isPort (t1 := 18) (t2 := 14) rfl rfl rfl (fun h6 => ?_) (fun h6 => ?_)
    · have r7 : (gi 70 0).toInt ≤ ar1.toInt := Int32.le_iff_toInt_le.mp h6
      refine ev_ic f_X12_isPort (nx := 19) (v := 0) rfl (by decide) rfl ?_
      refine ev_retK1 f_X12_isPort rfl rfl rfl ?_
      refine ev_t f_X12_together (t1 := 48) (t2 := 8) rfl rfl rfl (by decide) ?_
      refine ev_loc f_X12_together (nx := 49) rfl rfl rfl rfl ?_
      refine ev_ic f_X12_together (nx := 50) (v := 1) rfl (by decide) rfl ?_
      refine ev_inV2 f_X12_together (nx := 53) (lo2 := [(0, .ref 69), (1, .int 1)]) rfl rfl rfl rfl f_X12_refuse (hI.wf.s rfl) rfl rfl rfl rfl rfl ?_
      refine ev_loc f_X12_refuse (nx := 1) rfl rfl rfl rfl ?_
      refine ev_loc f_X12_refuse (nx := 2) rfl rfl rfl rfl ?_
      refine ev_putIT f_X12_refuse (nx := 5) rfl (hI.wf.s rfl) rfl rfl rfl (hI.put0 (hI.wf.s rfl) rfl rfl) (hX.upI rfl) (fun g8 e8 hI hX => ?_)
      refine ev_ic f_X12_refuse (nx := 6) (v := -1) rfl (by decide) rfl ?_
      refine ev_retK1 f_X12_refuse rfl rfl rfl ?_
      refine ev_aluvL f_X12_together (nx := 54) (w := -1) rfl rfl rfl (by decide) rfl ?_
      exact ev_ret f_X12_together rfl rfl rfl ⟨_, _, _, rfl, hI, hX, ⟨_, rfl⟩⟩
    · have r9 : ar1.toInt < (gi 70 0).toInt := Int32.lt_iff_toInt_lt.mp (t_nle h6)
      have u10 : ar1.toInt ≤ 5 := t_ltu (t_nle h6) u5 rfl
      have l11 : 1 ≤ (gi 70 0).toInt := t_ltl (t_nle h6) l4 rfl
      refine ev_ic f_X12_isPort (nx := 15) (v := 1) rfl (by decide) rfl ?_
      refine ev_jmp f_X12_isPort (nx := 19) rfl rfl rfl ?_
      refine ev_retK1 f_X12_isPort rfl rfl rfl ?_
      refine ev_f f_X12_together (t1 := 48) (t2 := 8) rfl rfl rfl (by decide) ?_
      refine ev_loc f_X12_together (nx := 9) rfl rfl rfl rfl ?_
      refine ev_loc f_X12_together (nx := 10) rfl rfl rfl rfl ?_
      refine ev_inV2 f_X12_together (nx := 13) (lo2 := [(0, .ref 69), (1, .int ar2)]) rfl rfl rfl rfl f_X12_isPort (hI.wf.s rfl) rfl rfl rfl rfl rfl ?_
      refine ev_loc f_X12_isPort (nx := 1) rfl rfl rfl rfl ?_
      refine ev_if f_X12_isPort (t1 := 18) (t2 := 4) rfl rfl rfl (fun h12 => ?_) (fun h12 => ?_)
      · have u13 : ar2.toInt ≤ (-1) := t_ltu h12 (by decide : (0:Int32).toInt ≤ (0:Int)) rfl
        refine ev_ic f_X12_isPort (nx := 19) (v := 0) rfl (by decide) rfl ?_
        refine ev_retK1 f_X12_isPort rfl rfl rfl ?_
        refine ev_t f_X12_together (t1 := 48) (t2 := 16) rfl rfl rfl (by decide) ?_
        refine ev_loc f_X12_together (nx := 49) rfl rfl rfl rfl ?_
        refine ev_ic f_X12_together (nx := 50) (v := 1) rfl (by decide) rfl ?_
        refine ev_inV2 f_X12_together (nx := 53) (lo2 := [(0, .ref 69), (1, .int 1)]) rfl rfl rfl rfl f_X12_refuse (hI.wf.s rfl) rfl rfl rfl rfl rfl ?_
        refine ev_loc f_X12_refuse (nx := 1) rfl rfl rfl rfl ?_
        refine ev_loc f_X12_refuse (nx := 2) rfl rfl rfl rfl ?_
        refine ev_putIT f_X12_refuse (nx := 5) rfl (hI.wf.s rfl) rfl rfl rfl (hI.put0 (hI.wf.s rfl) rfl rfl) (hX.upI rfl) (fun g14 e14 hI hX => ?_)
        refine ev_ic f_X12_refuse (nx := 6) (v := -1) rfl (by decide) rfl ?_
        refine ev_retK1 f_X12_refuse rfl rfl rfl ?_
        refine ev_aluvL f_X12_together (nx := 54) (w := -1) rfl rfl rfl (by decide) rfl ?_
        exact ev_ret f_X12_together rfl rfl rfl ⟨_, _, _, rfl, hI, hX, ⟨_, rfl⟩⟩
      · have l15 : 0 ≤ ar2.toInt := t_lel (t_nlt h12) (by decide : (0:Int) ≤ (0:Int32).toInt)
        refine ev_loc f_X12_isPort (nx := 5) rfl rfl rfl rfl ?_
        refine ev_loc f_X12_isPort (nx := 6) rfl rfl rfl rfl ?_
        refine ev_getR f_X12_isPort (nx := 9) rfl (hI.wf.s rfl) rfl rfl (hI.wf.r rfl) rfl rfl ?_
        refine ev_ic f_X12_isPort (nx := 10) (v := 0) rfl (by decide) rfl ?_
        refine ev_ialdv f_X12_isPort (nx := 11) (w := (gi 70 0)) rfl (hI.wf.s rfl) (by decide) (rfl : (0 : Int32).toNatClampNeg = 0) (by decide) rfl rfl ?_
        refine ev_if f_X12_isPort (t1 := 18) (t2 := 14) rfl rfl rfl (fun h17 => ?_) (fun h17 => ?_)
        · have r18 : (gi 70 0).toInt ≤ ar2.toInt := Int32.le_iff_toInt_le.mp h17
          have l19 : 1 ≤ ar2.toInt := t_lel h17 l11
          refine ev_ic f_X12_isPort (nx := 19) (v := 0) rfl (by decide) rfl ?_
          refine ev_retK1 f_X12_isPort rfl rfl rfl ?_
          refine ev_t f_X12_together (t1 := 48) (t2 := 16) rfl rfl rfl (by decide) ?_
          refine ev_loc f_X12_together (nx := 49) rfl rfl rfl rfl ?_
          refine ev_ic f_X12_together (nx := 50) (v := 1) rfl (by decide) rfl ?_
          refine ev_inV2 f_X12_together (nx := 53) (lo2 := [(0, .ref 69), (1, .int 1)]) rfl rfl rfl rfl f_X12_refuse (hI.wf.s rfl) rfl rfl rfl rfl rfl ?_
          refine ev_loc f_X12_refuse (nx := 1) rfl rfl rfl rfl ?_
          refine ev_loc f_X12_refuse (nx := 2) rfl rfl rfl rfl ?_
          refine ev_putIT f_X12_refuse (nx := 5) rfl (hI.wf.s rfl) rfl rfl rfl (hI.put0 (hI.wf.s rfl) rfl rfl) (hX.upI rfl) (fun g20 e20 hI hX => ?_)
          refine ev_ic f_X12_refuse (nx := 6) (v := -1) rfl (by decide) rfl ?_
          refine ev_retK1 f_X12_refuse rfl rfl rfl ?_
          refine ev_aluvL f_X12_together (nx := 54) (w := -1) rfl rfl rfl (by decide) rfl ?_
          exact ev_ret f_X12_together rfl rfl rfl ⟨_, _, _, rfl, hI, hX, ⟨_, rfl⟩⟩
        · have r21 : ar2.toInt < (gi 70 0).toInt := Int32.lt_iff_toInt_lt.mp (t_nle h17)
          have u22 : ar2.toInt ≤ 5 := t_ltu (t_nle h17) u5 rfl
          refine ev_ic f_X12_isPort (nx := 15) (v := 1) rfl (by decide) rfl ?_
          refine ev_jmp f_X12_isPort (nx := 19) rfl rfl rfl ?_
          refine ev_retK1 f_X12_isPort rfl rfl rfl ?_
          refine ev_f f_X12_together (t1 := 48) (t2 := 16) rfl rfl rfl (by decide) ?_
          refine ev_loc f_X12_together (nx := 17) rfl rfl rfl rfl ?_
          refine ev_anyLE f_X12_together (nx := 18) rfl rfl rfl rfl (fun z23 e23 => ?_)
          have i23 : z23.toInt = ar3.toInt := by rw [e23]; exact Int32.toInt_toInt64 _
          refine ev_lc f_X12_together (nx := 19) (v := 0) rfl (by decide) rfl ?_
          refine ev_ldL f_X12_together (nx := 22) (v := 12) rfl (by decide) rfl ?_
          refine ev_inS3 f_X12_together (nx := 25) (lo2 := [(0, .long z23), (2, .long 0), (4, .long 12)]) rfl rfl rfl rfl f_X12_isFrom rfl rfl rfl rfl ?_
          refine ev_loc f_X12_isFrom (nx := 1) rfl rfl rfl rfl ?_
          refine ev_loc f_X12_isFrom (nx := 2) rfl rfl rfl rfl ?_
          refine ev_anyIE f_X12_isFrom (nx := 3) rfl rfl rfl rfl (fun z24 e24 => ?_)
          refine ev_if f_X12_isFrom (t1 := 17) (t2 := 6) rfl rfl rfl (fun h25 => ?_) (fun h25 => ?_)
          · have u26 : ar3.toInt ≤ ((-1):Int) := Int.le_sub_one_of_lt ((lgc_lt (by decide : (0 : Int64).toInt = 0)).mp (by have hh := h25; rw [e24, e23] at hh; exact hh))
            have u27 : z24.toInt ≤ (-1) := t_ltu h25 (by decide : (0:Int32).toInt ≤ (0:Int)) rfl
            refine ev_ic f_X12_isFrom (nx := 18) (v := 0) rfl (by decide) rfl ?_
            refine ev_retK1 f_X12_isFrom rfl rfl rfl ?_
            refine ev_t f_X12_together (t1 := 48) (t2 := 28) rfl rfl rfl (by decide) ?_
            refine ev_loc f_X12_together (nx := 49) rfl rfl rfl rfl ?_
            refine ev_ic f_X12_together (nx := 50) (v := 1) rfl (by decide) rfl ?_
            refine ev_inV2 f_X12_together (nx := 53) (lo2 := [(0, .ref 69), (1, .int 1)]) rfl rfl rfl rfl f_X12_refuse (hI.wf.s rfl) rfl rfl rfl rfl rfl ?_
            refine ev_loc f_X12_refuse (nx := 1) rfl rfl rfl rfl ?_
            refine ev_loc f_X12_refuse (nx := 2) rfl rfl rfl rfl ?_
            refine ev_putIT f_X12_refuse (nx := 5) rfl (hI.wf.s rfl) rfl rfl rfl (hI.put0 (hI.wf.s rfl) rfl rfl) (hX.upI rfl) (fun g28 e28 hI hX => ?_)
            refine ev_ic f_X12_refuse (nx := 6) (v := -1) rfl (by decide) rfl ?_
            refine ev_retK1 f_X12_refuse rfl rfl rfl ?_
            refine ev_aluvL f_X12_together (nx := 54) (w := -1) rfl rfl rfl (by decide) rfl ?_
            exact ev_ret f_X12_together rfl rfl rfl ⟨_, _, _, rfl, hI, hX, ⟨_, rfl⟩⟩
          · have l29 : (0:Int) ≤ ar3.toInt := (lgc_ge (by decide : (0 : Int64).toInt = 0)).mp (by have hh := (t_nlt h25); rw [e24, e23] at hh; exact hh)
            have l30 : 0 ≤ z24.toInt := t_lel (t_nlt h25) (by decide : (0:Int) ≤ (0:Int32).toInt)
            refine ev_loc f_X12_isFrom (nx := 7) rfl rfl rfl rfl ?_
            refine ev_loc f_X12_isFrom (nx := 9) rfl rfl rfl rfl ?_
            refine ev_anyIE f_X12_isFrom (nx := 10) rfl rfl rfl rfl (fun z31 e31 => ?_)
            refine ev_if f_X12_isFrom (t1 := 17) (t2 := 13) rfl rfl rfl (fun h32 => ?_) (fun h32 => ?_)
            · have l33 : (13:Int) ≤ ar3.toInt := Int.add_one_le_of_lt ((lgc_gt (by decide : (12 : Int64).toInt = 12)).mp (by have hh := h32; rw [e31, e23] at hh; exact hh))
              have l34 : 1 ≤ z31.toInt := t_ltl h32 (by decide : (0:Int) ≤ (0:Int32).toInt) rfl
              refine ev_ic f_X12_isFrom (nx := 18) (v := 0) rfl (by decide) rfl ?_
              refine ev_retK1 f_X12_isFrom rfl rfl rfl ?_
              refine ev_t f_X12_together (t1 := 48) (t2 := 28) rfl rfl rfl (by decide) ?_
              refine ev_loc f_X12_together (nx := 49) rfl rfl rfl rfl ?_
              refine ev_ic f_X12_together (nx := 50) (v := 1) rfl (by decide) rfl ?_
              refine ev_inV2 f_X12_together (nx := 53) (lo2 := [(0, .ref 69), (1, .int 1)]) rfl rfl rfl rfl f_X12_refuse (hI.wf.s rfl) rfl rfl rfl rfl rfl ?_
              refine ev_loc f_X12_refuse (nx := 1) rfl rfl rfl rfl ?_
              refine ev_loc f_X12_refuse (nx := 2) rfl rfl rfl rfl ?_
              refine ev_putIT f_X12_refuse (nx := 5) rfl (hI.wf.s rfl) rfl rfl rfl (hI.put0 (hI.wf.s rfl) rfl rfl) (hX.upI rfl) (fun g35 e35 hI hX => ?_)
              refine ev_ic f_X12_refuse (nx := 6) (v := -1) rfl (by decide) rfl ?_
              refine ev_retK1 f_X12_refuse rfl rfl rfl ?_
              refine ev_aluvL f_X12_together (nx := 54) (w := -1) rfl rfl rfl (by decide) rfl ?_
              exact ev_ret f_X12_together rfl rfl rfl ⟨_, _, _, rfl, hI, hX, ⟨_, rfl⟩⟩
            · have u36 : ar3.toInt ≤ (12:Int) := (lgc_le (by decide : (12 : Int64).toInt = 12)).mp (by have hh := (t_nlt h32); rw [e31, e23] at hh; exact hh)
              have u37 : z31.toInt ≤ 0 := t_leu (t_nlt h32) (by decide : (0:Int32).toInt ≤ (0:Int))
              refine ev_ic f_X12_isFrom (nx := 14) (v := 1) rfl (by decide) rfl ?_
              refine ev_jmp f_X12_isFrom (nx := 18) rfl rfl rfl ?_
              refine ev_retK1 f_X12_isFrom rfl rfl rfl ?_
              refine ev_f f_X12_together (t1 := 48) (t2 := 28) rfl rfl rfl (by decide) ?_
              refine ev_loc f_X12_together (nx := 29) rfl rfl rfl rfl ?_
              refine ev_loc f_X12_together (nx := 30) rfl rfl rfl rfl ?_
              refine ev_loc f_X12_together (nx := 31) rfl rfl rfl rfl ?_
              refine ev_qL f_X12_together (nx := 34) (r := [.ref 69]) rfl rfl rfl rfl rfl rfl rfl (c_m_heardOf hI (ar1) l4 u10) rfl hX rfl (fun w38 gi38 gl38 gr38 hI hX hC38 q38 => ?_)
              have q38 : 0 ≤ w38.toInt ∧ w38.toInt < 8589934592 := q38
              refine ev_loc f_X12_together (nx := 35) rfl rfl rfl rfl ?_
              refine ev_loc f_X12_together (nx := 36) rfl rfl rfl rfl ?_
              refine ev_qL f_X12_together (nx := 39) (r := [.long w38, .ref 69]) rfl rfl rfl rfl rfl rfl rfl (c_m_heardOf hI (ar2) l15 u22) rfl hX rfl (fun w39 gi39 gl39 gr39 hI hX hC39 q39 => ?_)
              have q39 : 0 ≤ w39.toInt ∧ w39.toInt < 8589934592 := q39
              refine ev_loc f_X12_together (nx := 40) rfl rfl rfl rfl ?_
              refine ev_anyLE f_X12_together (nx := 41) rfl rfl rfl rfl (fun z40 e40 => ?_)
              refine ev_anyLE f_X12_together (nx := 42) rfl rfl rfl rfl (fun z41 e41 => ?_)
              refine ev_inV2 f_X12_together (nx := 45) (lo2 := [(0, .ref 69), (1, .long z41)]) rfl rfl rfl rfl f_X12_givesLong (hI.wf.s rfl) rfl rfl rfl rfl rfl ?_
              refine ev_loc f_X12_givesLong (nx := 1) rfl rfl rfl rfl ?_
              refine ev_ic f_X12_givesLong (nx := 2) (v := 0) rfl (by decide) rfl ?_
              refine ev_putIT f_X12_givesLong (nx := 5) rfl (hI.wf.s rfl) rfl rfl rfl (hI.put0 (hI.wf.s rfl) rfl rfl) (hX.upI rfl) (fun g42 e42 hI hX => ?_)
              refine ev_loc f_X12_givesLong (nx := 6) rfl rfl rfl rfl ?_
              refine ev_retK1 f_X12_givesLong rfl rfl rfl ?_
              refine ev_jmp f_X12_together (nx := 54) rfl rfl rfl ?_
              exact ev_ret f_X12_together rfl rfl rfl ⟨_, _, _, rfl, hI, hX, ⟨_, rfl⟩⟩
noncomputable def wl_m_lasts : List (Nat × Nat) := [(69, 2)]
theorem c_m_lasts {X : x_Ext} {d : Nat} {sh : List (Nat ⊕ (Nat × Nat))} {gi : Nat → Nat → Int32} {gl : Nat → Nat → Int64} {gr : Nat → Nat → Value} (hI : t_I sh gi gr) (ar1 : Int32) : x_Me X (d + 4) n_X12_lasts [.ref 69, .int ar1] (sh, gi, gl, gr) (t_P wl_m_lasts sh gi gl gr (t_Ri (-2147483648) 2147483647)) := by
  have hX : t_X wl_m_lasts sh gi gl gr gi gl gr := t_X.rf
  refine me_i f_X12_lasts (hI.wf.s rfl) rfl rfl rfl ?_
  refine ev_loc f_X12_lasts (nx := 1) rfl rfl rfl rfl ?_
  refine ev_loc f_X12_lasts (nx := 2) rfl rfl rfl rfl ?_
  refine ev_inV2 f_X12_lasts (nx := 5) (lo2 := [(0, .ref 69), (1, .int ar1)]) rfl rfl rfl rfl f_X12_isPort (hI.wf.s rfl) rfl rfl rfl rfl rfl ?_
  refine ev_loc f_X12_isPort (nx := 1) rfl rfl rfl rfl ?_
  refine ev_if f_X12_isPort (t1 := 18) (t2 := 4) rfl rfl rfl (fun h1 => ?_) (fun h1 => ?_)
  · have u2 : ar1.toInt ≤ (-1) := t_ltu h1 (by decide : (0:Int32).toInt ≤ (0:Int)) rfl
    refine ev_ic f_X12_isPort (nx := 19) (v := 0) rfl (by decide) rfl ?_
    refine ev_retK1 f_X12_isPort rfl rfl rfl ?_
    refine ev_t f_X12_lasts (t1 := 8) (t2 := 14) rfl rfl rfl (by decide) ?_
    refine ev_loc f_X12_lasts (nx := 9) rfl rfl rfl rfl ?_
    refine ev_ic f_X12_lasts (nx := 10) (v := 1) rfl (by decide) rfl ?_
    refine ev_inV2 f_X12_lasts (nx := 13) (lo2 := [(0, .ref 69), (1, .int 1)]) rfl rfl rfl rfl f_X12_refuse (hI.wf.s rfl) rfl rfl rfl rfl rfl ?_
    refine ev_loc f_X12_refuse (nx := 1) rfl rfl rfl rfl ?_
    refine ev_loc f_X12_refuse (nx := 2) rfl rfl rfl rfl ?_
    refine ev_putIT f_X12_refuse (nx := 5) rfl (hI.wf.s rfl) rfl rfl rfl (hI.put0 (hI.wf.s rfl) rfl rfl) (hX.upI rfl) (fun g3 e3 hI hX => ?_)
    refine ev_ic f_X12_refuse (nx := 6) (v := -1) rfl (by decide) rfl ?_
    refine ev_retK1 f_X12_refuse rfl rfl rfl ?_
    exact ev_ret f_X12_lasts rfl rfl rfl ⟨_, _, _, rfl, hI, hX, ⟨_, rfl, (Int.le_trans (by decide : ((-2147483648):Int) ≤ (-1)) (by decide : ((-1):Int) ≤ ((-1):Int32).toInt)), (Int.le_trans (by decide : ((-1):Int32).toInt ≤ ((-1):Int)) (by decide : ((-1):Int) ≤ 2147483647))⟩⟩
  · have l4 : 0 ≤ ar1.toInt := t_lel (t_nlt h1) (by decide : (0:Int) ≤ (0:Int32).toInt)
    refine ev_loc f_X12_isPort (nx := 5) rfl rfl rfl rfl ?_
    refine ev_loc f_X12_isPort (nx := 6) rfl rfl rfl rfl ?_
    refine ev_getR f_X12_isPort (nx := 9) rfl (hI.wf.s rfl) rfl rfl (hI.wf.r rfl) rfl rfl ?_
    refine ev_ic f_X12_isPort (nx := 10) (v := 0) rfl (by decide) rfl ?_
    obtain ⟨l5, u5⟩ := hI.ab (by decide +kernel : t_abr 70 0 0 0 6 = true) (Nat.le_refl _) (Nat.le_refl _)
    refine ev_ialdv f_X12_isPort (nx := 11) (w := (gi 70 0)) rfl (hI.wf.s rfl) (by decide) (rfl : (0 : Int32).toNatClampNeg = 0) (by decide) rfl rfl ?_
    refine ev_if f_X12_isPort (t1 := 18) (t2 := 14) rfl rfl rfl (fun h6 => ?_) (fun h6 => ?_)
    · have r7 : (gi 70 0).toInt ≤ ar1.toInt := Int32.le_iff_toInt_le.mp h6
      refine ev_ic f_X12_isPort (nx := 19) (v := 0) rfl (by decide) rfl ?_
      refine ev_retK1 f_X12_isPort rfl rfl rfl ?_
      refine ev_t f_X12_lasts (t1 := 8) (t2 := 14) rfl rfl rfl (by decide) ?_
      refine ev_loc f_X12_lasts (nx := 9) rfl rfl rfl rfl ?_
      refine ev_ic f_X12_lasts (nx := 10) (v := 1) rfl (by decide) rfl ?_
      refine ev_inV2 f_X12_lasts (nx := 13) (lo2 := [(0, .ref 69), (1, .int 1)]) rfl rfl rfl rfl f_X12_refuse (hI.wf.s rfl) rfl rfl rfl rfl rfl ?_
      refine ev_loc f_X12_refuse (nx := 1) rfl rfl rfl rfl ?_
      refine ev_loc f_X12_refuse (nx := 2) rfl rfl rfl rfl ?_
      refine ev_putIT f_X12_refuse (nx := 5) rfl (hI.wf.s rfl) rfl rfl rfl (hI.put0 (hI.wf.s rfl) rfl rfl) (hX.upI rfl) (fun g8 e8 hI hX => ?_)
      refine ev_ic f_X12_refuse (nx := 6) (v := -1) rfl (by decide) rfl ?_
      refine ev_retK1 f_X12_refuse rfl rfl rfl ?_
      exact ev_ret f_X12_lasts rfl rfl rfl ⟨_, _, _, rfl, hI, hX, ⟨_, rfl, (Int.le_trans (by decide : ((-2147483648):Int) ≤ (-1)) (by decide : ((-1):Int) ≤ ((-1):Int32).toInt)), (Int.le_trans (by decide : ((-1):Int32).toInt ≤ ((-1):Int)) (by decide : ((-1):Int) ≤ 2147483647))⟩⟩
    · have r9 : ar1.toInt < (gi 70 0).toInt := Int32.lt_iff_toInt_lt.mp (t_nle h6)
      have u10 : ar1.toInt ≤ 5 := t_ltu (t_nle h6) u5 rfl
      have l11 : 1 ≤ (gi 70 0).toInt := t_ltl (t_nle h6) l4 rfl
      refine ev_ic f_X12_isPort (nx := 15) (v := 1) rfl (by decide) rfl ?_
      refine ev_jmp f_X12_isPort (nx := 19) rfl rfl rfl ?_
      refine ev_retK1 f_X12_isPort rfl rfl rfl ?_
      refine ev_f f_X12_lasts (t1 := 8) (t2 := 14) rfl rfl rfl (by decide) ?_
      refine ev_ic f_X12_lasts (nx := 15) (v := 0) rfl (by decide) rfl ?_
      refine ev_loc f_X12_lasts (nx := 16) (lo' := [(2, .int 0), (0, .ref 69), (1, .int ar1)]) rfl rfl rfl rfl ?_
      refine ev_loc f_X12_lasts (nx := 17) rfl rfl rfl rfl ?_
      refine ev_loc f_X12_lasts (nx := 18) rfl rfl rfl rfl ?_
      refine ev_qL f_X12_lasts (nx := 21) (r := []) rfl rfl rfl rfl rfl rfl rfl (c_m_heardOf hI (ar1) l4 u10) rfl hX rfl (fun w12 gi12 gl12 gr12 hI hX hC12 q12 => ?_)
      have q12 : 0 ≤ w12.toInt ∧ w12.toInt < 8589934592 := q12
      refine ev_loc f_X12_lasts (nx := 22) (lo' := [(3, .long w12), (2, .int 0), (0, .ref 69), (1, .int ar1)]) rfl rfl rfl rfl ?_
      have L13 : ∀ (m13 : Nat) (gi13 : Nat → Nat → Int32) (gl13 : Nat → Nat → Int64) (gr13 : Nat → Nat → Value) (y13_3 : Int64) (y13_2 : Int32), t_I sh gi13 gr13 → t_X wl_m_lasts sh gi gl gr gi13 gl13 gr13 → gi13 70 0 = (gi 70 0) → y13_3.toInt.toNat = m13 → x_Ev X (d + 4) n_X12_lasts 22 [(3, .long y13_3), (2, .int y13_2), (0, .ref 69), (1, .int ar1)] [] (sh, gi13, gl13, gr13) (t_P wl_m_lasts sh gi gl gr (t_Ri (-2147483648) 2147483647)) := by
        intro m13
        induction m13 using Nat.strongRecOn with
        | _ m13 ih13 =>
        intro gi13 gl13 gr13 y13_3 y13_2 hI hX c13_0 hm13
        refine ev_loc f_X12_lasts (nx := 23) rfl rfl rfl rfl ?_
        refine ev_lc f_X12_lasts (nx := 24) (v := 0) rfl (by decide) rfl ?_
        refine ev_anyIE f_X12_lasts (nx := 25) rfl rfl rfl rfl (fun z14 e14 => ?_)
        refine ev_if f_X12_lasts (t1 := 38) (t2 := 28) rfl rfl rfl (fun h15 => ?_) (fun h15 => ?_)
        · have u16 : z14.toInt ≤ 0 := t_leu h15 (by decide : (0:Int32).toInt ≤ (0:Int))
          refine ev_loc f_X12_lasts (nx := 39) rfl rfl rfl rfl ?_
          refine ev_loc f_X12_lasts (nx := 40) rfl rfl rfl rfl ?_
          refine ev_inV2 f_X12_lasts (nx := 43) (lo2 := [(0, .ref 69), (1, .int y13_2)]) rfl rfl rfl rfl f_X12_gives (hI.wf.s rfl) rfl rfl rfl rfl rfl ?_
          refine ev_loc f_X12_gives (nx := 1) rfl rfl rfl rfl ?_
          refine ev_ic f_X12_gives (nx := 2) (v := 0) rfl (by decide) rfl ?_
          refine ev_putIT f_X12_gives (nx := 5) rfl (hI.wf.s rfl) rfl rfl rfl (hI.put0 (hI.wf.s rfl) rfl rfl) (hX.upI rfl) (fun g17 e17 hI hX => ?_)
          refine ev_loc f_X12_gives (nx := 6) rfl rfl rfl rfl ?_
          refine ev_retK1 f_X12_gives rfl rfl rfl ?_
          exact ev_ret f_X12_lasts rfl rfl rfl ⟨_, _, _, rfl, hI, hX, ⟨_, rfl, (t_lo y13_2), (t_hi y13_2)⟩⟩
        · have l18 : 1 ≤ z14.toInt := t_ltl (t_nle h15) (by decide : (0:Int) ≤ (0:Int32).toInt) rfl
          refine ev_incN f_X12_lasts (nx := 31) rfl rfl (by decide) rfl (fun z19 => ?_)
          refine ev_loc f_X12_lasts (nx := 32) rfl rfl rfl rfl ?_
          refine ev_ic f_X12_lasts (nx := 33) (v := 1) rfl (by decide) rfl ?_
          refine ev_anyLE f_X12_lasts (nx := 34) rfl rfl rfl rfl (fun z20 e20 => ?_)
          refine ev_loc f_X12_lasts (nx := 35) (lo' := [(3, .long z20), (2, .int z19), (0, .ref 69), (1, .int ar1)]) rfl rfl rfl rfl ?_
          refine ev_jmp f_X12_lasts (nx := 22) rfl rfl rfl ?_
          refine ev_sub (lo := [(3, .long z20), (2, .int z19), (0, .ref 69), (1, .int ar1)]) rfl (t_sc rfl (t_sc rfl (t_sc rfl (t_sc rfl t_sn)))) ?_
          exact ih13 _ (by have := t_shr1 e14 h15 e20; omega) gi13 gl13 gr13 (z20) (z19) hI hX  c13_0 rfl
      refine ev_sub (lo := [(3, .long w12), (2, .int 0), (0, .ref 69), (1, .int ar1)]) rfl (t_sc rfl (t_sc rfl (t_sc rfl (t_sc rfl t_sn)))) ?_
      exact L13 _ gi12 gl12 gr12 (w12) (0) hI hX  ((hC12.1 70 0 rfl).1.trans rfl) rfl
noncomputable def wl_m_far : List (Nat × Nat) := [(69, 2)]
theorem c_m_far {X : x_Ext} {d : Nat} {sh : List (Nat ⊕ (Nat × Nat))} {gi : Nat → Nat → Int32} {gl : Nat → Nat → Int64} {gr : Nat → Nat → Value} (hI : t_I sh gi gr) (ar1 : Int32) (ar2 : Int32) : x_Me X (d + 4) n_X12_far [.ref 69, .int ar1, .int ar2] (sh, gi, gl, gr) (t_P wl_m_far sh gi gl gr (t_Ri (-2147483648) 2147483647)) := by
  have hX : t_X wl_m_far sh gi gl gr gi gl gr := t_X.rf
  refine me_i f_X12_far (hI.wf.s rfl) rfl rfl rfl ?_
  refine ev_loc f_X12_far (nx := 1) rfl rfl rfl rfl ?_
  refine ev_loc f_X12_far (nx := 2) rfl rfl rfl rfl ?_
  refine ev_inV2 f_X12_far (nx := 5) (lo2 := [(0, .ref 69), (1, .int ar1)]) rfl rfl rfl rfl f_X12_isPort (hI.wf.s rfl) rfl rfl rfl rfl rfl ?_
  refine ev_loc f_X12_isPort (nx := 1) rfl rfl rfl rfl ?_
  refine ev_if f_X12_isPort (t1 := 18) (t2 := 4) rfl rfl rfl (fun h1 => ?_) (fun h1 => ?_)
  · have u2 : ar1.toInt ≤ (-1) := t_ltu h1 (by decide : (0:Int32).toInt ≤ (0:Int)) rfl
    refine ev_ic f_X12_isPort (nx := 19) (v := 0) rfl (by decide) rfl ?_
    refine ev_retK1 f_X12_isPort rfl rfl rfl ?_
    refine ev_t f_X12_far (t1 := 37) (t2 := 8) rfl rfl rfl (by decide) ?_
    refine ev_loc f_X12_far (nx := 38) rfl rfl rfl rfl ?_
    refine ev_ic f_X12_far (nx := 39) (v := 1) rfl (by decide) rfl ?_
    refine ev_inV2 f_X12_far (nx := 42) (lo2 := [(0, .ref 69), (1, .int 1)]) rfl rfl rfl rfl f_X12_refuse (hI.wf.s rfl) rfl rfl rfl rfl rfl ?_
    refine ev_loc f_X12_refuse (nx := 1) rfl rfl rfl rfl ?_
    refine ev_loc f_X12_refuse (nx := 2) rfl rfl rfl rfl ?_
    refine ev_putIT f_X12_refuse (nx := 5) rfl (hI.wf.s rfl) rfl rfl rfl (hI.put0 (hI.wf.s rfl) rfl rfl) (hX.upI rfl) (fun g3 e3 hI hX => ?_)
    refine ev_ic f_X12_refuse (nx := 6) (v := -1) rfl (by decide) rfl ?_
    refine ev_retK1 f_X12_refuse rfl rfl rfl ?_
    exact ev_ret f_X12_far rfl rfl rfl ⟨_, _, _, rfl, hI, hX, ⟨_, rfl, (Int.le_trans (by decide : ((-2147483648):Int) ≤ (-1)) (by decide : ((-1):Int) ≤ ((-1):Int32).toInt)), (Int.le_trans (by decide : ((-1):Int32).toInt ≤ ((-1):Int)) (by decide : ((-1):Int) ≤ 2147483647))⟩⟩
  · have l4 : 0 ≤ ar1.toInt := t_lel (t_nlt h1) (by decide : (0:Int) ≤ (0:Int32).toInt)
    refine ev_loc f_X12_isPort (nx := 5) rfl rfl rfl rfl ?_
    refine ev_loc f_X12_isPort (nx := 6) rfl rfl rfl rfl ?_
    refine ev_getR f_X12_isPort (nx := 9) rfl (hI.wf.s rfl) rfl rfl (hI.wf.r rfl) rfl rfl ?_
    refine ev_ic f_X12_isPort (nx := 10) (v := 0) rfl (by decide) rfl ?_
    obtain ⟨l5, u5⟩ := hI.ab (by decide +kernel : t_abr 70 0 0 0 6 = true) (Nat.le_refl _) (Nat.le_refl _)
    refine ev_ialdv f_X12_isPort (nx := 11) (w := (gi 70 0)) rfl (hI.wf.s rfl) (by decide) (rfl : (0 : Int32).toNatClampNeg = 0) (by decide) rfl rfl ?_
    refine ev_if f_X12_isPort (t1 := 18) (t2 := 14) rfl rfl rfl (fun h6 => ?_) (fun h6 => ?_)
    · have r7 : (gi 70 0).toInt ≤ ar1.toInt := Int32.le_iff_toInt_le.mp h6
      refine ev_ic f_X12_isPort (nx := 19) (v := 0) rfl (by decide) rfl ?_
      refine ev_retK1 f_X12_isPort rfl rfl rfl ?_
      refine ev_t f_X12_far (t1 := 37) (t2 := 8) rfl rfl rfl (by decide) ?_
      refine ev_loc f_X12_far (nx := 38) rfl rfl rfl rfl ?_
      refine ev_ic f_X12_far (nx := 39) (v := 1) rfl (by decide) rfl ?_
      refine ev_inV2 f_X12_far (nx := 42) (lo2 := [(0, .ref 69), (1, .int 1)]) rfl rfl rfl rfl f_X12_refuse (hI.wf.s rfl) rfl rfl rfl rfl rfl ?_
      refine ev_loc f_X12_refuse (nx := 1) rfl rfl rfl rfl ?_
      refine ev_loc f_X12_refuse (nx := 2) rfl rfl rfl rfl ?_
      refine ev_putIT f_X12_refuse (nx := 5) rfl (hI.wf.s rfl) rfl rfl rfl (hI.put0 (hI.wf.s rfl) rfl rfl) (hX.upI rfl) (fun g8 e8 hI hX => ?_)
      refine ev_ic f_X12_refuse (nx := 6) (v := -1) rfl (by decide) rfl ?_
      refine ev_retK1 f_X12_refuse rfl rfl rfl ?_
      exact ev_ret f_X12_far rfl rfl rfl ⟨_, _, _, rfl, hI, hX, ⟨_, rfl, (Int.le_trans (by decide : ((-2147483648):Int) ≤ (-1)) (by decide : ((-1):Int) ≤ ((-1):Int32).toInt)), (Int.le_trans (by decide : ((-1):Int32).toInt ≤ ((-1):Int)) (by decide : ((-1):Int) ≤ 2147483647))⟩⟩
    · have r9 : ar1.toInt < (gi 70 0).toInt := Int32.lt_iff_toInt_lt.mp (t_nle h6)
      have u10 : ar1.toInt ≤ 5 := t_ltu (t_nle h6) u5 rfl
      have l11 : 1 ≤ (gi 70 0).toInt := t_ltl (t_nle h6) l4 rfl
      refine ev_ic f_X12_isPort (nx := 15) (v := 1) rfl (by decide) rfl ?_
      refine ev_jmp f_X12_isPort (nx := 19) rfl rfl rfl ?_
      refine ev_retK1 f_X12_isPort rfl rfl rfl ?_
      refine ev_f f_X12_far (t1 := 37) (t2 := 8) rfl rfl rfl (by decide) ?_
      refine ev_loc f_X12_far (nx := 9) rfl rfl rfl rfl ?_
      refine ev_loc f_X12_far (nx := 10) rfl rfl rfl rfl ?_
      refine ev_inV2 f_X12_far (nx := 13) (lo2 := [(0, .ref 69), (1, .int ar2)]) rfl rfl rfl rfl f_X12_isPort (hI.wf.s rfl) rfl rfl rfl rfl rfl ?_
      refine ev_loc f_X12_isPort (nx := 1) rfl rfl rfl rfl ?_
      refine ev_if f_X12_isPort (t1 := 18) (t2 := 4) rfl rfl rfl (fun h12 => ?_) (fun h12 => ?_)
      · have u13 : ar2.toInt ≤ (-1) := t_ltu h12 (by decide : (0:Int32).toInt ≤ (0:Int)) rfl
        refine ev_ic f_X12_isPort (nx := 19) (v := 0) rfl (by decide) rfl ?_
        refine ev_retK1 f_X12_isPort rfl rfl rfl ?_
        refine ev_t f_X12_far (t1 := 37) (t2 := 16) rfl rfl rfl (by decide) ?_
        refine ev_loc f_X12_far (nx := 38) rfl rfl rfl rfl ?_
        refine ev_ic f_X12_far (nx := 39) (v := 1) rfl (by decide) rfl ?_
        refine ev_inV2 f_X12_far (nx := 42) (lo2 := [(0, .ref 69), (1, .int 1)]) rfl rfl rfl rfl f_X12_refuse (hI.wf.s rfl) rfl rfl rfl rfl rfl ?_
        refine ev_loc f_X12_refuse (nx := 1) rfl rfl rfl rfl ?_
        refine ev_loc f_X12_refuse (nx := 2) rfl rfl rfl rfl ?_
        refine ev_putIT f_X12_refuse (nx := 5) rfl (hI.wf.s rfl) rfl rfl rfl (hI.put0 (hI.wf.s rfl) rfl rfl) (hX.upI rfl) (fun g14 e14 hI hX => ?_)
        refine ev_ic f_X12_refuse (nx := 6) (v := -1) rfl (by decide) rfl ?_
        refine ev_retK1 f_X12_refuse rfl rfl rfl ?_
        exact ev_ret f_X12_far rfl rfl rfl ⟨_, _, _, rfl, hI, hX, ⟨_, rfl, (Int.le_trans (by decide : ((-2147483648):Int) ≤ (-1)) (by decide : ((-1):Int) ≤ ((-1):Int32).toInt)), (Int.le_trans (by decide : ((-1):Int32).toInt ≤ ((-1):Int)) (by decide : ((-1):Int) ≤ 2147483647))⟩⟩
      · have l15 : 0 ≤ ar2.toInt := t_lel (t_nlt h12) (by decide : (0:Int) ≤ (0:Int32).toInt)
        refine ev_loc f_X12_isPort (nx := 5) rfl rfl rfl rfl ?_
        refine ev_loc f_X12_isPort (nx := 6) rfl rfl rfl rfl ?_
        refine ev_getR f_X12_isPort (nx := 9) rfl (hI.wf.s rfl) rfl rfl (hI.wf.r rfl) rfl rfl ?_
        refine ev_ic f_X12_isPort (nx := 10) (v := 0) rfl (by decide) rfl ?_
        refine ev_ialdv f_X12_isPort (nx := 11) (w := (gi 70 0)) rfl (hI.wf.s rfl) (by decide) (rfl : (0 : Int32).toNatClampNeg = 0) (by decide) rfl rfl ?_
        refine ev_if f_X12_isPort (t1 := 18) (t2 := 14) rfl rfl rfl (fun h17 => ?_) (fun h17 => ?_)
        · have r18 : (gi 70 0).toInt ≤ ar2.toInt := Int32.le_iff_toInt_le.mp h17
          have l19 : 1 ≤ ar2.toInt := t_lel h17 l11
          refine ev_ic f_X12_isPort (nx := 19) (v := 0) rfl (by decide) rfl ?_
          refine ev_retK1 f_X12_isPort rfl rfl rfl ?_
          refine ev_t f_X12_far (t1 := 37) (t2 := 16) rfl rfl rfl (by decide) ?_
          refine ev_loc f_X12_far (nx := 38) rfl rfl rfl rfl ?_
          refine ev_ic f_X12_far (nx := 39) (v := 1) rfl (by decide) rfl ?_
          refine ev_inV2 f_X12_far (nx := 42) (lo2 := [(0, .ref 69), (1, .int 1)]) rfl rfl rfl rfl f_X12_refuse (hI.wf.s rfl) rfl rfl rfl rfl rfl ?_
          refine ev_loc f_X12_refuse (nx := 1) rfl rfl rfl rfl ?_
          refine ev_loc f_X12_refuse (nx := 2) rfl rfl rfl rfl ?_
          refine ev_putIT f_X12_refuse (nx := 5) rfl (hI.wf.s rfl) rfl rfl rfl (hI.put0 (hI.wf.s rfl) rfl rfl) (hX.upI rfl) (fun g20 e20 hI hX => ?_)
          refine ev_ic f_X12_refuse (nx := 6) (v := -1) rfl (by decide) rfl ?_
          refine ev_retK1 f_X12_refuse rfl rfl rfl ?_
          exact ev_ret f_X12_far rfl rfl rfl ⟨_, _, _, rfl, hI, hX, ⟨_, rfl, (Int.le_trans (by decide : ((-2147483648):Int) ≤ (-1)) (by decide : ((-1):Int) ≤ ((-1):Int32).toInt)), (Int.le_trans (by decide : ((-1):Int32).toInt ≤ ((-1):Int)) (by decide : ((-1):Int) ≤ 2147483647))⟩⟩
        · have r21 : ar2.toInt < (gi 70 0).toInt := Int32.lt_iff_toInt_lt.mp (t_nle h17)
          have u22 : ar2.toInt ≤ 5 := t_ltu (t_nle h17) u5 rfl
          refine ev_ic f_X12_isPort (nx := 15) (v := 1) rfl (by decide) rfl ?_
          refine ev_jmp f_X12_isPort (nx := 19) rfl rfl rfl ?_
          refine ev_retK1 f_X12_isPort rfl rfl rfl ?_
          refine ev_f f_X12_far (t1 := 37) (t2 := 16) rfl rfl rfl (by decide) ?_
          refine ev_loc f_X12_far (nx := 17) rfl rfl rfl rfl ?_
          refine ev_loc f_X12_far (nx := 18) rfl rfl rfl rfl ?_
          refine ev_loc f_X12_far (nx := 19) rfl rfl rfl rfl ?_
          refine ev_qL f_X12_far (nx := 22) (r := [.ref 69]) rfl rfl rfl rfl rfl rfl rfl (c_m_heardOf hI (ar1) l4 u10) rfl hX rfl (fun w23 gi23 gl23 gr23 hI hX hC23 q23 => ?_)
          have q23 : 0 ≤ w23.toInt ∧ w23.toInt < 8589934592 := q23
          refine ev_loc f_X12_far (nx := 23) rfl rfl rfl rfl ?_
          refine ev_loc f_X12_far (nx := 24) rfl rfl rfl rfl ?_
          refine ev_qL f_X12_far (nx := 27) (r := [.long w23, .ref 69]) rfl rfl rfl rfl rfl rfl rfl (c_m_heardOf hI (ar2) l15 u22) rfl hX rfl (fun w24 gi24 gl24 gr24 hI hX hC24 q24 => ?_)
          have q24 : 0 ≤ w24.toInt ∧ w24.toInt < 8589934592 := q24
          refine ev_anyL f_X12_far (nx := 28) rfl rfl rfl rfl (fun z25 => ?_)
          refine ev_cI f_X12_far (nx := 31) (r := [.ref 69]) rfl rfl rfl rfl rfl rfl rfl (c_m_bits hI (z25)) rfl hX rfl (fun w26 gi26 gl26 gr26 l26 u26 hI hX hC26 => ?_)
          refine ev_inV2 f_X12_far (nx := 34) (lo2 := [(0, .ref 69), (1, .int w26)]) rfl rfl rfl rfl f_X12_gives (hI.wf.s rfl) rfl rfl rfl rfl rfl ?_
          refine ev_loc f_X12_gives (nx := 1) rfl rfl rfl rfl ?_
          refine ev_ic f_X12_gives (nx := 2) (v := 0) rfl (by decide) rfl ?_
          refine ev_putIT f_X12_gives (nx := 5) rfl (hI.wf.s rfl) rfl rfl rfl (hI.put0 (hI.wf.s rfl) rfl rfl) (hX.upI rfl) (fun g27 e27 hI hX => ?_)
          refine ev_loc f_X12_gives (nx := 6) rfl rfl rfl rfl ?_
          refine ev_retK1 f_X12_gives rfl rfl rfl ?_
          refine ev_jmp f_X12_far (nx := 42) rfl rfl rfl ?_
          exact ev_ret f_X12_far rfl rfl rfl ⟨_, _, _, rfl, hI, hX, ⟨_, rfl, l26, u26⟩⟩
noncomputable def wl_m_reads : List (Nat × Nat) := [(69, 29), (78, 9999), (79, 9999), (80, 9999)]
noncomputable def Q_m_reads (gi : Nat → Nat → Int32) (gl : Nat → Nat → Int64) (gr : Nat → Nat → Value) (ar1 : Int32) (ar2 : Int32) (ar3 : Int32) : (Nat → Nat → Int32) → (Nat → Nat → Int64) → (Nat → Nat → Value) → Prop := fun (gi2 : Nat → Nat → Int32) (gl2 : Nat → Nat → Int64) (gr2 : Nat → Nat → Value) => (gi2 69 29).toInt = (gi 69 29).toInt + 1
theorem c_m_reads {X : x_Ext} {d : Nat} {sh : List (Nat ⊕ (Nat × Nat))} {gi : Nat → Nat → Int32} {gl : Nat → Nat → Int64} {gr : Nat → Nat → Value} (hI : t_I sh gi gr) (ar1 : Int32) (ar2 : Int32) (ar3 : Int32) (e_p0 : (gi 69 29).toInt ≤ 499) : x_Me X (d + 1) n_X12_reads [.ref 69, .int ar1, .int ar2, .int ar3] (sh, gi, gl, gr) (t_PN wl_m_reads sh gi gl gr (Q_m_reads gi gl gr ar1 ar2 ar3)) := by
  have hX : t_X wl_m_reads sh gi gl gr gi gl gr := t_X.rf
  refine me_i f_X12_reads (hI.wf.s rfl) rfl rfl rfl ?_
  obtain ⟨l1, u1⟩ := hI.b (hI.wf.s (k := 69) rfl) (t_bdK rfl : t_bd 11 29 = some (0, 500))
  refine ev_loc f_X12_reads (nx := 1) rfl rfl rfl rfl ?_
  refine ev_getR f_X12_reads (nx := 4) rfl (hI.wf.s rfl) rfl rfl (hI.wf.r rfl) rfl rfl ?_
  refine ev_loc f_X12_reads (nx := 5) rfl rfl rfl rfl ?_
  refine ev_gvI f_X12_reads (nx := 8) (w := (gi 69 29)) rfl (hI.wf.s rfl) rfl rfl rfl rfl ?_
  refine ev_loc f_X12_reads (nx := 9) rfl rfl rfl rfl ?_
  have u3 : (gi 69 29).toInt ≤ (499:Int) := (by omega)
  refine ev_iastT f_X12_reads (nx := 10) rfl (hI.wf.s rfl) l1 (by decide) u3 (by decide) rfl (hI.astG (hI.wf.s rfl) (fun lo hi e => absurd e (t_nob (by decide +kernel) _)) (fun k hk e => by have := hk.2.1; omega)) (hX.upI (t_inA_ok rfl)) (fun g2 e2 hI hX => ?_)
  refine ev_loc f_X12_reads (nx := 11) rfl rfl rfl rfl ?_
  refine ev_getR f_X12_reads (nx := 14) rfl (hI.wf.s rfl) rfl rfl (hI.wf.r rfl) rfl rfl ?_
  refine ev_loc f_X12_reads (nx := 15) rfl rfl rfl rfl ?_
  refine ev_gvI f_X12_reads (nx := 18) (w := (gi 69 29)) rfl (hI.wf.s rfl) rfl rfl ((by rw [e2]; exact x_up2_off (Or.inl (by decide)) : g2 69 29 = gi 69 29).trans rfl) rfl ?_
  refine ev_loc f_X12_reads (nx := 19) rfl rfl rfl rfl ?_
  refine ev_iastT f_X12_reads (nx := 20) rfl (hI.wf.s rfl) l1 (by decide) u3 (by decide) rfl (hI.astG (hI.wf.s rfl) (fun lo hi e => absurd e (t_nob (by decide +kernel) _)) (fun k hk e => by have := hk.2.1; omega)) (hX.upI (t_inA_ok rfl)) (fun g4 e4 hI hX => ?_)
  refine ev_loc f_X12_reads (nx := 21) rfl rfl rfl rfl ?_
  refine ev_getR f_X12_reads (nx := 24) rfl (hI.wf.s rfl) rfl rfl (hI.wf.r rfl) rfl rfl ?_
  refine ev_loc f_X12_reads (nx := 25) rfl rfl rfl rfl ?_
  refine ev_gvI f_X12_reads (nx := 28) (w := (gi 69 29)) rfl (hI.wf.s rfl) rfl rfl ((by rw [e4]; exact x_up2_off (Or.inl (by decide)) : g4 69 29 = g2 69 29).trans ((by rw [e2]; exact x_up2_off (Or.inl (by decide)) : g2 69 29 = gi 69 29).trans rfl)) rfl ?_
  refine ev_loc f_X12_reads (nx := 29) rfl rfl rfl rfl ?_
  refine ev_iastT f_X12_reads (nx := 30) rfl (hI.wf.s rfl) l1 (by decide) u3 (by decide) rfl (hI.astG (hI.wf.s rfl) (fun lo hi e => absurd e (t_nob (by decide +kernel) _)) (fun k hk e => by have := hk.2.1; omega)) (hX.upI (t_inA_ok rfl)) (fun g5 e5 hI hX => ?_)
  refine ev_loc f_X12_reads (nx := 31) rfl rfl rfl rfl ?_
  refine ev_alu f_X12_reads (nx := 32) rfl rfl rfl rfl ?_
  refine ev_gvI f_X12_reads (nx := 35) (w := (gi 69 29)) rfl (hI.wf.s rfl) rfl rfl ((by rw [e5]; exact x_up2_off (Or.inl (by decide)) : g5 69 29 = g4 69 29).trans ((by rw [e4]; exact x_up2_off (Or.inl (by decide)) : g4 69 29 = g2 69 29).trans ((by rw [e2]; exact x_up2_off (Or.inl (by decide)) : g2 69 29 = gi 69 29).trans rfl))) rfl ?_
  refine ev_ic f_X12_reads (nx := 36) (v := 1) rfl (by decide) rfl ?_
  refine ev_addC f_X12_reads (nx := 37) (c := 1) (l := 1) (u := 500) rfl (by decide) l1 u3 rfl rfl (by decide) (by decide) rfl (fun z6 e6 l6 u6 => ?_)
  refine ev_putIT f_X12_reads (nx := 40) rfl (hI.wf.s rfl) rfl rfl rfl (hI.putB (hI.wf.s rfl) rfl rfl l6 (by decide) u6 (by decide)) (hX.upI rfl) (fun g7 e7 hI hX => ?_)
  exact ev_ret f_X12_reads rfl rfl rfl ⟨_, _, _, rfl, hI, hX, ⟨rfl, (show (g7 69 29).toInt = (gi 69 29).toInt + 1 from (by have ff8 : (g7 69 29).toInt = z6.toInt := congrArg Int32.toInt (by rw [e7]; exact x_up2_at _ _ _ _ : g7 69 29 = z6); omega))⟩⟩
noncomputable def wl_m_findsReadings : List (Nat × Nat) := [(69, 29), (78, 9999), (79, 9999), (80, 9999)]
noncomputable def Q_m_findsReadings (gi : Nat → Nat → Int32) (gl : Nat → Nat → Int64) (gr : Nat → Nat → Value) (ar1 : Int64) : (Nat → Nat → Int32) → (Nat → Nat → Int64) → (Nat → Nat → Value) → Prop := fun (gi2 : Nat → Nat → Int32) (gl2 : Nat → Nat → Int64) (gr2 : Nat → Nat → Value) => (gi2 69 29).toInt ≤ 474
theorem c_m_findsReadings {X : x_Ext} {d : Nat} {sh : List (Nat ⊕ (Nat × Nat))} {gi : Nat → Nat → Int32} {gl : Nat → Nat → Int64} {gr : Nat → Nat → Value} (hI : t_I sh gi gr) (ar1 : Int64) : x_Me X (d + 4) n_X12_findsReadings [.ref 69, .long ar1] (sh, gi, gl, gr) (t_PN wl_m_findsReadings sh gi gl gr (Q_m_findsReadings gi gl gr ar1)) := by
  have hX : t_X wl_m_findsReadings sh gi gl gr gi gl gr := t_X.rf
  refine me_i f_X12_findsReadings (hI.wf.s rfl) rfl rfl rfl ?_
  obtain ⟨l1, u1⟩ := hI.b (hI.wf.s (k := 69) rfl) (t_bdK rfl : t_bd 11 29 = some (0, 500))
  refine ev_loc f_X12_findsReadings (nx := 1) rfl rfl rfl rfl ?_
  refine ev_ic f_X12_findsReadings (nx := 2) (v := 0) rfl (by decide) rfl ?_
  refine ev_putIT f_X12_findsReadings (nx := 5) rfl (hI.wf.s rfl) rfl rfl rfl (hI.putB (hI.wf.s rfl) rfl rfl (by decide : (0:Int) ≤ (0:Int32).toInt) (by decide) (by decide : (0:Int32).toInt ≤ (0:Int)) (by decide)) (hX.upI rfl) (fun g2 e2 hI hX => ?_)
  refine ev_loc f_X12_findsReadings (nx := 6) rfl rfl rfl rfl ?_
  refine ev_getR f_X12_findsReadings (nx := 9) rfl (hI.wf.s rfl) rfl rfl (hI.wf.r rfl) rfl rfl ?_
  refine ev_ic f_X12_findsReadings (nx := 10) (v := 0) rfl (by decide) rfl ?_
  obtain ⟨l3, u3⟩ := hI.ab (by decide +kernel : t_abr 70 0 0 0 6 = true) (Nat.le_refl _) (Nat.le_refl _)
  refine ev_ialdv f_X12_findsReadings (nx := 11) (w := (g2 70 0)) rfl (hI.wf.s rfl) (by decide) (rfl : (0 : Int32).toNatClampNeg = 0) (by decide) rfl rfl ?_
  refine ev_loc f_X12_findsReadings (nx := 12) (lo' := [(3, .int (g2 70 0)), (0, .ref 69), (1, .long ar1)]) rfl rfl rfl rfl ?_
  refine ev_ic f_X12_findsReadings (nx := 13) (v := 0) rfl (by decide) rfl ?_
  refine ev_loc f_X12_findsReadings (nx := 15) (lo' := [(4, .int 0), (3, .int (g2 70 0)), (0, .ref 69), (1, .long ar1)]) rfl rfl rfl rfl ?_
  have L4 : ∀ (m4 : Nat) (gi4 : Nat → Nat → Int32) (gl4 : Nat → Nat → Int64) (gr4 : Nat → Nat → Value) (y4_4 : Int32), t_I sh gi4 gr4 → t_X wl_m_findsReadings sh gi gl gr gi4 gl4 gr4 → 0 ≤ y4_4.toInt → y4_4.toInt ≤ 6 → gi4 70 0 = (g2 70 0) → (gi4 69 29).toInt ≤ y4_4.toInt → (6 - y4_4.toInt).toNat = m4 → x_Ev X (d + 4) n_X12_findsReadings 15 [(4, .int y4_4), (3, .int (g2 70 0)), (0, .ref 69), (1, .long ar1)] [] (sh, gi4, gl4, gr4) (t_PN wl_m_findsReadings sh gi gl gr (Q_m_findsReadings gi gl gr ar1)) := by
    intro m4
    induction m4 using Nat.strongRecOn with
    | _ m4 ih4 =>
    intro gi4 gl4 gr4 y4_4 hI hX l4_4 u4_4 c4_0 j4_0 hm4
    obtain ⟨l5, u5⟩ := hI.b (hI.wf.s (k := 69) rfl) (t_bdK rfl : t_bd 11 29 = some (0, 500))
    refine ev_loc f_X12_findsReadings (nx := 17) rfl rfl rfl rfl ?_
    refine ev_loc f_X12_findsReadings (nx := 18) rfl rfl rfl rfl ?_
    refine ev_if f_X12_findsReadings (t1 := 46) (t2 := 21) rfl rfl rfl (fun h6 => ?_) (fun h6 => ?_)
    · have r7 : (g2 70 0).toInt ≤ y4_4.toInt := Int32.le_iff_toInt_le.mp h6
      refine ev_ic f_X12_findsReadings (nx := 47) (v := 0) rfl (by decide) rfl ?_
      refine ev_loc f_X12_findsReadings (nx := 49) (lo' := [(4, .int 0), (3, .int (g2 70 0)), (0, .ref 69), (1, .long ar1)]) rfl rfl rfl rfl ?_
      have L8 : ∀ (m8 : Nat) (gi8 : Nat → Nat → Int32) (gl8 : Nat → Nat → Int64) (gr8 : Nat → Nat → Value) (y8_4 : Int32), t_I sh gi8 gr8 → t_X wl_m_findsReadings sh gi gl gr gi8 gl8 gr8 → 0 ≤ y8_4.toInt → y8_4.toInt ≤ 6 → gi8 70 0 = (g2 70 0) → (gi8 69 29).toInt ≤ 6 + 78 * y8_4.toInt → (6 - y8_4.toInt).toNat = m8 → x_Ev X (d + 4) n_X12_findsReadings 49 [(4, .int y8_4), (3, .int (g2 70 0)), (0, .ref 69), (1, .long ar1)] [] (sh, gi8, gl8, gr8) (t_PN wl_m_findsReadings sh gi gl gr (Q_m_findsReadings gi gl gr ar1)) := by
        intro m8
        induction m8 using Nat.strongRecOn with
        | _ m8 ih8 =>
        intro gi8 gl8 gr8 y8_4 hI hX l8_4 u8_4 c8_0 j8_0 hm8
        obtain ⟨l9, u9⟩ := hI.b (hI.wf.s (k := 69) rfl) (t_bdK rfl : t_bd 11 29 = some (0, 500))
        refine ev_loc f_X12_findsReadings (nx := 51) rfl rfl rfl rfl ?_
        refine ev_loc f_X12_findsReadings (nx := 52) rfl rfl rfl rfl ?_
        refine ev_if f_X12_findsReadings (t1 := 134) (t2 := 55) rfl rfl rfl (fun h10 => ?_) (fun h10 => ?_)
        · have r11 : (g2 70 0).toInt ≤ y8_4.toInt := Int32.le_iff_toInt_le.mp h10
          exact ev_ret f_X12_findsReadings rfl rfl rfl ⟨_, _, _, rfl, hI, hX, ⟨rfl, (show (gi8 69 29).toInt ≤ 474 from (by omega))⟩⟩
        · have r12 : y8_4.toInt < (g2 70 0).toInt := Int32.lt_iff_toInt_lt.mp (t_nle h10)
          have u13 : y8_4.toInt ≤ 5 := t_ltu (t_nle h10) u3 rfl
          have l14 : 1 ≤ (g2 70 0).toInt := t_ltl (t_nle h10) l8_4 rfl
          refine ev_ic f_X12_findsReadings (nx := 56) (v := 0) rfl (by decide) rfl ?_
          refine ev_loc f_X12_findsReadings (nx := 58) (lo' := [(5, .int 0), (4, .int y8_4), (3, .int (g2 70 0)), (0, .ref 69), (1, .long ar1)]) rfl rfl rfl rfl ?_
          have L15 : ∀ (m15 : Nat) (gi15 : Nat → Nat → Int32) (gl15 : Nat → Nat → Int64) (gr15 : Nat → Nat → Value) (y15_5 : Int32), t_I sh gi15 gr15 → t_X wl_m_findsReadings sh gi gl gr gi15 gl15 gr15 → 0 ≤ y15_5.toInt → y15_5.toInt ≤ 6 → gi15 70 0 = (g2 70 0) → (gi15 69 29).toInt ≤ 6 + 78 * y8_4.toInt + 13 * y15_5.toInt → (6 - y15_5.toInt).toNat = m15 → x_Ev X (d + 4) n_X12_findsReadings 58 [(5, .int y15_5), (4, .int y8_4), (3, .int (g2 70 0)), (0, .ref 69), (1, .long ar1)] [] (sh, gi15, gl15, gr15) (t_PN wl_m_findsReadings sh gi gl gr (Q_m_findsReadings gi gl gr ar1)) := by
            intro m15
            induction m15 using Nat.strongRecOn with
            | _ m15 ih15 =>
            intro gi15 gl15 gr15 y15_5 hI hX l15_5 u15_5 c15_0 j15_0 hm15
            obtain ⟨l16, u16⟩ := hI.b (hI.wf.s (k := 69) rfl) (t_bdK rfl : t_bd 11 29 = some (0, 500))
            refine ev_loc f_X12_findsReadings (nx := 60) rfl rfl rfl rfl ?_
            refine ev_loc f_X12_findsReadings (nx := 61) rfl rfl rfl rfl ?_
            refine ev_if f_X12_findsReadings (t1 := 128) (t2 := 64) rfl rfl rfl (fun h17 => ?_) (fun h17 => ?_)
            · have r18 : (g2 70 0).toInt ≤ y15_5.toInt := Int32.le_iff_toInt_le.mp h17
              have l19 : 1 ≤ y15_5.toInt := t_lel h17 l14
              refine ev_incR f_X12_findsReadings (nx := 131) (c := 1) (l := 1) (u := 6) rfl rfl (by decide) (by decide) l8_4 u13 rfl rfl (by decide) (by decide) rfl (fun z20 e20 l20 u20 => ?_)
              refine ev_jmp f_X12_findsReadings (nx := 49) rfl rfl rfl ?_
              refine ev_sub (lo := [(4, .int z20), (3, .int (g2 70 0)), (0, .ref 69), (1, .long ar1)]) rfl (t_sc rfl (t_sc rfl (t_sc rfl (t_sc rfl t_sn)))) ?_
              exact ih8 _ (by omega) gi15 gl15 gr15 (z20) hI hX  (Int.le_trans (by decide : (0:Int) ≤ 1) l20) u20 c15_0 (by omega) rfl
            · have r21 : y15_5.toInt < (g2 70 0).toInt := Int32.lt_iff_toInt_lt.mp (t_nle h17)
              have u22 : y15_5.toInt ≤ 5 := t_ltu (t_nle h17) u3 rfl
              refine ev_loc f_X12_findsReadings (nx := 66) rfl rfl rfl rfl ?_
              refine ev_loc f_X12_findsReadings (nx := 68) rfl rfl rfl rfl ?_
              refine ev_if f_X12_findsReadings (t1 := 75) (t2 := 71) rfl rfl rfl (fun h23 => ?_) (fun h23 => ?_)
              · have r24 : y8_4.toInt ≤ y15_5.toInt := Int32.le_iff_toInt_le.mp h23
                refine ev_ic f_X12_findsReadings (nx := 76) (v := 0) rfl (by decide) rfl ?_
                refine ev_loc f_X12_findsReadings (nx := 78) (lo' := [(6, .int 0), (5, .int y15_5), (4, .int y8_4), (3, .int (g2 70 0)), (0, .ref 69), (1, .long ar1)]) rfl rfl rfl rfl ?_
                have L25 : ∀ (m25 : Nat) (gi25 : Nat → Nat → Int32) (gl25 : Nat → Nat → Int64) (gr25 : Nat → Nat → Value) (y25_6 : Int32), t_I sh gi25 gr25 → t_X wl_m_findsReadings sh gi gl gr gi25 gl25 gr25 → 0 ≤ y25_6.toInt → y25_6.toInt ≤ 13 → gi25 70 0 = (g2 70 0) → (gi25 69 29).toInt ≤ 6 + 78 * y8_4.toInt + 13 * y15_5.toInt + y25_6.toInt → (13 - y25_6.toInt).toNat = m25 → x_Ev X (d + 4) n_X12_findsReadings 78 [(6, .int y25_6), (5, .int y15_5), (4, .int y8_4), (3, .int (g2 70 0)), (0, .ref 69), (1, .long ar1)] [] (sh, gi25, gl25, gr25) (t_PN wl_m_findsReadings sh gi gl gr (Q_m_findsReadings gi gl gr ar1)) := by
                  intro m25
                  induction m25 using Nat.strongRecOn with
                  | _ m25 ih25 =>
                  intro gi25 gl25 gr25 y25_6 hI hX l25_6 u25_6 c25_0 j25_0 hm25
                  obtain ⟨l26, u26⟩ := hI.b (hI.wf.s (k := 69) rfl) (t_bdK rfl : t_bd 11 29 = some (0, 500))
                  refine ev_loc f_X12_findsReadings (nx := 80) rfl rfl rfl rfl ?_
                  refine ev_bp f_X12_findsReadings (nx := 82) (v := 12) rfl (by decide) rfl ?_
                  refine ev_if f_X12_findsReadings (t1 := 122) (t2 := 85) rfl rfl rfl (fun h27 => ?_) (fun h27 => ?_)
                  · have l28 : 13 ≤ y25_6.toInt := t_ltl h27 (by decide : (12:Int) ≤ (12:Int32).toInt) rfl
                    refine ev_incR f_X12_findsReadings (nx := 125) (c := 1) (l := 1) (u := 6) rfl rfl (by decide) (by decide) l15_5 u22 rfl rfl (by decide) (by decide) rfl (fun z29 e29 l29 u29 => ?_)
                    refine ev_jmp f_X12_findsReadings (nx := 58) rfl rfl rfl ?_
                    refine ev_sub (lo := [(5, .int z29), (4, .int y8_4), (3, .int (g2 70 0)), (0, .ref 69), (1, .long ar1)]) rfl (t_sc rfl (t_sc rfl (t_sc rfl (t_sc rfl (t_sc rfl t_sn))))) ?_
                    exact ih15 _ (by omega) gi25 gl25 gr25 (z29) hI hX  (Int.le_trans (by decide : (0:Int) ≤ 1) l29) u29 c25_0 (by omega) rfl
                  · have u30 : y25_6.toInt ≤ 12 := t_leu (t_nlt h27) (by decide : (12:Int32).toInt ≤ (12:Int))
                    refine ev_loc f_X12_findsReadings (nx := 86) rfl rfl rfl rfl ?_
                    refine ev_loc f_X12_findsReadings (nx := 88) rfl rfl rfl rfl ?_
                    refine ev_qL f_X12_findsReadings (nx := 91) (r := []) rfl rfl rfl rfl rfl rfl rfl (c_m_heardOf hI (y8_4) l8_4 u13) rfl hX rfl (fun w31 gi31 gl31 gr31 hI hX hC31 q31 => ?_)
                    have q31 : 0 ≤ w31.toInt ∧ w31.toInt < 8589934592 := q31
                    refine ev_loc f_X12_findsReadings (nx := 92) rfl rfl rfl rfl ?_
                    refine ev_loc f_X12_findsReadings (nx := 94) rfl rfl rfl rfl ?_
                    refine ev_qL f_X12_findsReadings (nx := 97) (r := [.long w31]) rfl rfl rfl rfl rfl rfl rfl (c_m_heardOf hI (y15_5) l15_5 u22) rfl hX rfl (fun w32 gi32 gl32 gr32 hI hX hC32 q32 => ?_)
                    have q32 : 0 ≤ w32.toInt ∧ w32.toInt < 8589934592 := q32
                    refine ev_loc f_X12_findsReadings (nx := 99) rfl rfl rfl rfl ?_
                    refine ev_anyL f_X12_findsReadings (nx := 100) rfl rfl rfl rfl (fun z33 => ?_)
                    refine ev_anyL f_X12_findsReadings (nx := 101) rfl rfl rfl rfl (fun z34 => ?_)
                    refine ev_loc f_X12_findsReadings (nx := 102) rfl rfl rfl rfl ?_
                    refine ev_anyI f_X12_findsReadings (nx := 103) rfl rfl rfl rfl (fun z35 => ?_)
                    refine ev_if f_X12_findsReadings (t1 := 106) (t2 := 116) rfl rfl rfl (fun h36 => ?_) (fun h36 => ?_)
                    · have u37 : z35.toInt ≤ 0 := t_equ h36 (by decide : (0:Int32).toInt ≤ (0:Int))
                      have l38 : 0 ≤ z35.toInt := t_eql h36 (by decide : (0:Int) ≤ (0:Int32).toInt)
                      refine ev_loc f_X12_findsReadings (nx := 107) rfl rfl rfl rfl ?_
                      refine ev_loc f_X12_findsReadings (nx := 109) rfl rfl rfl rfl ?_
                      refine ev_loc f_X12_findsReadings (nx := 111) rfl rfl rfl rfl ?_
                      refine ev_loc f_X12_findsReadings (nx := 113) rfl rfl rfl rfl ?_
                      refine ev_qN f_X12_findsReadings (nx := 116) (r := []) rfl rfl rfl rfl rfl rfl rfl (c_m_reads hI (y8_4) (y15_5) (y25_6) (by have ff40 : (gi32 69 29).toInt = (gi25 69 29).toInt := congrArg Int32.toInt ((hC32.1 69 29 rfl).1.trans ((hC31.1 69 29 rfl).1.trans rfl)); omega)) rfl hX rfl (fun gi39 gl39 gr39 hI hX hC39 q39 => ?_)
                      have ff41 : (gi32 69 29).toInt = (gi25 69 29).toInt := congrArg Int32.toInt ((hC32.1 69 29 rfl).1.trans ((hC31.1 69 29 rfl).1.trans rfl))
                      have q39 : (gi39 69 29).toInt = (gi32 69 29).toInt + 1 := q39
                      obtain ⟨l42, u42⟩ := hI.b (hI.wf.s (k := 69) rfl) (t_bdK rfl : t_bd 11 29 = some (0, 500))
                      refine ev_incR f_X12_findsReadings (nx := 119) (c := 1) (l := 1) (u := 13) rfl rfl (by decide) (by decide) l25_6 u30 rfl rfl (by decide) (by decide) rfl (fun z43 e43 l43 u43 => ?_)
                      refine ev_jmp f_X12_findsReadings (nx := 78) rfl rfl rfl ?_
                      refine ev_sub (lo := [(6, .int z43), (5, .int y15_5), (4, .int y8_4), (3, .int (g2 70 0)), (0, .ref 69), (1, .long ar1)]) rfl (t_sc rfl (t_sc rfl (t_sc rfl (t_sc rfl (t_sc rfl (t_sc rfl t_sn)))))) ?_
                      exact ih25 _ (by omega) gi39 gl39 gr39 (z43) hI hX  (Int.le_trans (by decide : (0:Int) ≤ 1) l43) u43 ((hC39.1 70 0 rfl).1.trans ((hC32.1 70 0 rfl).1.trans ((hC31.1 70 0 rfl).1.trans c25_0))) (by omega) rfl
                    · have r44 : z35.toInt ≠ 0 := fun e => h36 (Int32.toInt_inj.mp (e.trans (by decide : (0:Int) = (0 : Int32).toInt)))
                      refine ev_incR f_X12_findsReadings (nx := 119) (c := 1) (l := 1) (u := 13) rfl rfl (by decide) (by decide) l25_6 u30 rfl rfl (by decide) (by decide) rfl (fun z45 e45 l45 u45 => ?_)
                      refine ev_jmp f_X12_findsReadings (nx := 78) rfl rfl rfl ?_
                      refine ev_sub (lo := [(6, .int z45), (5, .int y15_5), (4, .int y8_4), (3, .int (g2 70 0)), (0, .ref 69), (1, .long ar1)]) rfl (t_sc rfl (t_sc rfl (t_sc rfl (t_sc rfl (t_sc rfl (t_sc rfl t_sn)))))) ?_
                      exact ih25 _ (by omega) gi32 gl32 gr32 (z45) hI hX  (Int.le_trans (by decide : (0:Int) ≤ 1) l45) u45 ((hC32.1 70 0 rfl).1.trans ((hC31.1 70 0 rfl).1.trans c25_0)) (by have ff46 : (gi32 69 29).toInt = (gi25 69 29).toInt := congrArg Int32.toInt ((hC32.1 69 29 rfl).1.trans ((hC31.1 69 29 rfl).1.trans rfl)); omega) rfl
                refine ev_sub (lo := [(6, .int 0), (5, .int y15_5), (4, .int y8_4), (3, .int (g2 70 0)), (0, .ref 69), (1, .long ar1)]) rfl (t_sc rfl (t_sc rfl (t_sc rfl (t_sc rfl (t_sc rfl (t_sc rfl t_sn)))))) ?_
                exact L25 _ gi15 gl15 gr15 (0) hI hX  (by decide : (0:Int) ≤ (0:Int32).toInt) (Int.le_trans (by decide : (0:Int32).toInt ≤ (0:Int)) (by decide : (0:Int) ≤ 13)) c15_0 (by have kf47 : (0 : Int32).toInt = 0 := (by decide); omega) rfl
              · have r48 : y15_5.toInt < y8_4.toInt := Int32.lt_iff_toInt_lt.mp (t_nle h23)
                have u49 : y15_5.toInt ≤ 4 := t_ltu (t_nle h23) u13 rfl
                have l50 : 1 ≤ y8_4.toInt := t_ltl (t_nle h23) l15_5 rfl
                refine ev_ic f_X12_findsReadings (nx := 72) (v := 1) rfl (by decide) rfl ?_
                refine ev_jmp f_X12_findsReadings (nx := 76) rfl rfl rfl ?_
                refine ev_loc f_X12_findsReadings (nx := 78) (lo' := [(6, .int 1), (5, .int y15_5), (4, .int y8_4), (3, .int (g2 70 0)), (0, .ref 69), (1, .long ar1)]) rfl rfl rfl rfl ?_
                have L51 : ∀ (m51 : Nat) (gi51 : Nat → Nat → Int32) (gl51 : Nat → Nat → Int64) (gr51 : Nat → Nat → Value) (y51_6 : Int32), t_I sh gi51 gr51 → t_X wl_m_findsReadings sh gi gl gr gi51 gl51 gr51 → 0 ≤ y51_6.toInt → y51_6.toInt ≤ 13 → gi51 70 0 = (g2 70 0) → (gi51 69 29).toInt ≤ 6 + 78 * y8_4.toInt + 13 * y15_5.toInt + y51_6.toInt → (13 - y51_6.toInt).toNat = m51 → x_Ev X (d + 4) n_X12_findsReadings 78 [(6, .int y51_6), (5, .int y15_5), (4, .int y8_4), (3, .int (g2 70 0)), (0, .ref 69), (1, .long ar1)] [] (sh, gi51, gl51, gr51) (t_PN wl_m_findsReadings sh gi gl gr (Q_m_findsReadings gi gl gr ar1)) := by
                  intro m51
                  induction m51 using Nat.strongRecOn with
                  | _ m51 ih51 =>
                  intro gi51 gl51 gr51 y51_6 hI hX l51_6 u51_6 c51_0 j51_0 hm51
                  obtain ⟨l52, u52⟩ := hI.b (hI.wf.s (k := 69) rfl) (t_bdK rfl : t_bd 11 29 = some (0, 500))
                  refine ev_loc f_X12_findsReadings (nx := 80) rfl rfl rfl rfl ?_
                  refine ev_bp f_X12_findsReadings (nx := 82) (v := 12) rfl (by decide) rfl ?_
                  refine ev_if f_X12_findsReadings (t1 := 122) (t2 := 85) rfl rfl rfl (fun h53 => ?_) (fun h53 => ?_)
                  · have l54 : 13 ≤ y51_6.toInt := t_ltl h53 (by decide : (12:Int) ≤ (12:Int32).toInt) rfl
                    refine ev_incR f_X12_findsReadings (nx := 125) (c := 1) (l := 1) (u := 5) rfl rfl (by decide) (by decide) l15_5 u49 rfl rfl (by decide) (by decide) rfl (fun z55 e55 l55 u55 => ?_)
                    refine ev_jmp f_X12_findsReadings (nx := 58) rfl rfl rfl ?_
                    refine ev_sub (lo := [(5, .int z55), (4, .int y8_4), (3, .int (g2 70 0)), (0, .ref 69), (1, .long ar1)]) rfl (t_sc rfl (t_sc rfl (t_sc rfl (t_sc rfl (t_sc rfl t_sn))))) ?_
                    exact ih15 _ (by omega) gi51 gl51 gr51 (z55) hI hX  (Int.le_trans (by decide : (0:Int) ≤ 1) l55) (Int.le_trans u55 (by decide : (5:Int) ≤ 6)) c51_0 (by omega) rfl
                  · have u56 : y51_6.toInt ≤ 12 := t_leu (t_nlt h53) (by decide : (12:Int32).toInt ≤ (12:Int))
                    refine ev_loc f_X12_findsReadings (nx := 86) rfl rfl rfl rfl ?_
                    refine ev_loc f_X12_findsReadings (nx := 88) rfl rfl rfl rfl ?_
                    refine ev_qL f_X12_findsReadings (nx := 91) (r := []) rfl rfl rfl rfl rfl rfl rfl (c_m_heardOf hI (y8_4) (Int.le_trans (by decide : (0:Int) ≤ 1) l50) u13) rfl hX rfl (fun w57 gi57 gl57 gr57 hI hX hC57 q57 => ?_)
                    have q57 : 0 ≤ w57.toInt ∧ w57.toInt < 8589934592 := q57
                    refine ev_loc f_X12_findsReadings (nx := 92) rfl rfl rfl rfl ?_
                    refine ev_loc f_X12_findsReadings (nx := 94) rfl rfl rfl rfl ?_
                    refine ev_qL f_X12_findsReadings (nx := 97) (r := [.long w57]) rfl rfl rfl rfl rfl rfl rfl (c_m_heardOf hI (y15_5) l15_5 (Int.le_trans u49 (by decide : (4:Int) ≤ 5))) rfl hX rfl (fun w58 gi58 gl58 gr58 hI hX hC58 q58 => ?_)
                    have q58 : 0 ≤ w58.toInt ∧ w58.toInt < 8589934592 := q58
                    refine ev_loc f_X12_findsReadings (nx := 99) rfl rfl rfl rfl ?_
                    refine ev_anyL f_X12_findsReadings (nx := 100) rfl rfl rfl rfl (fun z59 => ?_)
                    refine ev_anyL f_X12_findsReadings (nx := 101) rfl rfl rfl rfl (fun z60 => ?_)
                    refine ev_loc f_X12_findsReadings (nx := 102) rfl rfl rfl rfl ?_
                    refine ev_anyI f_X12_findsReadings (nx := 103) rfl rfl rfl rfl (fun z61 => ?_)
                    refine ev_if f_X12_findsReadings (t1 := 106) (t2 := 116) rfl rfl rfl (fun h62 => ?_) (fun h62 => ?_)
                    · have u63 : z61.toInt ≤ 0 := t_equ h62 (by decide : (0:Int32).toInt ≤ (0:Int))
                      have l64 : 0 ≤ z61.toInt := t_eql h62 (by decide : (0:Int) ≤ (0:Int32).toInt)
                      refine ev_loc f_X12_findsReadings (nx := 107) rfl rfl rfl rfl ?_
                      refine ev_loc f_X12_findsReadings (nx := 109) rfl rfl rfl rfl ?_
                      refine ev_loc f_X12_findsReadings (nx := 111) rfl rfl rfl rfl ?_
                      refine ev_loc f_X12_findsReadings (nx := 113) rfl rfl rfl rfl ?_
                      refine ev_qN f_X12_findsReadings (nx := 116) (r := []) rfl rfl rfl rfl rfl rfl rfl (c_m_reads hI (y8_4) (y15_5) (y51_6) (by have ff66 : (gi58 69 29).toInt = (gi51 69 29).toInt := congrArg Int32.toInt ((hC58.1 69 29 rfl).1.trans ((hC57.1 69 29 rfl).1.trans rfl)); omega)) rfl hX rfl (fun gi65 gl65 gr65 hI hX hC65 q65 => ?_)
                      have ff67 : (gi58 69 29).toInt = (gi51 69 29).toInt := congrArg Int32.toInt ((hC58.1 69 29 rfl).1.trans ((hC57.1 69 29 rfl).1.trans rfl))
                      have q65 : (gi65 69 29).toInt = (gi58 69 29).toInt + 1 := q65
                      obtain ⟨l68, u68⟩ := hI.b (hI.wf.s (k := 69) rfl) (t_bdK rfl : t_bd 11 29 = some (0, 500))
                      refine ev_incR f_X12_findsReadings (nx := 119) (c := 1) (l := 1) (u := 13) rfl rfl (by decide) (by decide) l51_6 u56 rfl rfl (by decide) (by decide) rfl (fun z69 e69 l69 u69 => ?_)
                      refine ev_jmp f_X12_findsReadings (nx := 78) rfl rfl rfl ?_
                      refine ev_sub (lo := [(6, .int z69), (5, .int y15_5), (4, .int y8_4), (3, .int (g2 70 0)), (0, .ref 69), (1, .long ar1)]) rfl (t_sc rfl (t_sc rfl (t_sc rfl (t_sc rfl (t_sc rfl (t_sc rfl t_sn)))))) ?_
                      exact ih51 _ (by omega) gi65 gl65 gr65 (z69) hI hX  (Int.le_trans (by decide : (0:Int) ≤ 1) l69) u69 ((hC65.1 70 0 rfl).1.trans ((hC58.1 70 0 rfl).1.trans ((hC57.1 70 0 rfl).1.trans c51_0))) (by omega) rfl
                    · have r70 : z61.toInt ≠ 0 := fun e => h62 (Int32.toInt_inj.mp (e.trans (by decide : (0:Int) = (0 : Int32).toInt)))
                      refine ev_incR f_X12_findsReadings (nx := 119) (c := 1) (l := 1) (u := 13) rfl rfl (by decide) (by decide) l51_6 u56 rfl rfl (by decide) (by decide) rfl (fun z71 e71 l71 u71 => ?_)
                      refine ev_jmp f_X12_findsReadings (nx := 78) rfl rfl rfl ?_
                      refine ev_sub (lo := [(6, .int z71), (5, .int y15_5), (4, .int y8_4), (3, .int (g2 70 0)), (0, .ref 69), (1, .long ar1)]) rfl (t_sc rfl (t_sc rfl (t_sc rfl (t_sc rfl (t_sc rfl (t_sc rfl t_sn)))))) ?_
                      exact ih51 _ (by omega) gi58 gl58 gr58 (z71) hI hX  (Int.le_trans (by decide : (0:Int) ≤ 1) l71) u71 ((hC58.1 70 0 rfl).1.trans ((hC57.1 70 0 rfl).1.trans c51_0)) (by have ff72 : (gi58 69 29).toInt = (gi51 69 29).toInt := congrArg Int32.toInt ((hC58.1 69 29 rfl).1.trans ((hC57.1 69 29 rfl).1.trans rfl)); omega) rfl
                refine ev_sub (lo := [(6, .int 1), (5, .int y15_5), (4, .int y8_4), (3, .int (g2 70 0)), (0, .ref 69), (1, .long ar1)]) rfl (t_sc rfl (t_sc rfl (t_sc rfl (t_sc rfl (t_sc rfl (t_sc rfl t_sn)))))) ?_
                exact L51 _ gi15 gl15 gr15 (1) hI hX  (Int.le_trans (by decide : (0:Int) ≤ 1) (by decide : (1:Int) ≤ (1:Int32).toInt)) (Int.le_trans (by decide : (1:Int32).toInt ≤ (1:Int)) (by decide : (1:Int) ≤ 13)) c15_0 (by have kf73 : (1 : Int32).toInt = 1 := (by decide); omega) rfl
          refine ev_sub (lo := [(5, .int 0), (4, .int y8_4), (3, .int (g2 70 0)), (0, .ref 69), (1, .long ar1)]) rfl (t_sc rfl (t_sc rfl (t_sc rfl (t_sc rfl (t_sc rfl t_sn))))) ?_
          exact L15 _ gi8 gl8 gr8 (0) hI hX  (by decide : (0:Int) ≤ (0:Int32).toInt) (Int.le_trans (by decide : (0:Int32).toInt ≤ (0:Int)) (by decide : (0:Int) ≤ 6)) c8_0 (by have kf74 : (0 : Int32).toInt = 0 := (by decide); omega) rfl
      refine ev_sub (lo := [(4, .int 0), (3, .int (g2 70 0)), (0, .ref 69), (1, .long ar1)]) rfl (t_sc rfl (t_sc rfl (t_sc rfl (t_sc rfl t_sn)))) ?_
      exact L8 _ gi4 gl4 gr4 (0) hI hX  (by decide : (0:Int) ≤ (0:Int32).toInt) (Int.le_trans (by decide : (0:Int32).toInt ≤ (0:Int)) (by decide : (0:Int) ≤ 6)) c4_0 (by have kf75 : (0 : Int32).toInt = 0 := (by decide); omega) rfl
    · have r76 : y4_4.toInt < (g2 70 0).toInt := Int32.lt_iff_toInt_lt.mp (t_nle h6)
      have u77 : y4_4.toInt ≤ 5 := t_ltu (t_nle h6) u3 rfl
      have l78 : 1 ≤ (g2 70 0).toInt := t_ltl (t_nle h6) l4_4 rfl
      refine ev_loc f_X12_findsReadings (nx := 22) rfl rfl rfl rfl ?_
      refine ev_loc f_X12_findsReadings (nx := 24) rfl rfl rfl rfl ?_
      refine ev_qL f_X12_findsReadings (nx := 27) (r := []) rfl rfl rfl rfl rfl rfl rfl (c_m_heardOf hI (y4_4) l4_4 u77) rfl hX rfl (fun w79 gi79 gl79 gr79 hI hX hC79 q79 => ?_)
      have q79 : 0 ≤ w79.toInt ∧ w79.toInt < 8589934592 := q79
      refine ev_loc f_X12_findsReadings (nx := 28) rfl rfl rfl rfl ?_
      refine ev_anyI f_X12_findsReadings (nx := 29) rfl rfl rfl rfl (fun z80 => ?_)
      refine ev_if f_X12_findsReadings (t1 := 32) (t2 := 40) rfl rfl rfl (fun h81 => ?_) (fun h81 => ?_)
      · have u82 : z80.toInt ≤ 0 := t_equ h81 (by decide : (0:Int32).toInt ≤ (0:Int))
        have l83 : 0 ≤ z80.toInt := t_eql h81 (by decide : (0:Int) ≤ (0:Int32).toInt)
        refine ev_loc f_X12_findsReadings (nx := 33) rfl rfl rfl rfl ?_
        refine ev_loc f_X12_findsReadings (nx := 35) rfl rfl rfl rfl ?_
        refine ev_ic f_X12_findsReadings (nx := 36) (v := -1) rfl (by decide) rfl ?_
        refine ev_ic f_X12_findsReadings (nx := 37) (v := -1) rfl (by decide) rfl ?_
        refine ev_qN f_X12_findsReadings (nx := 40) (r := []) rfl rfl rfl rfl rfl rfl rfl (c_m_reads hI (y4_4) ((-1)) ((-1)) (by have ff85 : (gi79 69 29).toInt = (gi4 69 29).toInt := congrArg Int32.toInt ((hC79.1 69 29 rfl).1.trans rfl); omega)) rfl hX rfl (fun gi84 gl84 gr84 hI hX hC84 q84 => ?_)
        have ff86 : (gi79 69 29).toInt = (gi4 69 29).toInt := congrArg Int32.toInt ((hC79.1 69 29 rfl).1.trans rfl)
        have q84 : (gi84 69 29).toInt = (gi79 69 29).toInt + 1 := q84
        obtain ⟨l87, u87⟩ := hI.b (hI.wf.s (k := 69) rfl) (t_bdK rfl : t_bd 11 29 = some (0, 500))
        refine ev_incR f_X12_findsReadings (nx := 43) (c := 1) (l := 1) (u := 6) rfl rfl (by decide) (by decide) l4_4 u77 rfl rfl (by decide) (by decide) rfl (fun z88 e88 l88 u88 => ?_)
        refine ev_jmp f_X12_findsReadings (nx := 15) rfl rfl rfl ?_
        refine ev_sub (lo := [(4, .int z88), (3, .int (g2 70 0)), (0, .ref 69), (1, .long ar1)]) rfl (t_sc rfl (t_sc rfl (t_sc rfl (t_sc rfl t_sn)))) ?_
        exact ih4 _ (by omega) gi84 gl84 gr84 (z88) hI hX  (Int.le_trans (by decide : (0:Int) ≤ 1) l88) u88 ((hC84.1 70 0 rfl).1.trans ((hC79.1 70 0 rfl).1.trans c4_0)) (by omega) rfl
      · have r89 : z80.toInt ≠ 0 := fun e => h81 (Int32.toInt_inj.mp (e.trans (by decide : (0:Int) = (0 : Int32).toInt)))
        refine ev_incR f_X12_findsReadings (nx := 43) (c := 1) (l := 1) (u := 6) rfl rfl (by decide) (by decide) l4_4 u77 rfl rfl (by decide) (by decide) rfl (fun z90 e90 l90 u90 => ?_)
        refine ev_jmp f_X12_findsReadings (nx := 15) rfl rfl rfl ?_
        refine ev_sub (lo := [(4, .int z90), (3, .int (g2 70 0)), (0, .ref 69), (1, .long ar1)]) rfl (t_sc rfl (t_sc rfl (t_sc rfl (t_sc rfl t_sn)))) ?_
        exact ih4 _ (by omega) gi79 gl79 gr79 (z90) hI hX  (Int.le_trans (by decide : (0:Int) ≤ 1) l90) u90 ((hC79.1 70 0 rfl).1.trans c4_0) (by have ff91 : (gi79 69 29).toInt = (gi4 69 29).toInt := congrArg Int32.toInt ((hC79.1 69 29 rfl).1.trans rfl); omega) rfl
  refine ev_sub (lo := [(4, .int 0), (3, .int (g2 70 0)), (0, .ref 69), (1, .long ar1)]) rfl (t_sc rfl (t_sc rfl (t_sc rfl (t_sc rfl t_sn)))) ?_
  exact L4 _ g2 gl gr (0) hI hX  (by decide : (0:Int) ≤ (0:Int32).toInt) (Int.le_trans (by decide : (0:Int32).toInt ≤ (0:Int)) (by decide : (0:Int) ≤ 6)) rfl (by have kf92 : (0 : Int32).toInt = 0 := (by decide); have ff93 : (g2 69 29).toInt = 0 := (congrArg Int32.toInt (by rw [e2]; exact x_up2_at _ _ _ _ : g2 69 29 = 0)).trans (by decide); omega) rfl
noncomputable def wl_m_readings : List (Nat × Nat) := [(69, 2), (69, 29), (69, 30), (78, 9999), (79, 9999), (80, 9999), (81, 9999), (82, 9999), (83, 9999)]
theorem c_m_readings {X : x_Ext} {d : Nat} {sh : List (Nat ⊕ (Nat × Nat))} {gi : Nat → Nat → Int32} {gl : Nat → Nat → Int64} {gr : Nat → Nat → Value} (hI : t_I sh gi gr) (ar1 : Int64) : x_Me X (d + 5) n_X12_readings [.ref 69, .long ar1] (sh, gi, gl, gr) (t_P wl_m_readings sh gi gl gr (t_Ri (-1) 500)) := by
  have hX : t_X wl_m_readings sh gi gl gr gi gl gr := t_X.rf
  refine me_i f_X12_readings (hI.wf.s rfl) rfl rfl rfl ?_
  refine ev_loc f_X12_readings (nx := 1) rfl rfl rfl rfl ?_
  refine ev_lc f_X12_readings (nx := 2) (v := 1) rfl (by decide) rfl ?_
  refine ev_anyI f_X12_readings (nx := 3) rfl rfl rfl rfl (fun z1 => ?_)
  refine ev_if f_X12_readings (t1 := 12) (t2 := 6) rfl rfl rfl (fun h2 => ?_) (fun h2 => ?_)
  · have l3 : 0 ≤ z1.toInt := t_lel h2 (by decide : (0:Int) ≤ (0:Int32).toInt)
    refine ev_loc f_X12_readings (nx := 13) rfl rfl rfl rfl ?_
    refine ev_loc f_X12_readings (nx := 14) rfl rfl rfl rfl ?_
    refine ev_qN f_X12_readings (nx := 17) (r := []) rfl rfl rfl rfl rfl rfl rfl (c_m_findsReadings hI (ar1)) rfl hX rfl (fun gi4 gl4 gr4 hI hX hC4 q4 => ?_)
    have q4 : (gi4 69 29).toInt ≤ 474 := q4
    refine ev_ic f_X12_readings (nx := 18) (v := 0) rfl (by decide) rfl ?_
    refine ev_loc f_X12_readings (nx := 19) (lo' := [(3, .int 0), (0, .ref 69), (1, .long ar1)]) rfl rfl rfl rfl ?_
    have L5 : ∀ (m5 : Nat) (gi5 : Nat → Nat → Int32) (gl5 : Nat → Nat → Int64) (gr5 : Nat → Nat → Value) (y5_3 : Int32), t_I sh gi5 gr5 → t_X wl_m_readings sh gi gl gr gi5 gl5 gr5 → 0 ≤ y5_3.toInt → y5_3.toInt ≤ 899 → (899 - y5_3.toInt).toNat = m5 → x_Ev X (d + 5) n_X12_readings 19 [(3, .int y5_3), (0, .ref 69), (1, .long ar1)] [] (sh, gi5, gl5, gr5) (t_P wl_m_readings sh gi gl gr (t_Ri (-1) 500)) := by
      intro m5
      induction m5 using Nat.strongRecOn with
      | _ m5 ih5 =>
      intro gi5 gl5 gr5 y5_3 hI hX l5_3 u5_3 hm5
      refine ev_loc f_X12_readings (nx := 20) rfl rfl rfl rfl ?_
      refine ev_loc f_X12_readings (nx := 21) rfl rfl rfl rfl ?_
      refine ev_getI f_X12_readings (nx := 24) rfl (hI.wf.s rfl) rfl rfl rfl ?_
      obtain ⟨l6, u6⟩ := hI.b (hI.wf.s (k := 69) rfl) (t_bdK rfl : t_bd 11 29 = some (0, 500))
      refine ev_if f_X12_readings (t1 := 69) (t2 := 27) rfl rfl rfl (fun h7 => ?_) (fun h7 => ?_)
      · have r8 : (gi5 69 29).toInt ≤ y5_3.toInt := Int32.le_iff_toInt_le.mp h7
        refine ev_loc f_X12_readings (nx := 70) rfl rfl rfl rfl ?_
        refine ev_loc f_X12_readings (nx := 71) rfl rfl rfl rfl ?_
        refine ev_gvI f_X12_readings (nx := 74) (w := (gi5 69 29)) rfl (hI.wf.s rfl) rfl rfl rfl rfl ?_
        refine ev_putIT f_X12_readings (nx := 77) rfl (hI.wf.s rfl) rfl rfl rfl (hI.putB (hI.wf.s rfl) rfl rfl l6 (by decide) u6 (by decide)) (hX.upI rfl) (fun g9 e9 hI hX => ?_)
        refine ev_loc f_X12_readings (nx := 78) rfl rfl rfl rfl ?_
        refine ev_loc f_X12_readings (nx := 79) rfl rfl rfl rfl ?_
        refine ev_gvI f_X12_readings (nx := 82) (w := (gi5 69 29)) rfl (hI.wf.s rfl) rfl rfl ((by rw [e9]; exact x_up2_off (Or.inr (by decide)) : g9 69 29 = gi5 69 29).trans rfl) rfl ?_
        refine ev_inV2 f_X12_readings (nx := 85) (lo2 := [(0, .ref 69), (1, .int (gi5 69 29))]) rfl rfl rfl rfl f_X12_gives (hI.wf.s rfl) rfl rfl rfl rfl rfl ?_
        refine ev_loc f_X12_gives (nx := 1) rfl rfl rfl rfl ?_
        refine ev_ic f_X12_gives (nx := 2) (v := 0) rfl (by decide) rfl ?_
        refine ev_putIT f_X12_gives (nx := 5) rfl (hI.wf.s rfl) rfl rfl rfl (hI.put0 (hI.wf.s rfl) rfl rfl) (hX.upI rfl) (fun g10 e10 hI hX => ?_)
        refine ev_loc f_X12_gives (nx := 6) rfl rfl rfl rfl ?_
        refine ev_retK1 f_X12_gives rfl rfl rfl ?_
        exact ev_ret f_X12_readings rfl rfl rfl ⟨_, _, _, rfl, hI, hX, ⟨_, rfl, (Int.le_trans (by decide : ((-1):Int) ≤ 0) l6), u6⟩⟩
      · have r11 : y5_3.toInt < (gi5 69 29).toInt := Int32.lt_iff_toInt_lt.mp (t_nle h7)
        have u12 : y5_3.toInt ≤ 499 := t_ltu (t_nle h7) u6 rfl
        have l13 : 1 ≤ (gi5 69 29).toInt := t_ltl (t_nle h7) l5_3 rfl
        refine ev_loc f_X12_readings (nx := 28) rfl rfl rfl rfl ?_
        refine ev_getR f_X12_readings (nx := 31) rfl (hI.wf.s rfl) rfl rfl (hI.wf.r rfl) rfl rfl ?_
        refine ev_loc f_X12_readings (nx := 32) rfl rfl rfl rfl ?_
        refine ev_loc f_X12_readings (nx := 33) rfl rfl rfl rfl ?_
        refine ev_getR f_X12_readings (nx := 36) rfl (hI.wf.s rfl) rfl rfl (hI.wf.r rfl) rfl rfl ?_
        refine ev_loc f_X12_readings (nx := 37) rfl rfl rfl rfl ?_
        refine ev_ialdT f_X12_readings (nx := 38) rfl (hI.wf.s rfl) l5_3 (by decide) u12 (by decide) rfl (fun w14 e14 => ?_)
        refine ev_iastT f_X12_readings (nx := 39) rfl (hI.wf.s rfl) l5_3 (by decide) u12 (by decide) rfl (hI.astG (hI.wf.s rfl) (fun lo hi e => absurd e (t_nob (by decide +kernel) _)) (fun k hk e => by have := hk.2.1; omega)) (hX.upI (t_inA_ok rfl)) (fun g15 e15 hI hX => ?_)
        refine ev_loc f_X12_readings (nx := 40) rfl rfl rfl rfl ?_
        refine ev_getR f_X12_readings (nx := 43) rfl (hI.wf.s rfl) rfl rfl (hI.wf.r rfl) rfl rfl ?_
        refine ev_loc f_X12_readings (nx := 44) rfl rfl rfl rfl ?_
        refine ev_loc f_X12_readings (nx := 45) rfl rfl rfl rfl ?_
        refine ev_getR f_X12_readings (nx := 48) rfl (hI.wf.s rfl) rfl rfl (hI.wf.r rfl) rfl rfl ?_
        refine ev_loc f_X12_readings (nx := 49) rfl rfl rfl rfl ?_
        refine ev_ialdT f_X12_readings (nx := 50) rfl (hI.wf.s rfl) l5_3 (by decide) u12 (by decide) rfl (fun w16 e16 => ?_)
        refine ev_iastT f_X12_readings (nx := 51) rfl (hI.wf.s rfl) l5_3 (by decide) u12 (by decide) rfl (hI.astG (hI.wf.s rfl) (fun lo hi e => absurd e (t_nob (by decide +kernel) _)) (fun k hk e => by have := hk.2.1; omega)) (hX.upI (t_inA_ok rfl)) (fun g17 e17 hI hX => ?_)
        refine ev_loc f_X12_readings (nx := 52) rfl rfl rfl rfl ?_
        refine ev_getR f_X12_readings (nx := 55) rfl (hI.wf.s rfl) rfl rfl (hI.wf.r rfl) rfl rfl ?_
        refine ev_loc f_X12_readings (nx := 56) rfl rfl rfl rfl ?_
        refine ev_loc f_X12_readings (nx := 57) rfl rfl rfl rfl ?_
        refine ev_getR f_X12_readings (nx := 60) rfl (hI.wf.s rfl) rfl rfl (hI.wf.r rfl) rfl rfl ?_
        refine ev_loc f_X12_readings (nx := 61) rfl rfl rfl rfl ?_
        refine ev_ialdT f_X12_readings (nx := 62) rfl (hI.wf.s rfl) l5_3 (by decide) u12 (by decide) rfl (fun w18 e18 => ?_)
        refine ev_iastT f_X12_readings (nx := 63) rfl (hI.wf.s rfl) l5_3 (by decide) u12 (by decide) rfl (hI.astG (hI.wf.s rfl) (fun lo hi e => absurd e (t_nob (by decide +kernel) _)) (fun k hk e => by have := hk.2.1; omega)) (hX.upI (t_inA_ok rfl)) (fun g19 e19 hI hX => ?_)
        refine ev_incR f_X12_readings (nx := 66) (c := 1) (l := 1) (u := 500) rfl rfl (by decide) (by decide) l5_3 u12 rfl rfl (by decide) (by decide) rfl (fun z20 e20 l20 u20 => ?_)
        refine ev_jmp f_X12_readings (nx := 19) rfl rfl rfl ?_
        refine ev_sub (lo := [(3, .int z20), (0, .ref 69), (1, .long ar1)]) rfl (t_sc rfl (t_sc rfl (t_sc rfl t_sn))) ?_
        exact ih5 _ (by omega) g19 gl5 gr5 (z20) hI hX  (Int.le_trans (by decide : (0:Int) ≤ 1) l20) (Int.le_trans u20 (by decide : (500:Int) ≤ 899)) rfl
    refine ev_sub (lo := [(3, .int 0), (0, .ref 69), (1, .long ar1)]) rfl (t_sc rfl (t_sc rfl (t_sc rfl t_sn))) ?_
    exact L5 _ gi4 gl4 gr4 (0) hI hX  (by decide : (0:Int) ≤ (0:Int32).toInt) (Int.le_trans (by decide : (0:Int32).toInt ≤ (0:Int)) (by decide : (0:Int) ≤ 899)) rfl
  · have u21 : z1.toInt ≤ (-1) := t_ltu (t_nle h2) (by decide : (0:Int32).toInt ≤ (0:Int)) rfl
    refine ev_loc f_X12_readings (nx := 7) rfl rfl rfl rfl ?_
    refine ev_ic f_X12_readings (nx := 8) (v := 1) rfl (by decide) rfl ?_
    refine ev_inV2 f_X12_readings (nx := 11) (lo2 := [(0, .ref 69), (1, .int 1)]) rfl rfl rfl rfl f_X12_refuse (hI.wf.s rfl) rfl rfl rfl rfl rfl ?_
    refine ev_loc f_X12_refuse (nx := 1) rfl rfl rfl rfl ?_
    refine ev_loc f_X12_refuse (nx := 2) rfl rfl rfl rfl ?_
    refine ev_putIT f_X12_refuse (nx := 5) rfl (hI.wf.s rfl) rfl rfl rfl (hI.put0 (hI.wf.s rfl) rfl rfl) (hX.upI rfl) (fun g22 e22 hI hX => ?_)
    refine ev_ic f_X12_refuse (nx := 6) (v := -1) rfl (by decide) rfl ?_
    refine ev_retK1 f_X12_refuse rfl rfl rfl ?_
    exact ev_ret f_X12_readings rfl rfl rfl ⟨_, _, _, rfl, hI, hX, ⟨_, rfl, (by decide : ((-1):Int) ≤ ((-1):Int32).toInt), (Int.le_trans (by decide : ((-1):Int32).toInt ≤ ((-1):Int)) (by decide : ((-1):Int) ≤ 500))⟩⟩
noncomputable def wl_m_reading : List (Nat × Nat) := [(69, 2)]
theorem c_m_reading {X : x_Ext} {d : Nat} {sh : List (Nat ⊕ (Nat × Nat))} {gi : Nat → Nat → Int32} {gl : Nat → Nat → Int64} {gr : Nat → Nat → Value} (hI : t_I sh gi gr) (ar1 : Int32) (ar2 : Int32) : x_Me X (d + 3) n_X12_reading [.ref 69, .int ar1, .int ar2] (sh, gi, gl, gr) (t_P wl_m_reading sh gi gl gr (t_Ri (-2147483648) 2147483647)) := by
  have hX : t_X wl_m_reading sh gi gl gr gi gl gr := t_X.rf
  refine me_i f_X12_reading (hI.wf.s rfl) rfl rfl rfl ?_
  refine ev_loc f_X12_reading (nx := 1) rfl rfl rfl rfl ?_
  refine ev_if f_X12_reading (t1 := 9) (t2 := 4) rfl rfl rfl (fun h1 => ?_) (fun h1 => ?_)
  · have u2 : ar2.toInt ≤ (-1) := t_ltu h1 (by decide : (0:Int32).toInt ≤ (0:Int)) rfl
    refine ev_loc f_X12_reading (nx := 10) rfl rfl rfl rfl ?_
    refine ev_ic f_X12_reading (nx := 11) (v := 1) rfl (by decide) rfl ?_
    refine ev_inV2 f_X12_reading (nx := 14) (lo2 := [(0, .ref 69), (1, .int 1)]) rfl rfl rfl rfl f_X12_refuse (hI.wf.s rfl) rfl rfl rfl rfl rfl ?_
    refine ev_loc f_X12_refuse (nx := 1) rfl rfl rfl rfl ?_
    refine ev_loc f_X12_refuse (nx := 2) rfl rfl rfl rfl ?_
    refine ev_putIT f_X12_refuse (nx := 5) rfl (hI.wf.s rfl) rfl rfl rfl (hI.put0 (hI.wf.s rfl) rfl rfl) (hX.upI rfl) (fun g3 e3 hI hX => ?_)
    refine ev_ic f_X12_refuse (nx := 6) (v := -1) rfl (by decide) rfl ?_
    refine ev_retK1 f_X12_refuse rfl rfl rfl ?_
    exact ev_ret f_X12_reading rfl rfl rfl ⟨_, _, _, rfl, hI, hX, ⟨_, rfl, (Int.le_trans (by decide : ((-2147483648):Int) ≤ (-1)) (by decide : ((-1):Int) ≤ ((-1):Int32).toInt)), (Int.le_trans (by decide : ((-1):Int32).toInt ≤ ((-1):Int)) (by decide : ((-1):Int) ≤ 2147483647))⟩⟩
  · have l4 : 0 ≤ ar2.toInt := t_lel (t_nlt h1) (by decide : (0:Int) ≤ (0:Int32).toInt)
    refine ev_loc f_X12_reading (nx := 5) rfl rfl rfl rfl ?_
    refine ev_ic f_X12_reading (nx := 6) (v := 2) rfl (by decide) rfl ?_
    refine ev_if f_X12_reading (t1 := 15) (t2 := 9) rfl rfl rfl (fun h5 => ?_) (fun h5 => ?_)
    · have u6 : ar2.toInt ≤ 2 := t_leu h5 (by decide : (2:Int32).toInt ≤ (2:Int))
      refine ev_loc f_X12_reading (nx := 16) rfl rfl rfl rfl ?_
      refine ev_if f_X12_reading (t1 := 27) (t2 := 19) rfl rfl rfl (fun h7 => ?_) (fun h7 => ?_)
      · have u8 : ar1.toInt ≤ (-1) := t_ltu h7 (by decide : (0:Int32).toInt ≤ (0:Int)) rfl
        refine ev_loc f_X12_reading (nx := 28) rfl rfl rfl rfl ?_
        refine ev_bp f_X12_reading (nx := 30) (v := 6) rfl (by decide) rfl ?_
        refine ev_inV2 f_X12_reading (nx := 33) (lo2 := [(0, .ref 69), (1, .int 6)]) rfl rfl rfl rfl f_X12_refuse (hI.wf.s rfl) rfl rfl rfl rfl rfl ?_
        refine ev_loc f_X12_refuse (nx := 1) rfl rfl rfl rfl ?_
        refine ev_loc f_X12_refuse (nx := 2) rfl rfl rfl rfl ?_
        refine ev_putIT f_X12_refuse (nx := 5) rfl (hI.wf.s rfl) rfl rfl rfl (hI.put0 (hI.wf.s rfl) rfl rfl) (hX.upI rfl) (fun g9 e9 hI hX => ?_)
        refine ev_ic f_X12_refuse (nx := 6) (v := -1) rfl (by decide) rfl ?_
        refine ev_retK1 f_X12_refuse rfl rfl rfl ?_
        exact ev_ret f_X12_reading rfl rfl rfl ⟨_, _, _, rfl, hI, hX, ⟨_, rfl, (Int.le_trans (by decide : ((-2147483648):Int) ≤ (-1)) (by decide : ((-1):Int) ≤ ((-1):Int32).toInt)), (Int.le_trans (by decide : ((-1):Int32).toInt ≤ ((-1):Int)) (by decide : ((-1):Int) ≤ 2147483647))⟩⟩
      · have l10 : 0 ≤ ar1.toInt := t_lel (t_nlt h7) (by decide : (0:Int) ≤ (0:Int32).toInt)
        refine ev_loc f_X12_reading (nx := 20) rfl rfl rfl rfl ?_
        refine ev_loc f_X12_reading (nx := 21) rfl rfl rfl rfl ?_
        refine ev_getI f_X12_reading (nx := 24) rfl (hI.wf.s rfl) rfl rfl rfl ?_
        obtain ⟨l11, u11⟩ := hI.b (hI.wf.s (k := 69) rfl) (t_bdK rfl : t_bd 11 30 = some (0, 500))
        refine ev_if f_X12_reading (t1 := 34) (t2 := 27) rfl rfl rfl (fun h12 => ?_) (fun h12 => ?_)
        · have r13 : ar1.toInt < (gi 69 30).toInt := Int32.lt_iff_toInt_lt.mp h12
          have u14 : ar1.toInt ≤ 499 := t_ltu h12 u11 rfl
          have l15 : 1 ≤ (gi 69 30).toInt := t_ltl h12 l10 rfl
          refine ev_loc f_X12_reading (nx := 35) rfl rfl rfl rfl ?_
          refine ev_loc f_X12_reading (nx := 36) rfl rfl rfl rfl ?_
          refine ev_if f_X12_reading (t1 := 39) (t2 := 48) rfl rfl rfl (fun h16 => ?_) (fun h16 => ?_)
          · have u17 : ar2.toInt ≤ 0 := t_equ h16 (by decide : (0:Int32).toInt ≤ (0:Int))
            refine ev_loc f_X12_reading (nx := 40) rfl rfl rfl rfl ?_
            refine ev_getR f_X12_reading (nx := 43) rfl (hI.wf.s rfl) rfl rfl (hI.wf.r rfl) rfl rfl ?_
            refine ev_loc f_X12_reading (nx := 44) rfl rfl rfl rfl ?_
            refine ev_ialdT f_X12_reading (nx := 45) rfl (hI.wf.s rfl) l10 (by decide) u14 (by decide) rfl (fun w18 e18 => ?_)
            refine ev_jmp f_X12_reading (nx := 68) rfl rfl rfl ?_
            refine ev_inV2 f_X12_reading (nx := 71) (lo2 := [(0, .ref 69), (1, .int w18)]) rfl rfl rfl rfl f_X12_orNone (hI.wf.s rfl) rfl rfl rfl rfl rfl ?_
            refine ev_loc f_X12_orNone (nx := 1) rfl rfl rfl rfl ?_
            refine ev_ic f_X12_orNone (nx := 2) (v := -1) rfl (by decide) rfl ?_
            refine ev_if f_X12_orNone (t1 := 5) (t2 := 14) rfl rfl rfl (fun h19 => ?_) (fun h19 => ?_)
            · have u20 : w18.toInt ≤ (-1) := t_equ h19 (by decide : ((-1):Int32).toInt ≤ ((-1):Int))
              have l21 : (-1) ≤ w18.toInt := t_eql h19 (by decide : ((-1):Int) ≤ ((-1):Int32).toInt)
              refine ev_loc f_X12_orNone (nx := 6) rfl rfl rfl rfl ?_
              refine ev_bp f_X12_orNone (nx := 8) (v := 6) rfl (by decide) rfl ?_
              refine ev_inV2 f_X12_orNone (nx := 11) (lo2 := [(0, .ref 69), (1, .int 6)]) rfl rfl rfl rfl f_X12_refuse (hI.wf.s rfl) rfl rfl rfl rfl rfl ?_
              refine ev_loc f_X12_refuse (nx := 1) rfl rfl rfl rfl ?_
              refine ev_loc f_X12_refuse (nx := 2) rfl rfl rfl rfl ?_
              refine ev_putIT f_X12_refuse (nx := 5) rfl (hI.wf.s rfl) rfl rfl rfl (hI.put0 (hI.wf.s rfl) rfl rfl) (hX.upI rfl) (fun g22 e22 hI hX => ?_)
              refine ev_ic f_X12_refuse (nx := 6) (v := -1) rfl (by decide) rfl ?_
              refine ev_retK1 f_X12_refuse rfl rfl rfl ?_
              refine ev_jmp f_X12_orNone (nx := 19) rfl rfl rfl ?_
              refine ev_retK1 f_X12_orNone rfl rfl rfl ?_
              exact ev_ret f_X12_reading rfl rfl rfl ⟨_, _, _, rfl, hI, hX, ⟨_, rfl, (Int.le_trans (by decide : ((-2147483648):Int) ≤ (-1)) (by decide : ((-1):Int) ≤ ((-1):Int32).toInt)), (Int.le_trans (by decide : ((-1):Int32).toInt ≤ ((-1):Int)) (by decide : ((-1):Int) ≤ 2147483647))⟩⟩
            · have r23 : w18.toInt ≠ (-1) := fun e => h19 (Int32.toInt_inj.mp (e.trans (by decide : ((-1):Int) = ((-1) : Int32).toInt)))
              refine ev_loc f_X12_orNone (nx := 15) rfl rfl rfl rfl ?_
              refine ev_loc f_X12_orNone (nx := 16) rfl rfl rfl rfl ?_
              refine ev_inV2 f_X12_orNone (nx := 19) (lo2 := [(0, .ref 69), (1, .int w18)]) rfl rfl rfl rfl f_X12_gives (hI.wf.s rfl) rfl rfl rfl rfl rfl ?_
              refine ev_loc f_X12_gives (nx := 1) rfl rfl rfl rfl ?_
              refine ev_ic f_X12_gives (nx := 2) (v := 0) rfl (by decide) rfl ?_
              refine ev_putIT f_X12_gives (nx := 5) rfl (hI.wf.s rfl) rfl rfl rfl (hI.put0 (hI.wf.s rfl) rfl rfl) (hX.upI rfl) (fun g24 e24 hI hX => ?_)
              refine ev_loc f_X12_gives (nx := 6) rfl rfl rfl rfl ?_
              refine ev_retK1 f_X12_gives rfl rfl rfl ?_
              refine ev_retK1 f_X12_orNone rfl rfl rfl ?_
              exact ev_ret f_X12_reading rfl rfl rfl ⟨_, _, _, rfl, hI, hX, ⟨_, rfl, (t_lo w18), (t_hi w18)⟩⟩
          · have r25 : ar2.toInt ≠ 0 := fun e => h16 (Int32.toInt_inj.mp (e.trans (by decide : (0:Int) = (0 : Int32).toInt)))
            have l26 : 1 ≤ ar2.toInt := t_nel h16 l4 rfl rfl
            refine ev_loc f_X12_reading (nx := 49) rfl rfl rfl rfl ?_
            refine ev_ic f_X12_reading (nx := 50) (v := 1) rfl (by decide) rfl ?_
            refine ev_if f_X12_reading (t1 := 53) (t2 := 62) rfl rfl rfl (fun h27 => ?_) (fun h27 => ?_)
            · have u28 : ar2.toInt ≤ 1 := t_equ h27 (by decide : (1:Int32).toInt ≤ (1:Int))
              refine ev_loc f_X12_reading (nx := 54) rfl rfl rfl rfl ?_
              refine ev_getR f_X12_reading (nx := 57) rfl (hI.wf.s rfl) rfl rfl (hI.wf.r rfl) rfl rfl ?_
              refine ev_loc f_X12_reading (nx := 58) rfl rfl rfl rfl ?_
              refine ev_ialdT f_X12_reading (nx := 59) rfl (hI.wf.s rfl) l10 (by decide) u14 (by decide) rfl (fun w29 e29 => ?_)
              refine ev_jmp f_X12_reading (nx := 68) rfl rfl rfl ?_
              refine ev_inV2 f_X12_reading (nx := 71) (lo2 := [(0, .ref 69), (1, .int w29)]) rfl rfl rfl rfl f_X12_orNone (hI.wf.s rfl) rfl rfl rfl rfl rfl ?_
              refine ev_loc f_X12_orNone (nx := 1) rfl rfl rfl rfl ?_
              refine ev_ic f_X12_orNone (nx := 2) (v := -1) rfl (by decide) rfl ?_
              refine ev_if f_X12_orNone (t1 := 5) (t2 := 14) rfl rfl rfl (fun h30 => ?_) (fun h30 => ?_)
              · have u31 : w29.toInt ≤ (-1) := t_equ h30 (by decide : ((-1):Int32).toInt ≤ ((-1):Int))
                have l32 : (-1) ≤ w29.toInt := t_eql h30 (by decide : ((-1):Int) ≤ ((-1):Int32).toInt)
                refine ev_loc f_X12_orNone (nx := 6) rfl rfl rfl rfl ?_
                refine ev_bp f_X12_orNone (nx := 8) (v := 6) rfl (by decide) rfl ?_
                refine ev_inV2 f_X12_orNone (nx := 11) (lo2 := [(0, .ref 69), (1, .int 6)]) rfl rfl rfl rfl f_X12_refuse (hI.wf.s rfl) rfl rfl rfl rfl rfl ?_
                refine ev_loc f_X12_refuse (nx := 1) rfl rfl rfl rfl ?_
                refine ev_loc f_X12_refuse (nx := 2) rfl rfl rfl rfl ?_
                refine ev_putIT f_X12_refuse (nx := 5) rfl (hI.wf.s rfl) rfl rfl rfl (hI.put0 (hI.wf.s rfl) rfl rfl) (hX.upI rfl) (fun g33 e33 hI hX => ?_)
                refine ev_ic f_X12_refuse (nx := 6) (v := -1) rfl (by decide) rfl ?_
                refine ev_retK1 f_X12_refuse rfl rfl rfl ?_
                refine ev_jmp f_X12_orNone (nx := 19) rfl rfl rfl ?_
                refine ev_retK1 f_X12_orNone rfl rfl rfl ?_
                exact ev_ret f_X12_reading rfl rfl rfl ⟨_, _, _, rfl, hI, hX, ⟨_, rfl, (Int.le_trans (by decide : ((-2147483648):Int) ≤ (-1)) (by decide : ((-1):Int) ≤ ((-1):Int32).toInt)), (Int.le_trans (by decide : ((-1):Int32).toInt ≤ ((-1):Int)) (by decide : ((-1):Int) ≤ 2147483647))⟩⟩
              · have r34 : w29.toInt ≠ (-1) := fun e => h30 (Int32.toInt_inj.mp (e.trans (by decide : ((-1):Int) = ((-1) : Int32).toInt)))
                refine ev_loc f_X12_orNone (nx := 15) rfl rfl rfl rfl ?_
                refine ev_loc f_X12_orNone (nx := 16) rfl rfl rfl rfl ?_
                refine ev_inV2 f_X12_orNone (nx := 19) (lo2 := [(0, .ref 69), (1, .int w29)]) rfl rfl rfl rfl f_X12_gives (hI.wf.s rfl) rfl rfl rfl rfl rfl ?_
                refine ev_loc f_X12_gives (nx := 1) rfl rfl rfl rfl ?_
                refine ev_ic f_X12_gives (nx := 2) (v := 0) rfl (by decide) rfl ?_
                refine ev_putIT f_X12_gives (nx := 5) rfl (hI.wf.s rfl) rfl rfl rfl (hI.put0 (hI.wf.s rfl) rfl rfl) (hX.upI rfl) (fun g35 e35 hI hX => ?_)
                refine ev_loc f_X12_gives (nx := 6) rfl rfl rfl rfl ?_
                refine ev_retK1 f_X12_gives rfl rfl rfl ?_
                refine ev_retK1 f_X12_orNone rfl rfl rfl ?_
                exact ev_ret f_X12_reading rfl rfl rfl ⟨_, _, _, rfl, hI, hX, ⟨_, rfl, (t_lo w29), (t_hi w29)⟩⟩
            · have r36 : ar2.toInt ≠ 1 := fun e => h27 (Int32.toInt_inj.mp (e.trans (by decide : (1:Int) = (1 : Int32).toInt)))
              have l37 : 2 ≤ ar2.toInt := t_nel h27 l26 rfl rfl
              refine ev_loc f_X12_reading (nx := 63) rfl rfl rfl rfl ?_
              refine ev_getR f_X12_reading (nx := 66) rfl (hI.wf.s rfl) rfl rfl (hI.wf.r rfl) rfl rfl ?_
              refine ev_loc f_X12_reading (nx := 67) rfl rfl rfl rfl ?_
              refine ev_ialdT f_X12_reading (nx := 68) rfl (hI.wf.s rfl) l10 (by decide) u14 (by decide) rfl (fun w38 e38 => ?_)
              refine ev_inV2 f_X12_reading (nx := 71) (lo2 := [(0, .ref 69), (1, .int w38)]) rfl rfl rfl rfl f_X12_orNone (hI.wf.s rfl) rfl rfl rfl rfl rfl ?_
              refine ev_loc f_X12_orNone (nx := 1) rfl rfl rfl rfl ?_
              refine ev_ic f_X12_orNone (nx := 2) (v := -1) rfl (by decide) rfl ?_
              refine ev_if f_X12_orNone (t1 := 5) (t2 := 14) rfl rfl rfl (fun h39 => ?_) (fun h39 => ?_)
              · have u40 : w38.toInt ≤ (-1) := t_equ h39 (by decide : ((-1):Int32).toInt ≤ ((-1):Int))
                have l41 : (-1) ≤ w38.toInt := t_eql h39 (by decide : ((-1):Int) ≤ ((-1):Int32).toInt)
                refine ev_loc f_X12_orNone (nx := 6) rfl rfl rfl rfl ?_
                refine ev_bp f_X12_orNone (nx := 8) (v := 6) rfl (by decide) rfl ?_
                refine ev_inV2 f_X12_orNone (nx := 11) (lo2 := [(0, .ref 69), (1, .int 6)]) rfl rfl rfl rfl f_X12_refuse (hI.wf.s rfl) rfl rfl rfl rfl rfl ?_
                refine ev_loc f_X12_refuse (nx := 1) rfl rfl rfl rfl ?_
                refine ev_loc f_X12_refuse (nx := 2) rfl rfl rfl rfl ?_
                refine ev_putIT f_X12_refuse (nx := 5) rfl (hI.wf.s rfl) rfl rfl rfl (hI.put0 (hI.wf.s rfl) rfl rfl) (hX.upI rfl) (fun g42 e42 hI hX => ?_)
                refine ev_ic f_X12_refuse (nx := 6) (v := -1) rfl (by decide) rfl ?_
                refine ev_retK1 f_X12_refuse rfl rfl rfl ?_
                refine ev_jmp f_X12_orNone (nx := 19) rfl rfl rfl ?_
                refine ev_retK1 f_X12_orNone rfl rfl rfl ?_
                exact ev_ret f_X12_reading rfl rfl rfl ⟨_, _, _, rfl, hI, hX, ⟨_, rfl, (Int.le_trans (by decide : ((-2147483648):Int) ≤ (-1)) (by decide : ((-1):Int) ≤ ((-1):Int32).toInt)), (Int.le_trans (by decide : ((-1):Int32).toInt ≤ ((-1):Int)) (by decide : ((-1):Int) ≤ 2147483647))⟩⟩
              · have r43 : w38.toInt ≠ (-1) := fun e => h39 (Int32.toInt_inj.mp (e.trans (by decide : ((-1):Int) = ((-1) : Int32).toInt)))
                refine ev_loc f_X12_orNone (nx := 15) rfl rfl rfl rfl ?_
                refine ev_loc f_X12_orNone (nx := 16) rfl rfl rfl rfl ?_
                refine ev_inV2 f_X12_orNone (nx := 19) (lo2 := [(0, .ref 69), (1, .int w38)]) rfl rfl rfl rfl f_X12_gives (hI.wf.s rfl) rfl rfl rfl rfl rfl ?_
                refine ev_loc f_X12_gives (nx := 1) rfl rfl rfl rfl ?_
                refine ev_ic f_X12_gives (nx := 2) (v := 0) rfl (by decide) rfl ?_
                refine ev_putIT f_X12_gives (nx := 5) rfl (hI.wf.s rfl) rfl rfl rfl (hI.put0 (hI.wf.s rfl) rfl rfl) (hX.upI rfl) (fun g44 e44 hI hX => ?_)
                refine ev_loc f_X12_gives (nx := 6) rfl rfl rfl rfl ?_
                refine ev_retK1 f_X12_gives rfl rfl rfl ?_
                refine ev_retK1 f_X12_orNone rfl rfl rfl ?_
                exact ev_ret f_X12_reading rfl rfl rfl ⟨_, _, _, rfl, hI, hX, ⟨_, rfl, (t_lo w38), (t_hi w38)⟩⟩
        · have r45 : (gi 69 30).toInt ≤ ar1.toInt := Int32.le_iff_toInt_le.mp (t_nlt h12)
          refine ev_loc f_X12_reading (nx := 28) rfl rfl rfl rfl ?_
          refine ev_bp f_X12_reading (nx := 30) (v := 6) rfl (by decide) rfl ?_
          refine ev_inV2 f_X12_reading (nx := 33) (lo2 := [(0, .ref 69), (1, .int 6)]) rfl rfl rfl rfl f_X12_refuse (hI.wf.s rfl) rfl rfl rfl rfl rfl ?_
          refine ev_loc f_X12_refuse (nx := 1) rfl rfl rfl rfl ?_
          refine ev_loc f_X12_refuse (nx := 2) rfl rfl rfl rfl ?_
          refine ev_putIT f_X12_refuse (nx := 5) rfl (hI.wf.s rfl) rfl rfl rfl (hI.put0 (hI.wf.s rfl) rfl rfl) (hX.upI rfl) (fun g46 e46 hI hX => ?_)
          refine ev_ic f_X12_refuse (nx := 6) (v := -1) rfl (by decide) rfl ?_
          refine ev_retK1 f_X12_refuse rfl rfl rfl ?_
          exact ev_ret f_X12_reading rfl rfl rfl ⟨_, _, _, rfl, hI, hX, ⟨_, rfl, (Int.le_trans (by decide : ((-2147483648):Int) ≤ (-1)) (by decide : ((-1):Int) ≤ ((-1):Int32).toInt)), (Int.le_trans (by decide : ((-1):Int32).toInt ≤ ((-1):Int)) (by decide : ((-1):Int) ≤ 2147483647))⟩⟩
    · have l47 : 3 ≤ ar2.toInt := t_ltl (t_nle h5) (by decide : (2:Int) ≤ (2:Int32).toInt) rfl
      refine ev_loc f_X12_reading (nx := 10) rfl rfl rfl rfl ?_
      refine ev_ic f_X12_reading (nx := 11) (v := 1) rfl (by decide) rfl ?_
      refine ev_inV2 f_X12_reading (nx := 14) (lo2 := [(0, .ref 69), (1, .int 1)]) rfl rfl rfl rfl f_X12_refuse (hI.wf.s rfl) rfl rfl rfl rfl rfl ?_
      refine ev_loc f_X12_refuse (nx := 1) rfl rfl rfl rfl ?_
      refine ev_loc f_X12_refuse (nx := 2) rfl rfl rfl rfl ?_
      refine ev_putIT f_X12_refuse (nx := 5) rfl (hI.wf.s rfl) rfl rfl rfl (hI.put0 (hI.wf.s rfl) rfl rfl) (hX.upI rfl) (fun g48 e48 hI hX => ?_)
      refine ev_ic f_X12_refuse (nx := 6) (v := -1) rfl (by decide) rfl ?_
      refine ev_retK1 f_X12_refuse rfl rfl rfl ?_
      exact ev_ret f_X12_reading rfl rfl rfl ⟨_, _, _, rfl, hI, hX, ⟨_, rfl, (Int.le_trans (by decide : ((-2147483648):Int) ≤ (-1)) (by decide : ((-1):Int) ≤ ((-1):Int32).toInt)), (Int.le_trans (by decide : ((-1):Int32).toInt ≤ ((-1):Int)) (by decide : ((-1):Int) ≤ 2147483647))⟩⟩
noncomputable def wl_m_alikeBy : List (Nat × Nat) := []
theorem c_m_alikeBy {X : x_Ext} {d : Nat} {sh : List (Nat ⊕ (Nat × Nat))} {gi : Nat → Nat → Int32} {gl : Nat → Nat → Int64} {gr : Nat → Nat → Value} (hI : t_I sh gi gr) (ar1 : Int32) (l_a1 : 0 ≤ ar1.toInt) (u_a1 : ar1.toInt ≤ 9) : x_Me X (d + 3) n_X12_alikeBy [.ref 69, .int ar1] (sh, gi, gl, gr) (t_P wl_m_alikeBy sh gi gl gr (t_Ri (-2147483648) 2147483647)) := by
  have hX : t_X wl_m_alikeBy sh gi gl gr gi gl gr := t_X.rf
  refine me_i f_X12_alikeBy (hI.wf.s rfl) rfl rfl rfl ?_
  refine ev_ic f_X12_alikeBy (nx := 1) (v := 0) rfl (by decide) rfl ?_
  refine ev_loc f_X12_alikeBy (nx := 2) (lo' := [(2, .int 0), (0, .ref 69), (1, .int ar1)]) rfl rfl rfl rfl ?_
  refine ev_ic f_X12_alikeBy (nx := 3) (v := 0) rfl (by decide) rfl ?_
  refine ev_loc f_X12_alikeBy (nx := 4) (lo' := [(3, .int 0), (2, .int 0), (0, .ref 69), (1, .int ar1)]) rfl rfl rfl rfl ?_
  have L1 : ∀ (m1 : Nat) (gi1 : Nat → Nat → Int32) (gl1 : Nat → Nat → Int64) (gr1 : Nat → Nat → Value) (y1_3 : Int32) (y1_2 : Int32), t_I sh gi1 gr1 → t_X wl_m_alikeBy sh gi gl gr gi1 gl1 gr1 → 0 ≤ y1_3.toInt → y1_3.toInt ≤ 6 → (6 - y1_3.toInt).toNat = m1 → x_Ev X (d + 3) n_X12_alikeBy 4 [(3, .int y1_3), (2, .int y1_2), (0, .ref 69), (1, .int ar1)] [] (sh, gi1, gl1, gr1) (t_P wl_m_alikeBy sh gi gl gr (t_Ri (-2147483648) 2147483647)) := by
    intro m1
    induction m1 using Nat.strongRecOn with
    | _ m1 ih1 =>
    intro gi1 gl1 gr1 y1_3 y1_2 hI hX l1_3 u1_3 hm1
    refine ev_loc f_X12_alikeBy (nx := 5) rfl rfl rfl rfl ?_
    refine ev_loc f_X12_alikeBy (nx := 6) rfl rfl rfl rfl ?_
    refine ev_getR f_X12_alikeBy (nx := 9) rfl (hI.wf.s rfl) rfl rfl (hI.wf.r rfl) rfl rfl ?_
    refine ev_ic f_X12_alikeBy (nx := 10) (v := 0) rfl (by decide) rfl ?_
    obtain ⟨l2, u2⟩ := hI.ab (by decide +kernel : t_abr 70 0 0 0 6 = true) (Nat.le_refl _) (Nat.le_refl _)
    refine ev_ialdv f_X12_alikeBy (nx := 11) (w := (gi1 70 0)) rfl (hI.wf.s rfl) (by decide) (rfl : (0 : Int32).toNatClampNeg = 0) (by decide) rfl rfl ?_
    refine ev_if f_X12_alikeBy (t1 := 73) (t2 := 14) rfl rfl rfl (fun h3 => ?_) (fun h3 => ?_)
    · have r4 : (gi1 70 0).toInt ≤ y1_3.toInt := Int32.le_iff_toInt_le.mp h3
      refine ev_loc f_X12_alikeBy (nx := 74) rfl rfl rfl rfl ?_
      exact ev_ret f_X12_alikeBy rfl rfl rfl ⟨_, _, _, rfl, hI, hX, ⟨_, rfl, (t_lo y1_2), (t_hi y1_2)⟩⟩
    · have r5 : y1_3.toInt < (gi1 70 0).toInt := Int32.lt_iff_toInt_lt.mp (t_nle h3)
      have u6 : y1_3.toInt ≤ 5 := t_ltu (t_nle h3) u2 rfl
      have l7 : 1 ≤ (gi1 70 0).toInt := t_ltl (t_nle h3) l1_3 rfl
      refine ev_loc f_X12_alikeBy (nx := 15) rfl rfl rfl rfl ?_
      refine ev_ic f_X12_alikeBy (nx := 16) (v := 1) rfl (by decide) rfl ?_
      refine ev_addC f_X12_alikeBy (nx := 17) (c := 1) (l := 1) (u := 6) rfl (by decide) l1_3 u6 rfl rfl (by decide) (by decide) rfl (fun z8 e8 l8 u8 => ?_)
      refine ev_loc f_X12_alikeBy (nx := 19) (lo' := [(4, .int z8), (3, .int y1_3), (2, .int y1_2), (0, .ref 69), (1, .int ar1)]) rfl rfl rfl rfl ?_
      have L9 : ∀ (m9 : Nat) (gi9 : Nat → Nat → Int32) (gl9 : Nat → Nat → Int64) (gr9 : Nat → Nat → Value) (y9_4 : Int32) (y9_2 : Int32), t_I sh gi9 gr9 → t_X wl_m_alikeBy sh gi gl gr gi9 gl9 gr9 → 1 ≤ y9_4.toInt → y9_4.toInt ≤ 6 → gi9 70 0 = (gi1 70 0) → (6 - y9_4.toInt).toNat = m9 → x_Ev X (d + 3) n_X12_alikeBy 19 [(4, .int y9_4), (3, .int y1_3), (2, .int y9_2), (0, .ref 69), (1, .int ar1)] [] (sh, gi9, gl9, gr9) (t_P wl_m_alikeBy sh gi gl gr (t_Ri (-2147483648) 2147483647)) := by
        intro m9
        induction m9 using Nat.strongRecOn with
        | _ m9 ih9 =>
        intro gi9 gl9 gr9 y9_4 y9_2 hI hX l9_4 u9_4 c9_0 hm9
        refine ev_loc f_X12_alikeBy (nx := 21) rfl rfl rfl rfl ?_
        refine ev_loc f_X12_alikeBy (nx := 22) rfl rfl rfl rfl ?_
        refine ev_getR f_X12_alikeBy (nx := 25) rfl (hI.wf.s rfl) rfl rfl (hI.wf.r rfl) rfl rfl ?_
        refine ev_ic f_X12_alikeBy (nx := 26) (v := 0) rfl (by decide) rfl ?_
        refine ev_ialdv f_X12_alikeBy (nx := 27) (w := (gi1 70 0)) rfl (hI.wf.s rfl) (by decide) (rfl : (0 : Int32).toNatClampNeg = 0) (by decide) c9_0 rfl ?_
        refine ev_if f_X12_alikeBy (t1 := 67) (t2 := 30) rfl rfl rfl (fun h11 => ?_) (fun h11 => ?_)
        · have r12 : (gi1 70 0).toInt ≤ y9_4.toInt := Int32.le_iff_toInt_le.mp h11
          refine ev_incR f_X12_alikeBy (nx := 70) (c := 1) (l := 1) (u := 6) rfl rfl (by decide) (by decide) l1_3 u6 rfl rfl (by decide) (by decide) rfl (fun z13 e13 l13 u13 => ?_)
          refine ev_jmp f_X12_alikeBy (nx := 4) rfl rfl rfl ?_
          refine ev_sub (lo := [(3, .int z13), (2, .int y9_2), (0, .ref 69), (1, .int ar1)]) rfl (t_sc rfl (t_sc rfl (t_sc rfl (t_sc rfl t_sn)))) ?_
          exact ih1 _ (by omega) gi9 gl9 gr9 (z13) (y9_2) hI hX  (Int.le_trans (by decide : (0:Int) ≤ 1) l13) u13 rfl
        · have r14 : y9_4.toInt < (gi1 70 0).toInt := Int32.lt_iff_toInt_lt.mp (t_nle h11)
          have u15 : y9_4.toInt ≤ 5 := t_ltu (t_nle h11) u2 rfl
          have l16 : 2 ≤ (gi1 70 0).toInt := t_ltl (t_nle h11) l9_4 rfl
          refine ev_loc f_X12_alikeBy (nx := 31) rfl rfl rfl rfl ?_
          refine ev_loc f_X12_alikeBy (nx := 32) rfl rfl rfl rfl ?_
          refine ev_loc f_X12_alikeBy (nx := 33) rfl rfl rfl rfl ?_
          refine ev_inV2 f_X12_alikeBy (nx := 36) (lo2 := [(0, .ref 69), (1, .int y1_3)]) rfl rfl rfl rfl f_X12_soundOf (hI.wf.s rfl) rfl rfl rfl rfl rfl ?_
          refine ev_loc f_X12_soundOf (nx := 1) rfl rfl rfl rfl ?_
          refine ev_bp f_X12_soundOf (nx := 3) (v := 10) rfl (by decide) rfl ?_
          refine ev_bp f_X12_soundOf (nx := 5) (v := 7) rfl (by decide) rfl ?_
          refine ev_loc f_X12_soundOf (nx := 6) rfl rfl rfl rfl ?_
          refine ev_mulL f_X12_soundOf (nx := 7) (c := 7) (l := 0) (u := 35) rfl (by decide) (by decide) l1_3 u6 rfl rfl (by decide) (by decide) rfl (fun z17 e17 l17 u17 => ?_)
          refine ev_addK f_X12_soundOf (nx := 8) (c := 10) (l := 10) (u := 45) rfl (by decide) l17 u17 rfl rfl (by decide) (by decide) rfl (fun z18 e18 l18 u18 => ?_)
          refine ev_ic f_X12_soundOf (nx := 9) (v := 1) rfl (by decide) rfl ?_
          refine ev_addC f_X12_soundOf (nx := 10) (c := 1) (l := 11) (u := 46) rfl (by decide) l18 u18 rfl rfl (by decide) (by decide) rfl (fun z19 e19 l19 u19 => ?_)
          refine ev_loc f_X12_soundOf (nx := 11) rfl rfl rfl rfl ?_
          refine ev_getR f_X12_soundOf (nx := 14) rfl (hI.wf.s rfl) rfl rfl (hI.wf.r rfl) rfl rfl ?_
          refine ev_bp f_X12_soundOf (nx := 16) (v := 10) rfl (by decide) rfl ?_
          refine ev_bp f_X12_soundOf (nx := 18) (v := 7) rfl (by decide) rfl ?_
          refine ev_loc f_X12_soundOf (nx := 19) rfl rfl rfl rfl ?_
          refine ev_mulL f_X12_soundOf (nx := 20) (c := 7) (l := 0) (u := 35) rfl (by decide) (by decide) l1_3 u6 rfl rfl (by decide) (by decide) rfl (fun z20 e20 l20 u20 => ?_)
          refine ev_addK f_X12_soundOf (nx := 21) (c := 10) (l := 10) (u := 45) rfl (by decide) l20 u20 rfl rfl (by decide) (by decide) rfl (fun z21 e21 l21 u21 => ?_)
          refine ev_ialdT f_X12_soundOf (nx := 22) rfl (hI.wf.s rfl) l21 (by decide) u21 (by decide) rfl (fun w22 e22 => ?_)
          obtain ⟨l22, u22⟩ := hI.abA (x := y1_3) e22 (by decide +kernel : t_aba 70 10 7 0 5 (-900) 6 = true) (by omega) (by omega) (by omega)
          refine ev_qL f_X12_soundOf (nx := 25) (r := []) rfl rfl rfl rfl rfl rfl rfl (c_m_beatsOf hI (z19) l19 (Int.le_trans u19 (by decide : (46:Int) ≤ 1752)) (w22) u22) rfl hX rfl (fun w23 gi23 gl23 gr23 hI hX hC23 q23 => ?_)
          have q23 : 0 ≤ w23.toInt ∧ w23.toInt < 16777216 := q23
          refine ev_retK1 f_X12_soundOf rfl rfl rfl ?_
          refine ev_loc f_X12_alikeBy (nx := 37) rfl rfl rfl rfl ?_
          refine ev_inS2 f_X12_alikeBy (nx := 40) (lo2 := [(0, .long w23), (2, .int ar1)]) rfl rfl rfl rfl f_X12_echoed rfl rfl rfl rfl ?_
          refine ev_loc f_X12_echoed (nx := 1) rfl rfl rfl rfl ?_
          refine ev_if f_X12_echoed (t1 := 4) (t2 := 8) rfl rfl rfl (fun h24 => ?_) (fun h24 => ?_)
          · have u25 : ar1.toInt ≤ 0 := t_equ h24 (by decide : (0:Int32).toInt ≤ (0:Int))
            refine ev_loc f_X12_echoed (nx := 5) rfl rfl rfl rfl ?_
            refine ev_jmp f_X12_echoed (nx := 13) rfl rfl rfl ?_
            refine ev_retK1 f_X12_echoed rfl rfl rfl ?_
            refine ev_loc f_X12_alikeBy (nx := 41) rfl rfl rfl rfl ?_
            refine ev_loc f_X12_alikeBy (nx := 43) rfl rfl rfl rfl ?_
            refine ev_inV2 f_X12_alikeBy (nx := 46) (lo2 := [(0, .ref 69), (1, .int y9_4)]) rfl rfl rfl rfl f_X12_soundOf (hI.wf.s rfl) rfl rfl rfl rfl rfl ?_
            refine ev_loc f_X12_soundOf (nx := 1) rfl rfl rfl rfl ?_
            refine ev_bp f_X12_soundOf (nx := 3) (v := 10) rfl (by decide) rfl ?_
            refine ev_bp f_X12_soundOf (nx := 5) (v := 7) rfl (by decide) rfl ?_
            refine ev_loc f_X12_soundOf (nx := 6) rfl rfl rfl rfl ?_
            refine ev_mulL f_X12_soundOf (nx := 7) (c := 7) (l := 7) (u := 35) rfl (by decide) (by decide) l9_4 u15 rfl rfl (by decide) (by decide) rfl (fun z26 e26 l26 u26 => ?_)
            refine ev_addK f_X12_soundOf (nx := 8) (c := 10) (l := 17) (u := 45) rfl (by decide) l26 u26 rfl rfl (by decide) (by decide) rfl (fun z27 e27 l27 u27 => ?_)
            refine ev_ic f_X12_soundOf (nx := 9) (v := 1) rfl (by decide) rfl ?_
            refine ev_addC f_X12_soundOf (nx := 10) (c := 1) (l := 18) (u := 46) rfl (by decide) l27 u27 rfl rfl (by decide) (by decide) rfl (fun z28 e28 l28 u28 => ?_)
            refine ev_loc f_X12_soundOf (nx := 11) rfl rfl rfl rfl ?_
            refine ev_getR f_X12_soundOf (nx := 14) rfl (hI.wf.s rfl) rfl rfl (hI.wf.r rfl) rfl rfl ?_
            refine ev_bp f_X12_soundOf (nx := 16) (v := 10) rfl (by decide) rfl ?_
            refine ev_bp f_X12_soundOf (nx := 18) (v := 7) rfl (by decide) rfl ?_
            refine ev_loc f_X12_soundOf (nx := 19) rfl rfl rfl rfl ?_
            refine ev_mulL f_X12_soundOf (nx := 20) (c := 7) (l := 7) (u := 35) rfl (by decide) (by decide) l9_4 u15 rfl rfl (by decide) (by decide) rfl (fun z29 e29 l29 u29 => ?_)
            refine ev_addK f_X12_soundOf (nx := 21) (c := 10) (l := 17) (u := 45) rfl (by decide) l29 u29 rfl rfl (by decide) (by decide) rfl (fun z30 e30 l30 u30 => ?_)
            refine ev_ialdT f_X12_soundOf (nx := 22) rfl (hI.wf.s rfl) l30 (by decide) u30 (by decide) rfl (fun w31 e31 => ?_)
            obtain ⟨l31, u31⟩ := hI.abA (x := y9_4) e31 (by decide +kernel : t_aba 70 10 7 1 5 (-900) 6 = true) (by omega) (by omega) (by omega)
            refine ev_qL f_X12_soundOf (nx := 25) (r := []) rfl rfl rfl rfl rfl rfl rfl (c_m_beatsOf hI (z28) (Int.le_trans (by decide : (11:Int) ≤ 18) l28) (Int.le_trans u28 (by decide : (46:Int) ≤ 1752)) (w31) u31) rfl hX rfl (fun w32 gi32 gl32 gr32 hI hX hC32 q32 => ?_)
            have q32 : 0 ≤ w32.toInt ∧ w32.toInt < 16777216 := q32
            refine ev_retK1 f_X12_soundOf rfl rfl rfl ?_
            refine ev_loc f_X12_alikeBy (nx := 47) rfl rfl rfl rfl ?_
            refine ev_inS2 f_X12_alikeBy (nx := 50) (lo2 := [(0, .long w32), (2, .int ar1)]) rfl rfl rfl rfl f_X12_echoed rfl rfl rfl rfl ?_
            refine ev_loc f_X12_echoed (nx := 1) rfl rfl rfl rfl ?_
            refine ev_t f_X12_echoed (t1 := 4) (t2 := 8) rfl rfl rfl (t_eqT u25 l_a1 (by decide : (0:Int32).toInt ≤ (0:Int)) (by decide : (0:Int) ≤ (0:Int32).toInt)) ?_
            refine ev_loc f_X12_echoed (nx := 5) rfl rfl rfl rfl ?_
            refine ev_jmp f_X12_echoed (nx := 13) rfl rfl rfl ?_
            refine ev_retK1 f_X12_echoed rfl rfl rfl ?_
            refine ev_anyI f_X12_alikeBy (nx := 51) rfl rfl rfl rfl (fun z33 => ?_)
            refine ev_if f_X12_alikeBy (t1 := 54) (t2 := 58) rfl rfl rfl (fun h34 => ?_) (fun h34 => ?_)
            · have u35 : z33.toInt ≤ 0 := t_equ h34 (by decide : (0:Int32).toInt ≤ (0:Int))
              have l36 : 0 ≤ z33.toInt := t_eql h34 (by decide : (0:Int) ≤ (0:Int32).toInt)
              refine ev_ic f_X12_alikeBy (nx := 55) (v := 1) rfl (by decide) rfl ?_
              refine ev_jmp f_X12_alikeBy (nx := 59) rfl rfl rfl ?_
              refine ev_anyI f_X12_alikeBy (nx := 60) rfl rfl rfl rfl (fun z37 => ?_)
              refine ev_loc f_X12_alikeBy (nx := 61) (lo' := [(2, .int z37), (4, .int y9_4), (3, .int y1_3), (0, .ref 69), (1, .int ar1)]) rfl rfl rfl rfl ?_
              refine ev_incR f_X12_alikeBy (nx := 64) (c := 1) (l := 2) (u := 6) rfl rfl (by decide) (by decide) l9_4 u15 rfl rfl (by decide) (by decide) rfl (fun z38 e38 l38 u38 => ?_)
              refine ev_jmp f_X12_alikeBy (nx := 19) rfl rfl rfl ?_
              refine ev_sub (lo := [(4, .int z38), (3, .int y1_3), (2, .int z37), (0, .ref 69), (1, .int ar1)]) rfl (t_sc rfl (t_sc rfl (t_sc rfl (t_sc rfl (t_sc rfl t_sn))))) ?_
              exact ih9 _ (by omega) gi32 gl32 gr32 (z38) (z37) hI hX  (Int.le_trans (by decide : (1:Int) ≤ 2) l38) u38 ((hC32.1 70 0 rfl).1.trans ((hC23.1 70 0 rfl).1.trans c9_0)) rfl
            · have r39 : z33.toInt ≠ 0 := fun e => h34 (Int32.toInt_inj.mp (e.trans (by decide : (0:Int) = (0 : Int32).toInt)))
              refine ev_ic f_X12_alikeBy (nx := 59) (v := 0) rfl (by decide) rfl ?_
              refine ev_addC f_X12_alikeBy (nx := 60) (c := 0) (l := (-2147483648)) (u := 2147483647) rfl (by decide) (t_lo y9_2) (t_hi y9_2) rfl rfl (by decide) (by decide) rfl (fun z40 e40 l40 u40 => ?_)
              refine ev_loc f_X12_alikeBy (nx := 61) (lo' := [(2, .int z40), (4, .int y9_4), (3, .int y1_3), (0, .ref 69), (1, .int ar1)]) rfl rfl rfl rfl ?_
              refine ev_incR f_X12_alikeBy (nx := 64) (c := 1) (l := 2) (u := 6) rfl rfl (by decide) (by decide) l9_4 u15 rfl rfl (by decide) (by decide) rfl (fun z41 e41 l41 u41 => ?_)
              refine ev_jmp f_X12_alikeBy (nx := 19) rfl rfl rfl ?_
              refine ev_sub (lo := [(4, .int z41), (3, .int y1_3), (2, .int z40), (0, .ref 69), (1, .int ar1)]) rfl (t_sc rfl (t_sc rfl (t_sc rfl (t_sc rfl (t_sc rfl t_sn))))) ?_
              exact ih9 _ (by omega) gi32 gl32 gr32 (z41) (z40) hI hX  (Int.le_trans (by decide : (1:Int) ≤ 2) l41) u41 ((hC32.1 70 0 rfl).1.trans ((hC23.1 70 0 rfl).1.trans c9_0)) rfl
          · have r42 : ar1.toInt ≠ 0 := fun e => h24 (Int32.toInt_inj.mp (e.trans (by decide : (0:Int) = (0 : Int32).toInt)))
            have l43 : 1 ≤ ar1.toInt := t_nel h24 l_a1 rfl rfl
            refine ev_loc f_X12_echoed (nx := 9) rfl rfl rfl rfl ?_
            refine ev_loc f_X12_echoed (nx := 10) rfl rfl rfl rfl ?_
            refine ev_loc f_X12_echoed (nx := 11) rfl rfl rfl rfl ?_
            refine ev_anyL f_X12_echoed (nx := 12) rfl rfl rfl rfl (fun z44 => ?_)
            refine ev_anyL f_X12_echoed (nx := 13) rfl rfl rfl rfl (fun z45 => ?_)
            refine ev_retK1 f_X12_echoed rfl rfl rfl ?_
            refine ev_loc f_X12_alikeBy (nx := 41) rfl rfl rfl rfl ?_
            refine ev_loc f_X12_alikeBy (nx := 43) rfl rfl rfl rfl ?_
            refine ev_inV2 f_X12_alikeBy (nx := 46) (lo2 := [(0, .ref 69), (1, .int y9_4)]) rfl rfl rfl rfl f_X12_soundOf (hI.wf.s rfl) rfl rfl rfl rfl rfl ?_
            refine ev_loc f_X12_soundOf (nx := 1) rfl rfl rfl rfl ?_
            refine ev_bp f_X12_soundOf (nx := 3) (v := 10) rfl (by decide) rfl ?_
            refine ev_bp f_X12_soundOf (nx := 5) (v := 7) rfl (by decide) rfl ?_
            refine ev_loc f_X12_soundOf (nx := 6) rfl rfl rfl rfl ?_
            refine ev_mulL f_X12_soundOf (nx := 7) (c := 7) (l := 7) (u := 35) rfl (by decide) (by decide) l9_4 u15 rfl rfl (by decide) (by decide) rfl (fun z46 e46 l46 u46 => ?_)
            refine ev_addK f_X12_soundOf (nx := 8) (c := 10) (l := 17) (u := 45) rfl (by decide) l46 u46 rfl rfl (by decide) (by decide) rfl (fun z47 e47 l47 u47 => ?_)
            refine ev_ic f_X12_soundOf (nx := 9) (v := 1) rfl (by decide) rfl ?_
            refine ev_addC f_X12_soundOf (nx := 10) (c := 1) (l := 18) (u := 46) rfl (by decide) l47 u47 rfl rfl (by decide) (by decide) rfl (fun z48 e48 l48 u48 => ?_)
            refine ev_loc f_X12_soundOf (nx := 11) rfl rfl rfl rfl ?_
            refine ev_getR f_X12_soundOf (nx := 14) rfl (hI.wf.s rfl) rfl rfl (hI.wf.r rfl) rfl rfl ?_
            refine ev_bp f_X12_soundOf (nx := 16) (v := 10) rfl (by decide) rfl ?_
            refine ev_bp f_X12_soundOf (nx := 18) (v := 7) rfl (by decide) rfl ?_
            refine ev_loc f_X12_soundOf (nx := 19) rfl rfl rfl rfl ?_
            refine ev_mulL f_X12_soundOf (nx := 20) (c := 7) (l := 7) (u := 35) rfl (by decide) (by decide) l9_4 u15 rfl rfl (by decide) (by decide) rfl (fun z49 e49 l49 u49 => ?_)
            refine ev_addK f_X12_soundOf (nx := 21) (c := 10) (l := 17) (u := 45) rfl (by decide) l49 u49 rfl rfl (by decide) (by decide) rfl (fun z50 e50 l50 u50 => ?_)
            refine ev_ialdT f_X12_soundOf (nx := 22) rfl (hI.wf.s rfl) l50 (by decide) u50 (by decide) rfl (fun w51 e51 => ?_)
            obtain ⟨l51, u51⟩ := hI.abA (x := y9_4) e51 (by decide +kernel : t_aba 70 10 7 1 5 (-900) 6 = true) (by omega) (by omega) (by omega)
            refine ev_qL f_X12_soundOf (nx := 25) (r := []) rfl rfl rfl rfl rfl rfl rfl (c_m_beatsOf hI (z48) (Int.le_trans (by decide : (11:Int) ≤ 18) l48) (Int.le_trans u48 (by decide : (46:Int) ≤ 1752)) (w51) u51) rfl hX rfl (fun w52 gi52 gl52 gr52 hI hX hC52 q52 => ?_)
            have q52 : 0 ≤ w52.toInt ∧ w52.toInt < 16777216 := q52
            refine ev_retK1 f_X12_soundOf rfl rfl rfl ?_
            refine ev_loc f_X12_alikeBy (nx := 47) rfl rfl rfl rfl ?_
            refine ev_inS2 f_X12_alikeBy (nx := 50) (lo2 := [(0, .long w52), (2, .int ar1)]) rfl rfl rfl rfl f_X12_echoed rfl rfl rfl rfl ?_
            refine ev_loc f_X12_echoed (nx := 1) rfl rfl rfl rfl ?_
            refine ev_f f_X12_echoed (t1 := 4) (t2 := 8) rfl rfl rfl (t_neT' (by decide : (0:Int32).toInt ≤ (0:Int)) l43 (by decide)) ?_
            refine ev_loc f_X12_echoed (nx := 9) rfl rfl rfl rfl ?_
            refine ev_loc f_X12_echoed (nx := 10) rfl rfl rfl rfl ?_
            refine ev_loc f_X12_echoed (nx := 11) rfl rfl rfl rfl ?_
            refine ev_anyL f_X12_echoed (nx := 12) rfl rfl rfl rfl (fun z53 => ?_)
            refine ev_anyL f_X12_echoed (nx := 13) rfl rfl rfl rfl (fun z54 => ?_)
            refine ev_retK1 f_X12_echoed rfl rfl rfl ?_
            refine ev_anyI f_X12_alikeBy (nx := 51) rfl rfl rfl rfl (fun z55 => ?_)
            refine ev_if f_X12_alikeBy (t1 := 54) (t2 := 58) rfl rfl rfl (fun h56 => ?_) (fun h56 => ?_)
            · have u57 : z55.toInt ≤ 0 := t_equ h56 (by decide : (0:Int32).toInt ≤ (0:Int))
              have l58 : 0 ≤ z55.toInt := t_eql h56 (by decide : (0:Int) ≤ (0:Int32).toInt)
              refine ev_ic f_X12_alikeBy (nx := 55) (v := 1) rfl (by decide) rfl ?_
              refine ev_jmp f_X12_alikeBy (nx := 59) rfl rfl rfl ?_
              refine ev_anyI f_X12_alikeBy (nx := 60) rfl rfl rfl rfl (fun z59 => ?_)
              refine ev_loc f_X12_alikeBy (nx := 61) (lo' := [(2, .int z59), (4, .int y9_4), (3, .int y1_3), (0, .ref 69), (1, .int ar1)]) rfl rfl rfl rfl ?_
              refine ev_incR f_X12_alikeBy (nx := 64) (c := 1) (l := 2) (u := 6) rfl rfl (by decide) (by decide) l9_4 u15 rfl rfl (by decide) (by decide) rfl (fun z60 e60 l60 u60 => ?_)
              refine ev_jmp f_X12_alikeBy (nx := 19) rfl rfl rfl ?_
              refine ev_sub (lo := [(4, .int z60), (3, .int y1_3), (2, .int z59), (0, .ref 69), (1, .int ar1)]) rfl (t_sc rfl (t_sc rfl (t_sc rfl (t_sc rfl (t_sc rfl t_sn))))) ?_
              exact ih9 _ (by omega) gi52 gl52 gr52 (z60) (z59) hI hX  (Int.le_trans (by decide : (1:Int) ≤ 2) l60) u60 ((hC52.1 70 0 rfl).1.trans ((hC23.1 70 0 rfl).1.trans c9_0)) rfl
            · have r61 : z55.toInt ≠ 0 := fun e => h56 (Int32.toInt_inj.mp (e.trans (by decide : (0:Int) = (0 : Int32).toInt)))
              refine ev_ic f_X12_alikeBy (nx := 59) (v := 0) rfl (by decide) rfl ?_
              refine ev_addC f_X12_alikeBy (nx := 60) (c := 0) (l := (-2147483648)) (u := 2147483647) rfl (by decide) (t_lo y9_2) (t_hi y9_2) rfl rfl (by decide) (by decide) rfl (fun z62 e62 l62 u62 => ?_)
              refine ev_loc f_X12_alikeBy (nx := 61) (lo' := [(2, .int z62), (4, .int y9_4), (3, .int y1_3), (0, .ref 69), (1, .int ar1)]) rfl rfl rfl rfl ?_
              refine ev_incR f_X12_alikeBy (nx := 64) (c := 1) (l := 2) (u := 6) rfl rfl (by decide) (by decide) l9_4 u15 rfl rfl (by decide) (by decide) rfl (fun z63 e63 l63 u63 => ?_)
              refine ev_jmp f_X12_alikeBy (nx := 19) rfl rfl rfl ?_
              refine ev_sub (lo := [(4, .int z63), (3, .int y1_3), (2, .int z62), (0, .ref 69), (1, .int ar1)]) rfl (t_sc rfl (t_sc rfl (t_sc rfl (t_sc rfl (t_sc rfl t_sn))))) ?_
              exact ih9 _ (by omega) gi52 gl52 gr52 (z63) (z62) hI hX  (Int.le_trans (by decide : (1:Int) ≤ 2) l63) u63 ((hC52.1 70 0 rfl).1.trans ((hC23.1 70 0 rfl).1.trans c9_0)) rfl
      refine ev_sub (lo := [(4, .int z8), (3, .int y1_3), (2, .int y1_2), (0, .ref 69), (1, .int ar1)]) rfl (t_sc rfl (t_sc rfl (t_sc rfl (t_sc rfl (t_sc rfl t_sn))))) ?_
      exact L9 _ gi1 gl1 gr1 (z8) (y1_2) hI hX  l8 u8 rfl rfl
  refine ev_sub (lo := [(3, .int 0), (2, .int 0), (0, .ref 69), (1, .int ar1)]) rfl (t_sc rfl (t_sc rfl (t_sc rfl (t_sc rfl t_sn)))) ?_
  exact L1 _ gi gl gr (0) (0) hI hX  (by decide : (0:Int) ≤ (0:Int32).toInt) (Int.le_trans (by decide : (0:Int32).toInt ≤ (0:Int)) (by decide : (0:Int) ≤ 6)) rfl
noncomputable def wl_m_alike : List (Nat × Nat) := [(69, 2)]
theorem c_m_alike {X : x_Ext} {d : Nat} {sh : List (Nat ⊕ (Nat × Nat))} {gi : Nat → Nat → Int32} {gl : Nat → Nat → Int64} {gr : Nat → Nat → Value} (hI : t_I sh gi gr) : x_Me X (d + 4) n_X12_alike [.ref 69] (sh, gi, gl, gr) (t_P wl_m_alike sh gi gl gr (t_Ri (-2147483648) 2147483647)) := by
  have hX : t_X wl_m_alike sh gi gl gr gi gl gr := t_X.rf
  refine me_i f_X12_alike (hI.wf.s rfl) rfl rfl rfl ?_
  refine ev_loc f_X12_alike (nx := 1) rfl rfl rfl rfl ?_
  refine ev_loc f_X12_alike (nx := 2) rfl rfl rfl rfl ?_
  refine ev_loc f_X12_alike (nx := 3) rfl rfl rfl rfl ?_
  refine ev_getR f_X12_alike (nx := 6) rfl (hI.wf.s rfl) rfl rfl (hI.wf.r rfl) rfl rfl ?_
  refine ev_bp f_X12_alike (nx := 8) (v := 7) rfl (by decide) rfl ?_
  obtain ⟨l1, u1⟩ := hI.ab (by decide +kernel : t_abr 70 7 7 0 9 = true) (Nat.le_refl _) (Nat.le_refl _)
  refine ev_ialdv f_X12_alike (nx := 9) (w := (gi 70 7)) rfl (hI.wf.s rfl) (by decide) (rfl : (7 : Int32).toNatClampNeg = 7) (by decide) rfl rfl ?_
  refine ev_cI f_X12_alike (nx := 12) (r := [.ref 69]) rfl rfl rfl rfl rfl rfl rfl (c_m_alikeBy hI ((gi 70 7)) l1 u1) rfl hX rfl (fun w2 gi2 gl2 gr2 l2 u2 hI hX hC2 => ?_)
  refine ev_inV2 f_X12_alike (nx := 15) (lo2 := [(0, .ref 69), (1, .int w2)]) rfl rfl rfl rfl f_X12_gives (hI.wf.s rfl) rfl rfl rfl rfl rfl ?_
  refine ev_loc f_X12_gives (nx := 1) rfl rfl rfl rfl ?_
  refine ev_ic f_X12_gives (nx := 2) (v := 0) rfl (by decide) rfl ?_
  refine ev_putIT f_X12_gives (nx := 5) rfl (hI.wf.s rfl) rfl rfl rfl (hI.put0 (hI.wf.s rfl) rfl rfl) (hX.upI rfl) (fun g3 e3 hI hX => ?_)
  refine ev_loc f_X12_gives (nx := 6) rfl rfl rfl rfl ?_
  refine ev_retK1 f_X12_gives rfl rfl rfl ?_
  exact ev_ret f_X12_alike rfl rfl rfl ⟨_, _, _, rfl, hI, hX, ⟨_, rfl, l2, u2⟩⟩
noncomputable def wl_m_parts : List (Nat × Nat) := [(69, 2)]
theorem c_m_parts {X : x_Ext} {d : Nat} {sh : List (Nat ⊕ (Nat × Nat))} {gi : Nat → Nat → Int32} {gl : Nat → Nat → Int64} {gr : Nat → Nat → Value} (hI : t_I sh gi gr) (ar1 : Int64) : x_Me X (d + 4) n_X12_parts [.ref 69, .long ar1] (sh, gi, gl, gr) (t_P wl_m_parts sh gi gl gr (t_Ri (-2147483648) 2147483647)) := by
  have hX : t_X wl_m_parts sh gi gl gr gi gl gr := t_X.rf
  refine me_i f_X12_parts (hI.wf.s rfl) rfl rfl rfl ?_
  refine ev_loc f_X12_parts (nx := 1) rfl rfl rfl rfl ?_
  refine ev_lc f_X12_parts (nx := 2) (v := 1) rfl (by decide) rfl ?_
  refine ev_anyI f_X12_parts (nx := 3) rfl rfl rfl rfl (fun z1 => ?_)
  refine ev_if f_X12_parts (t1 := 12) (t2 := 6) rfl rfl rfl (fun h2 => ?_) (fun h2 => ?_)
  · have l3 : 0 ≤ z1.toInt := t_lel h2 (by decide : (0:Int) ≤ (0:Int32).toInt)
    refine ev_ic f_X12_parts (nx := 13) (v := 0) rfl (by decide) rfl ?_
    refine ev_loc f_X12_parts (nx := 14) (lo' := [(3, .int 0), (0, .ref 69), (1, .long ar1)]) rfl rfl rfl rfl ?_
    refine ev_ic f_X12_parts (nx := 15) (v := 0) rfl (by decide) rfl ?_
    refine ev_loc f_X12_parts (nx := 17) (lo' := [(4, .int 0), (3, .int 0), (0, .ref 69), (1, .long ar1)]) rfl rfl rfl rfl ?_
    have L4 : ∀ (m4 : Nat) (gi4 : Nat → Nat → Int32) (gl4 : Nat → Nat → Int64) (gr4 : Nat → Nat → Value) (y4_4 : Int32) (y4_3 : Int32), t_I sh gi4 gr4 → t_X wl_m_parts sh gi gl gr gi4 gl4 gr4 → 0 ≤ y4_4.toInt → y4_4.toInt ≤ 6 → (6 - y4_4.toInt).toNat = m4 → x_Ev X (d + 4) n_X12_parts 17 [(4, .int y4_4), (3, .int y4_3), (0, .ref 69), (1, .long ar1)] [] (sh, gi4, gl4, gr4) (t_P wl_m_parts sh gi gl gr (t_Ri (-2147483648) 2147483647)) := by
      intro m4
      induction m4 using Nat.strongRecOn with
      | _ m4 ih4 =>
      intro gi4 gl4 gr4 y4_4 y4_3 hI hX l4_4 u4_4 hm4
      refine ev_loc f_X12_parts (nx := 19) rfl rfl rfl rfl ?_
      refine ev_loc f_X12_parts (nx := 20) rfl rfl rfl rfl ?_
      refine ev_getR f_X12_parts (nx := 23) rfl (hI.wf.s rfl) rfl rfl (hI.wf.r rfl) rfl rfl ?_
      refine ev_ic f_X12_parts (nx := 24) (v := 0) rfl (by decide) rfl ?_
      obtain ⟨l5, u5⟩ := hI.ab (by decide +kernel : t_abr 70 0 0 0 6 = true) (Nat.le_refl _) (Nat.le_refl _)
      refine ev_ialdv f_X12_parts (nx := 25) (w := (gi4 70 0)) rfl (hI.wf.s rfl) (by decide) (rfl : (0 : Int32).toNatClampNeg = 0) (by decide) rfl rfl ?_
      refine ev_if f_X12_parts (t1 := 62) (t2 := 28) rfl rfl rfl (fun h6 => ?_) (fun h6 => ?_)
      · have r7 : (gi4 70 0).toInt ≤ y4_4.toInt := Int32.le_iff_toInt_le.mp h6
        refine ev_loc f_X12_parts (nx := 63) rfl rfl rfl rfl ?_
        refine ev_loc f_X12_parts (nx := 64) rfl rfl rfl rfl ?_
        refine ev_inV2 f_X12_parts (nx := 67) (lo2 := [(0, .ref 69), (1, .int y4_3)]) rfl rfl rfl rfl f_X12_gives (hI.wf.s rfl) rfl rfl rfl rfl rfl ?_
        refine ev_loc f_X12_gives (nx := 1) rfl rfl rfl rfl ?_
        refine ev_ic f_X12_gives (nx := 2) (v := 0) rfl (by decide) rfl ?_
        refine ev_putIT f_X12_gives (nx := 5) rfl (hI.wf.s rfl) rfl rfl rfl (hI.put0 (hI.wf.s rfl) rfl rfl) (hX.upI rfl) (fun g8 e8 hI hX => ?_)
        refine ev_loc f_X12_gives (nx := 6) rfl rfl rfl rfl ?_
        refine ev_retK1 f_X12_gives rfl rfl rfl ?_
        exact ev_ret f_X12_parts rfl rfl rfl ⟨_, _, _, rfl, hI, hX, ⟨_, rfl, (t_lo y4_3), (t_hi y4_3)⟩⟩
      · have r9 : y4_4.toInt < (gi4 70 0).toInt := Int32.lt_iff_toInt_lt.mp (t_nle h6)
        have u10 : y4_4.toInt ≤ 5 := t_ltu (t_nle h6) u5 rfl
        have l11 : 1 ≤ (gi4 70 0).toInt := t_ltl (t_nle h6) l4_4 rfl
        refine ev_loc f_X12_parts (nx := 29) rfl rfl rfl rfl ?_
        refine ev_loc f_X12_parts (nx := 30) rfl rfl rfl rfl ?_
        refine ev_loc f_X12_parts (nx := 32) rfl rfl rfl rfl ?_
        refine ev_qL f_X12_parts (nx := 35) (r := [.int y4_3]) rfl rfl rfl rfl rfl rfl rfl (c_m_heardOf hI (y4_4) l4_4 u10) rfl hX rfl (fun w12 gi12 gl12 gr12 hI hX hC12 q12 => ?_)
        have q12 : 0 ≤ w12.toInt ∧ w12.toInt < 8589934592 := q12
        refine ev_loc f_X12_parts (nx := 36) rfl rfl rfl rfl ?_
        refine ev_ldL f_X12_parts (nx := 39) (v := -1) rfl (by decide) rfl ?_
        refine ev_anyL f_X12_parts (nx := 40) rfl rfl rfl rfl (fun z13 => ?_)
        refine ev_anyL f_X12_parts (nx := 41) rfl rfl rfl rfl (fun z14 => ?_)
        refine ev_lc f_X12_parts (nx := 42) (v := 0) rfl (by decide) rfl ?_
        refine ev_anyI f_X12_parts (nx := 43) rfl rfl rfl rfl (fun z15 => ?_)
        refine ev_if f_X12_parts (t1 := 46) (t2 := 53) rfl rfl rfl (fun h16 => ?_) (fun h16 => ?_)
        · have u17 : z15.toInt ≤ 0 := t_equ h16 (by decide : (0:Int32).toInt ≤ (0:Int))
          have l18 : 0 ≤ z15.toInt := t_eql h16 (by decide : (0:Int) ≤ (0:Int32).toInt)
          refine ev_ic f_X12_parts (nx := 47) (v := 1) rfl (by decide) rfl ?_
          refine ev_loc f_X12_parts (nx := 49) rfl rfl rfl rfl ?_
          refine ev_shl1 f_X12_parts (nx := 50) rfl l4_4 u10 (by decide) (by decide) rfl (fun z19 l19 u19 => ?_)
          refine ev_jmp f_X12_parts (nx := 54) rfl rfl rfl ?_
          refine ev_anyI f_X12_parts (nx := 55) rfl rfl rfl rfl (fun z20 => ?_)
          refine ev_loc f_X12_parts (nx := 56) (lo' := [(3, .int z20), (4, .int y4_4), (0, .ref 69), (1, .long ar1)]) rfl rfl rfl rfl ?_
          refine ev_incR f_X12_parts (nx := 59) (c := 1) (l := 1) (u := 6) rfl rfl (by decide) (by decide) l4_4 u10 rfl rfl (by decide) (by decide) rfl (fun z21 e21 l21 u21 => ?_)
          refine ev_jmp f_X12_parts (nx := 17) rfl rfl rfl ?_
          refine ev_sub (lo := [(4, .int z21), (3, .int z20), (0, .ref 69), (1, .long ar1)]) rfl (t_sc rfl (t_sc rfl (t_sc rfl (t_sc rfl t_sn)))) ?_
          exact ih4 _ (by omega) gi12 gl12 gr12 (z21) (z20) hI hX  (Int.le_trans (by decide : (0:Int) ≤ 1) l21) u21 rfl
        · have r22 : z15.toInt ≠ 0 := fun e => h16 (Int32.toInt_inj.mp (e.trans (by decide : (0:Int) = (0 : Int32).toInt)))
          refine ev_ic f_X12_parts (nx := 54) (v := 0) rfl (by decide) rfl ?_
          refine ev_anyI f_X12_parts (nx := 55) rfl rfl rfl rfl (fun z23 => ?_)
          refine ev_loc f_X12_parts (nx := 56) (lo' := [(3, .int z23), (4, .int y4_4), (0, .ref 69), (1, .long ar1)]) rfl rfl rfl rfl ?_
          refine ev_incR f_X12_parts (nx := 59) (c := 1) (l := 1) (u := 6) rfl rfl (by decide) (by decide) l4_4 u10 rfl rfl (by decide) (by decide) rfl (fun z24 e24 l24 u24 => ?_)
          refine ev_jmp f_X12_parts (nx := 17) rfl rfl rfl ?_
          refine ev_sub (lo := [(4, .int z24), (3, .int z23), (0, .ref 69), (1, .long ar1)]) rfl (t_sc rfl (t_sc rfl (t_sc rfl (t_sc rfl t_sn)))) ?_
          exact ih4 _ (by omega) gi12 gl12 gr12 (z24) (z23) hI hX  (Int.le_trans (by decide : (0:Int) ≤ 1) l24) u24 rfl
    refine ev_sub (lo := [(4, .int 0), (3, .int 0), (0, .ref 69), (1, .long ar1)]) rfl (t_sc rfl (t_sc rfl (t_sc rfl (t_sc rfl t_sn)))) ?_
    exact L4 _ gi gl gr (0) (0) hI hX  (by decide : (0:Int) ≤ (0:Int32).toInt) (Int.le_trans (by decide : (0:Int32).toInt ≤ (0:Int)) (by decide : (0:Int) ≤ 6)) rfl
  · have u25 : z1.toInt ≤ (-1) := t_ltu (t_nle h2) (by decide : (0:Int32).toInt ≤ (0:Int)) rfl
    refine ev_loc f_X12_parts (nx := 7) rfl rfl rfl rfl ?_
    refine ev_ic f_X12_parts (nx := 8) (v := 1) rfl (by decide) rfl ?_
    refine ev_inV2 f_X12_parts (nx := 11) (lo2 := [(0, .ref 69), (1, .int 1)]) rfl rfl rfl rfl f_X12_refuse (hI.wf.s rfl) rfl rfl rfl rfl rfl ?_
    refine ev_loc f_X12_refuse (nx := 1) rfl rfl rfl rfl ?_
    refine ev_loc f_X12_refuse (nx := 2) rfl rfl rfl rfl ?_
    refine ev_putIT f_X12_refuse (nx := 5) rfl (hI.wf.s rfl) rfl rfl rfl (hI.put0 (hI.wf.s rfl) rfl rfl) (hX.upI rfl) (fun g26 e26 hI hX => ?_)
    refine ev_ic f_X12_refuse (nx := 6) (v := -1) rfl (by decide) rfl ?_
    refine ev_retK1 f_X12_refuse rfl rfl rfl ?_
    exact ev_ret f_X12_parts rfl rfl rfl ⟨_, _, _, rfl, hI, hX, ⟨_, rfl, (Int.le_trans (by decide : ((-2147483648):Int) ≤ (-1)) (by decide : ((-1):Int) ≤ ((-1):Int32).toInt)), (Int.le_trans (by decide : ((-1):Int32).toInt ≤ ((-1):Int)) (by decide : ((-1):Int) ≤ 2147483647))⟩⟩
noncomputable def wl_m_clearBeats : List (Nat × Nat) := [(69, 2), (69, 29), (78, 9999), (79, 9999), (80, 9999)]
theorem c_m_clearBeats {X : x_Ext} {d : Nat} {sh : List (Nat ⊕ (Nat × Nat))} {gi : Nat → Nat → Int32} {gl : Nat → Nat → Int64} {gr : Nat → Nat → Value} (hI : t_I sh gi gr) (ar1 : Int32) (ar2 : Int32) : x_Me X (d + 5) n_X12_clearBeats [.ref 69, .int ar1, .int ar2] (sh, gi, gl, gr) (t_P wl_m_clearBeats sh gi gl gr (t_Ri (-1) 12)) := by
  have hX : t_X wl_m_clearBeats sh gi gl gr gi gl gr := t_X.rf
  refine me_i f_X12_clearBeats (hI.wf.s rfl) rfl rfl rfl ?_
  refine ev_loc f_X12_clearBeats (nx := 1) rfl rfl rfl rfl ?_
  refine ev_loc f_X12_clearBeats (nx := 2) rfl rfl rfl rfl ?_
  refine ev_inV2 f_X12_clearBeats (nx := 5) (lo2 := [(0, .ref 69), (1, .int ar1)]) rfl rfl rfl rfl f_X12_isPort (hI.wf.s rfl) rfl rfl rfl rfl rfl ?_
  refine ev_loc f_X12_isPort (nx := 1) rfl rfl rfl rfl ?_
  refine ev_if f_X12_isPort (t1 := 18) (t2 := 4) rfl rfl rfl (fun h1 => ?_) (fun h1 => ?_)
  · have u2 : ar1.toInt ≤ (-1) := t_ltu h1 (by decide : (0:Int32).toInt ≤ (0:Int)) rfl
    refine ev_ic f_X12_isPort (nx := 19) (v := 0) rfl (by decide) rfl ?_
    refine ev_retK1 f_X12_isPort rfl rfl rfl ?_
    refine ev_t f_X12_clearBeats (t1 := 16) (t2 := 8) rfl rfl rfl (by decide) ?_
    refine ev_loc f_X12_clearBeats (nx := 17) rfl rfl rfl rfl ?_
    refine ev_ic f_X12_clearBeats (nx := 18) (v := 1) rfl (by decide) rfl ?_
    refine ev_inV2 f_X12_clearBeats (nx := 21) (lo2 := [(0, .ref 69), (1, .int 1)]) rfl rfl rfl rfl f_X12_refuse (hI.wf.s rfl) rfl rfl rfl rfl rfl ?_
    refine ev_loc f_X12_refuse (nx := 1) rfl rfl rfl rfl ?_
    refine ev_loc f_X12_refuse (nx := 2) rfl rfl rfl rfl ?_
    refine ev_putIT f_X12_refuse (nx := 5) rfl (hI.wf.s rfl) rfl rfl rfl (hI.put0 (hI.wf.s rfl) rfl rfl) (hX.upI rfl) (fun g3 e3 hI hX => ?_)
    refine ev_ic f_X12_refuse (nx := 6) (v := -1) rfl (by decide) rfl ?_
    refine ev_retK1 f_X12_refuse rfl rfl rfl ?_
    exact ev_ret f_X12_clearBeats rfl rfl rfl ⟨_, _, _, rfl, hI, hX, ⟨_, rfl, (by decide : ((-1):Int) ≤ ((-1):Int32).toInt), (Int.le_trans (by decide : ((-1):Int32).toInt ≤ ((-1):Int)) (by decide : ((-1):Int) ≤ 12))⟩⟩
  · have l4 : 0 ≤ ar1.toInt := t_lel (t_nlt h1) (by decide : (0:Int) ≤ (0:Int32).toInt)
    refine ev_loc f_X12_isPort (nx := 5) rfl rfl rfl rfl ?_
    refine ev_loc f_X12_isPort (nx := 6) rfl rfl rfl rfl ?_
    refine ev_getR f_X12_isPort (nx := 9) rfl (hI.wf.s rfl) rfl rfl (hI.wf.r rfl) rfl rfl ?_
    refine ev_ic f_X12_isPort (nx := 10) (v := 0) rfl (by decide) rfl ?_
    obtain ⟨l5, u5⟩ := hI.ab (by decide +kernel : t_abr 70 0 0 0 6 = true) (Nat.le_refl _) (Nat.le_refl _)
    refine ev_ialdv f_X12_isPort (nx := 11) (w := (gi 70 0)) rfl (hI.wf.s rfl) (by decide) (rfl : (0 : Int32).toNatClampNeg = 0) (by decide) rfl rfl ?_
    refine ev_if f_X12_isPort (t1 := 18) (t2 := 14) rfl rfl rfl (fun h6 => ?_) (fun h6 => ?_)
    · have r7 : (gi 70 0).toInt ≤ ar1.toInt := Int32.le_iff_toInt_le.mp h6
      refine ev_ic f_X12_isPort (nx := 19) (v := 0) rfl (by decide) rfl ?_
      refine ev_retK1 f_X12_isPort rfl rfl rfl ?_
      refine ev_t f_X12_clearBeats (t1 := 16) (t2 := 8) rfl rfl rfl (by decide) ?_
      refine ev_loc f_X12_clearBeats (nx := 17) rfl rfl rfl rfl ?_
      refine ev_ic f_X12_clearBeats (nx := 18) (v := 1) rfl (by decide) rfl ?_
      refine ev_inV2 f_X12_clearBeats (nx := 21) (lo2 := [(0, .ref 69), (1, .int 1)]) rfl rfl rfl rfl f_X12_refuse (hI.wf.s rfl) rfl rfl rfl rfl rfl ?_
      refine ev_loc f_X12_refuse (nx := 1) rfl rfl rfl rfl ?_
      refine ev_loc f_X12_refuse (nx := 2) rfl rfl rfl rfl ?_
      refine ev_putIT f_X12_refuse (nx := 5) rfl (hI.wf.s rfl) rfl rfl rfl (hI.put0 (hI.wf.s rfl) rfl rfl) (hX.upI rfl) (fun g8 e8 hI hX => ?_)
      refine ev_ic f_X12_refuse (nx := 6) (v := -1) rfl (by decide) rfl ?_
      refine ev_retK1 f_X12_refuse rfl rfl rfl ?_
      exact ev_ret f_X12_clearBeats rfl rfl rfl ⟨_, _, _, rfl, hI, hX, ⟨_, rfl, (by decide : ((-1):Int) ≤ ((-1):Int32).toInt), (Int.le_trans (by decide : ((-1):Int32).toInt ≤ ((-1):Int)) (by decide : ((-1):Int) ≤ 12))⟩⟩
    · have r9 : ar1.toInt < (gi 70 0).toInt := Int32.lt_iff_toInt_lt.mp (t_nle h6)
      have u10 : ar1.toInt ≤ 5 := t_ltu (t_nle h6) u5 rfl
      have l11 : 1 ≤ (gi 70 0).toInt := t_ltl (t_nle h6) l4 rfl
      refine ev_ic f_X12_isPort (nx := 15) (v := 1) rfl (by decide) rfl ?_
      refine ev_jmp f_X12_isPort (nx := 19) rfl rfl rfl ?_
      refine ev_retK1 f_X12_isPort rfl rfl rfl ?_
      refine ev_f f_X12_clearBeats (t1 := 16) (t2 := 8) rfl rfl rfl (by decide) ?_
      refine ev_loc f_X12_clearBeats (nx := 9) rfl rfl rfl rfl ?_
      refine ev_loc f_X12_clearBeats (nx := 10) rfl rfl rfl rfl ?_
      refine ev_inV2 f_X12_clearBeats (nx := 13) (lo2 := [(0, .ref 69), (1, .int ar2)]) rfl rfl rfl rfl f_X12_isPort (hI.wf.s rfl) rfl rfl rfl rfl rfl ?_
      refine ev_loc f_X12_isPort (nx := 1) rfl rfl rfl rfl ?_
      refine ev_if f_X12_isPort (t1 := 18) (t2 := 4) rfl rfl rfl (fun h12 => ?_) (fun h12 => ?_)
      · have u13 : ar2.toInt ≤ (-1) := t_ltu h12 (by decide : (0:Int32).toInt ≤ (0:Int)) rfl
        refine ev_ic f_X12_isPort (nx := 19) (v := 0) rfl (by decide) rfl ?_
        refine ev_retK1 f_X12_isPort rfl rfl rfl ?_
        refine ev_t f_X12_clearBeats (t1 := 16) (t2 := 22) rfl rfl rfl (by decide) ?_
        refine ev_loc f_X12_clearBeats (nx := 17) rfl rfl rfl rfl ?_
        refine ev_ic f_X12_clearBeats (nx := 18) (v := 1) rfl (by decide) rfl ?_
        refine ev_inV2 f_X12_clearBeats (nx := 21) (lo2 := [(0, .ref 69), (1, .int 1)]) rfl rfl rfl rfl f_X12_refuse (hI.wf.s rfl) rfl rfl rfl rfl rfl ?_
        refine ev_loc f_X12_refuse (nx := 1) rfl rfl rfl rfl ?_
        refine ev_loc f_X12_refuse (nx := 2) rfl rfl rfl rfl ?_
        refine ev_putIT f_X12_refuse (nx := 5) rfl (hI.wf.s rfl) rfl rfl rfl (hI.put0 (hI.wf.s rfl) rfl rfl) (hX.upI rfl) (fun g14 e14 hI hX => ?_)
        refine ev_ic f_X12_refuse (nx := 6) (v := -1) rfl (by decide) rfl ?_
        refine ev_retK1 f_X12_refuse rfl rfl rfl ?_
        exact ev_ret f_X12_clearBeats rfl rfl rfl ⟨_, _, _, rfl, hI, hX, ⟨_, rfl, (by decide : ((-1):Int) ≤ ((-1):Int32).toInt), (Int.le_trans (by decide : ((-1):Int32).toInt ≤ ((-1):Int)) (by decide : ((-1):Int) ≤ 12))⟩⟩
      · have l15 : 0 ≤ ar2.toInt := t_lel (t_nlt h12) (by decide : (0:Int) ≤ (0:Int32).toInt)
        refine ev_loc f_X12_isPort (nx := 5) rfl rfl rfl rfl ?_
        refine ev_loc f_X12_isPort (nx := 6) rfl rfl rfl rfl ?_
        refine ev_getR f_X12_isPort (nx := 9) rfl (hI.wf.s rfl) rfl rfl (hI.wf.r rfl) rfl rfl ?_
        refine ev_ic f_X12_isPort (nx := 10) (v := 0) rfl (by decide) rfl ?_
        refine ev_ialdv f_X12_isPort (nx := 11) (w := (gi 70 0)) rfl (hI.wf.s rfl) (by decide) (rfl : (0 : Int32).toNatClampNeg = 0) (by decide) rfl rfl ?_
        refine ev_if f_X12_isPort (t1 := 18) (t2 := 14) rfl rfl rfl (fun h17 => ?_) (fun h17 => ?_)
        · have r18 : (gi 70 0).toInt ≤ ar2.toInt := Int32.le_iff_toInt_le.mp h17
          have l19 : 1 ≤ ar2.toInt := t_lel h17 l11
          refine ev_ic f_X12_isPort (nx := 19) (v := 0) rfl (by decide) rfl ?_
          refine ev_retK1 f_X12_isPort rfl rfl rfl ?_
          refine ev_t f_X12_clearBeats (t1 := 16) (t2 := 22) rfl rfl rfl (by decide) ?_
          refine ev_loc f_X12_clearBeats (nx := 17) rfl rfl rfl rfl ?_
          refine ev_ic f_X12_clearBeats (nx := 18) (v := 1) rfl (by decide) rfl ?_
          refine ev_inV2 f_X12_clearBeats (nx := 21) (lo2 := [(0, .ref 69), (1, .int 1)]) rfl rfl rfl rfl f_X12_refuse (hI.wf.s rfl) rfl rfl rfl rfl rfl ?_
          refine ev_loc f_X12_refuse (nx := 1) rfl rfl rfl rfl ?_
          refine ev_loc f_X12_refuse (nx := 2) rfl rfl rfl rfl ?_
          refine ev_putIT f_X12_refuse (nx := 5) rfl (hI.wf.s rfl) rfl rfl rfl (hI.put0 (hI.wf.s rfl) rfl rfl) (hX.upI rfl) (fun g20 e20 hI hX => ?_)
          refine ev_ic f_X12_refuse (nx := 6) (v := -1) rfl (by decide) rfl ?_
          refine ev_retK1 f_X12_refuse rfl rfl rfl ?_
          exact ev_ret f_X12_clearBeats rfl rfl rfl ⟨_, _, _, rfl, hI, hX, ⟨_, rfl, (by decide : ((-1):Int) ≤ ((-1):Int32).toInt), (Int.le_trans (by decide : ((-1):Int32).toInt ≤ ((-1):Int)) (by decide : ((-1):Int) ≤ 12))⟩⟩
        · have r21 : ar2.toInt < (gi 70 0).toInt := Int32.lt_iff_toInt_lt.mp (t_nle h17)
          have u22 : ar2.toInt ≤ 5 := t_ltu (t_nle h17) u5 rfl
          refine ev_ic f_X12_isPort (nx := 15) (v := 1) rfl (by decide) rfl ?_
          refine ev_jmp f_X12_isPort (nx := 19) rfl rfl rfl ?_
          refine ev_retK1 f_X12_isPort rfl rfl rfl ?_
          refine ev_f f_X12_clearBeats (t1 := 16) (t2 := 22) rfl rfl rfl (by decide) ?_
          refine ev_ic f_X12_clearBeats (nx := 23) (v := 0) rfl (by decide) rfl ?_
          refine ev_loc f_X12_clearBeats (nx := 24) (lo' := [(3, .int 0), (0, .ref 69), (1, .int ar1), (2, .int ar2)]) rfl rfl rfl rfl ?_
          have L23 : ∀ (m23 : Nat) (gi23 : Nat → Nat → Int32) (gl23 : Nat → Nat → Int64) (gr23 : Nat → Nat → Value) (y23_3 : Int32), t_I sh gi23 gr23 → t_X wl_m_clearBeats sh gi gl gr gi23 gl23 gr23 → 0 ≤ y23_3.toInt → y23_3.toInt ≤ 13 → gi23 70 0 = (gi 70 0) → (13 - y23_3.toInt).toNat = m23 → x_Ev X (d + 5) n_X12_clearBeats 24 [(3, .int y23_3), (0, .ref 69), (1, .int ar1), (2, .int ar2)] [] (sh, gi23, gl23, gr23) (t_P wl_m_clearBeats sh gi gl gr (t_Ri (-1) 12)) := by
            intro m23
            induction m23 using Nat.strongRecOn with
            | _ m23 ih23 =>
            intro gi23 gl23 gr23 y23_3 hI hX l23_3 u23_3 c23_0 hm23
            refine ev_loc f_X12_clearBeats (nx := 25) rfl rfl rfl rfl ?_
            refine ev_bp f_X12_clearBeats (nx := 27) (v := 12) rfl (by decide) rfl ?_
            refine ev_if f_X12_clearBeats (t1 := 67) (t2 := 30) rfl rfl rfl (fun h24 => ?_) (fun h24 => ?_)
            · have l25 : 13 ≤ y23_3.toInt := t_ltl h24 (by decide : (12:Int) ≤ (12:Int32).toInt) rfl
              refine ev_loc f_X12_clearBeats (nx := 68) rfl rfl rfl rfl ?_
              refine ev_bp f_X12_clearBeats (nx := 70) (v := 6) rfl (by decide) rfl ?_
              refine ev_inV2 f_X12_clearBeats (nx := 73) (lo2 := [(0, .ref 69), (1, .int 6)]) rfl rfl rfl rfl f_X12_refuse (hI.wf.s rfl) rfl rfl rfl rfl rfl ?_
              refine ev_loc f_X12_refuse (nx := 1) rfl rfl rfl rfl ?_
              refine ev_loc f_X12_refuse (nx := 2) rfl rfl rfl rfl ?_
              refine ev_putIT f_X12_refuse (nx := 5) rfl (hI.wf.s rfl) rfl rfl rfl (hI.put0 (hI.wf.s rfl) rfl rfl) (hX.upI rfl) (fun g26 e26 hI hX => ?_)
              refine ev_ic f_X12_refuse (nx := 6) (v := -1) rfl (by decide) rfl ?_
              refine ev_retK1 f_X12_refuse rfl rfl rfl ?_
              exact ev_ret f_X12_clearBeats rfl rfl rfl ⟨_, _, _, rfl, hI, hX, ⟨_, rfl, (by decide : ((-1):Int) ≤ ((-1):Int32).toInt), (Int.le_trans (by decide : ((-1):Int32).toInt ≤ ((-1):Int)) (by decide : ((-1):Int) ≤ 12))⟩⟩
            · have u27 : y23_3.toInt ≤ 12 := t_leu (t_nlt h24) (by decide : (12:Int32).toInt ≤ (12:Int))
              refine ev_loc f_X12_clearBeats (nx := 31) rfl rfl rfl rfl ?_
              refine ev_loc f_X12_clearBeats (nx := 32) rfl rfl rfl rfl ?_
              refine ev_loc f_X12_clearBeats (nx := 33) rfl rfl rfl rfl ?_
              refine ev_qL f_X12_clearBeats (nx := 36) (r := [.ref 69]) rfl rfl rfl rfl rfl rfl rfl (c_m_heardOf hI (ar1) l4 u10) rfl hX rfl (fun w28 gi28 gl28 gr28 hI hX hC28 q28 => ?_)
              have q28 : 0 ≤ w28.toInt ∧ w28.toInt < 8589934592 := q28
              refine ev_loc f_X12_clearBeats (nx := 37) rfl rfl rfl rfl ?_
              refine ev_loc f_X12_clearBeats (nx := 38) rfl rfl rfl rfl ?_
              refine ev_qL f_X12_clearBeats (nx := 41) (r := [.long w28, .ref 69]) rfl rfl rfl rfl rfl rfl rfl (c_m_heardOf hI (ar2) l15 u22) rfl hX rfl (fun w29 gi29 gl29 gr29 hI hX hC29 q29 => ?_)
              have q29 : 0 ≤ w29.toInt ∧ w29.toInt < 8589934592 := q29
              refine ev_loc f_X12_clearBeats (nx := 42) rfl rfl rfl rfl ?_
              refine ev_anyL f_X12_clearBeats (nx := 43) rfl rfl rfl rfl (fun z30 => ?_)
              refine ev_anyL f_X12_clearBeats (nx := 44) rfl rfl rfl rfl (fun z31 => ?_)
              refine ev_qN f_X12_clearBeats (nx := 47) (r := []) rfl rfl rfl rfl rfl rfl rfl (c_m_findsReadings hI (z31)) rfl hX rfl (fun gi32 gl32 gr32 hI hX hC32 q32 => ?_)
              have q32 : (gi32 69 29).toInt ≤ 474 := q32
              refine ev_loc f_X12_clearBeats (nx := 48) rfl rfl rfl rfl ?_
              refine ev_getI f_X12_clearBeats (nx := 51) rfl (hI.wf.s rfl) rfl rfl rfl ?_
              obtain ⟨l33, u33⟩ := hI.b (hI.wf.s (k := 69) rfl) (t_bdK rfl : t_bd 11 29 = some (0, 500))
              refine ev_ic f_X12_clearBeats (nx := 52) (v := 1) rfl (by decide) rfl ?_
              refine ev_if f_X12_clearBeats (t1 := 55) (t2 := 61) rfl rfl rfl (fun h34 => ?_) (fun h34 => ?_)
              · have u35 : (gi32 69 29).toInt ≤ 1 := t_equ h34 (by decide : (1:Int32).toInt ≤ (1:Int))
                have l36 : 1 ≤ (gi32 69 29).toInt := t_eql h34 (by decide : (1:Int) ≤ (1:Int32).toInt)
                refine ev_loc f_X12_clearBeats (nx := 56) rfl rfl rfl rfl ?_
                refine ev_loc f_X12_clearBeats (nx := 57) rfl rfl rfl rfl ?_
                refine ev_inV2 f_X12_clearBeats (nx := 60) (lo2 := [(0, .ref 69), (1, .int y23_3)]) rfl rfl rfl rfl f_X12_gives (hI.wf.s rfl) rfl rfl rfl rfl rfl ?_
                refine ev_loc f_X12_gives (nx := 1) rfl rfl rfl rfl ?_
                refine ev_ic f_X12_gives (nx := 2) (v := 0) rfl (by decide) rfl ?_
                refine ev_putIT f_X12_gives (nx := 5) rfl (hI.wf.s rfl) rfl rfl rfl (hI.put0 (hI.wf.s rfl) rfl rfl) (hX.upI rfl) (fun g37 e37 hI hX => ?_)
                refine ev_loc f_X12_gives (nx := 6) rfl rfl rfl rfl ?_
                refine ev_retK1 f_X12_gives rfl rfl rfl ?_
                exact ev_ret f_X12_clearBeats rfl rfl rfl ⟨_, _, _, rfl, hI, hX, ⟨_, rfl, (Int.le_trans (by decide : ((-1):Int) ≤ 0) l23_3), u27⟩⟩
              · have r38 : (gi32 69 29).toInt ≠ 1 := fun e => h34 (Int32.toInt_inj.mp (e.trans (by decide : (1:Int) = (1 : Int32).toInt)))
                refine ev_incR f_X12_clearBeats (nx := 64) (c := 1) (l := 1) (u := 13) rfl rfl (by decide) (by decide) l23_3 u27 rfl rfl (by decide) (by decide) rfl (fun z39 e39 l39 u39 => ?_)
                refine ev_jmp f_X12_clearBeats (nx := 24) rfl rfl rfl ?_
                refine ev_sub (lo := [(3, .int z39), (0, .ref 69), (1, .int ar1), (2, .int ar2)]) rfl (t_sc rfl (t_sc rfl (t_sc rfl (t_sc rfl t_sn)))) ?_
                exact ih23 _ (by omega) gi32 gl32 gr32 (z39) hI hX  (Int.le_trans (by decide : (0:Int) ≤ 1) l39) u39 ((hC32.1 70 0 rfl).1.trans ((hC29.1 70 0 rfl).1.trans ((hC28.1 70 0 rfl).1.trans c23_0))) rfl
          refine ev_sub (lo := [(3, .int 0), (0, .ref 69), (1, .int ar1), (2, .int ar2)]) rfl (t_sc rfl (t_sc rfl (t_sc rfl (t_sc rfl t_sn)))) ?_
          exact L23 _ gi gl gr (0) hI hX  (by decide : (0:Int) ≤ (0:Int32).toInt) (Int.le_trans (by decide : (0:Int32).toInt ≤ (0:Int)) (by decide : (0:Int) ≤ 13)) rfl rfl
noncomputable def wl_m_clearEcho : List (Nat × Nat) := [(69, 2)]
theorem c_m_clearEcho {X : x_Ext} {d : Nat} {sh : List (Nat ⊕ (Nat × Nat))} {gi : Nat → Nat → Int32} {gl : Nat → Nat → Int64} {gr : Nat → Nat → Value} (hI : t_I sh gi gr) : x_Me X (d + 4) n_X12_clearEcho [.ref 69] (sh, gi, gl, gr) (t_P wl_m_clearEcho sh gi gl gr (t_Ri (-1) 9)) := by
  have hX : t_X wl_m_clearEcho sh gi gl gr gi gl gr := t_X.rf
  refine me_i f_X12_clearEcho (hI.wf.s rfl) rfl rfl rfl ?_
  refine ev_ic f_X12_clearEcho (nx := 1) (v := 0) rfl (by decide) rfl ?_
  refine ev_loc f_X12_clearEcho (nx := 2) (lo' := [(1, .int 0), (0, .ref 69)]) rfl rfl rfl rfl ?_
  have L1 : ∀ (m1 : Nat) (gi1 : Nat → Nat → Int32) (gl1 : Nat → Nat → Int64) (gr1 : Nat → Nat → Value) (y1_1 : Int32), t_I sh gi1 gr1 → t_X wl_m_clearEcho sh gi gl gr gi1 gl1 gr1 → 0 ≤ y1_1.toInt → y1_1.toInt ≤ 12 → (12 - y1_1.toInt).toNat = m1 → x_Ev X (d + 4) n_X12_clearEcho 2 [(1, .int y1_1), (0, .ref 69)] [] (sh, gi1, gl1, gr1) (t_P wl_m_clearEcho sh gi gl gr (t_Ri (-1) 9)) := by
    intro m1
    induction m1 using Nat.strongRecOn with
    | _ m1 ih1 =>
    intro gi1 gl1 gr1 y1_1 hI hX l1_1 u1_1 hm1
    refine ev_loc f_X12_clearEcho (nx := 3) rfl rfl rfl rfl ?_
    refine ev_bp f_X12_clearEcho (nx := 5) (v := 10) rfl (by decide) rfl ?_
    refine ev_if f_X12_clearEcho (t1 := 28) (t2 := 8) rfl rfl rfl (fun h2 => ?_) (fun h2 => ?_)
    · have l3 : 10 ≤ y1_1.toInt := t_lel h2 (by decide : (10:Int) ≤ (10:Int32).toInt)
      refine ev_loc f_X12_clearEcho (nx := 29) rfl rfl rfl rfl ?_
      refine ev_bp f_X12_clearEcho (nx := 31) (v := 6) rfl (by decide) rfl ?_
      refine ev_inV2 f_X12_clearEcho (nx := 34) (lo2 := [(0, .ref 69), (1, .int 6)]) rfl rfl rfl rfl f_X12_refuse (hI.wf.s rfl) rfl rfl rfl rfl rfl ?_
      refine ev_loc f_X12_refuse (nx := 1) rfl rfl rfl rfl ?_
      refine ev_loc f_X12_refuse (nx := 2) rfl rfl rfl rfl ?_
      refine ev_putIT f_X12_refuse (nx := 5) rfl (hI.wf.s rfl) rfl rfl rfl (hI.put0 (hI.wf.s rfl) rfl rfl) (hX.upI rfl) (fun g4 e4 hI hX => ?_)
      refine ev_ic f_X12_refuse (nx := 6) (v := -1) rfl (by decide) rfl ?_
      refine ev_retK1 f_X12_refuse rfl rfl rfl ?_
      exact ev_ret f_X12_clearEcho rfl rfl rfl ⟨_, _, _, rfl, hI, hX, ⟨_, rfl, (by decide : ((-1):Int) ≤ ((-1):Int32).toInt), (Int.le_trans (by decide : ((-1):Int32).toInt ≤ ((-1):Int)) (by decide : ((-1):Int) ≤ 9))⟩⟩
    · have u5 : y1_1.toInt ≤ 9 := t_ltu (t_nle h2) (by decide : (10:Int32).toInt ≤ (10:Int)) rfl
      refine ev_loc f_X12_clearEcho (nx := 9) rfl rfl rfl rfl ?_
      refine ev_loc f_X12_clearEcho (nx := 10) rfl rfl rfl rfl ?_
      refine ev_cI f_X12_clearEcho (nx := 13) (r := []) rfl rfl rfl rfl rfl rfl rfl (c_m_alikeBy hI (y1_1) l1_1 u5) rfl hX rfl (fun w6 gi6 gl6 gr6 l6 u6 hI hX hC6 => ?_)
      refine ev_if f_X12_clearEcho (t1 := 16) (t2 := 22) rfl rfl rfl (fun h7 => ?_) (fun h7 => ?_)
      · have u8 : w6.toInt ≤ 0 := t_equ h7 (by decide : (0:Int32).toInt ≤ (0:Int))
        have l9 : 0 ≤ w6.toInt := t_eql h7 (by decide : (0:Int) ≤ (0:Int32).toInt)
        refine ev_loc f_X12_clearEcho (nx := 17) rfl rfl rfl rfl ?_
        refine ev_loc f_X12_clearEcho (nx := 18) rfl rfl rfl rfl ?_
        refine ev_inV2 f_X12_clearEcho (nx := 21) (lo2 := [(0, .ref 69), (1, .int y1_1)]) rfl rfl rfl rfl f_X12_gives (hI.wf.s rfl) rfl rfl rfl rfl rfl ?_
        refine ev_loc f_X12_gives (nx := 1) rfl rfl rfl rfl ?_
        refine ev_ic f_X12_gives (nx := 2) (v := 0) rfl (by decide) rfl ?_
        refine ev_putIT f_X12_gives (nx := 5) rfl (hI.wf.s rfl) rfl rfl rfl (hI.put0 (hI.wf.s rfl) rfl rfl) (hX.upI rfl) (fun g10 e10 hI hX => ?_)
        refine ev_loc f_X12_gives (nx := 6) rfl rfl rfl rfl ?_
        refine ev_retK1 f_X12_gives rfl rfl rfl ?_
        exact ev_ret f_X12_clearEcho rfl rfl rfl ⟨_, _, _, rfl, hI, hX, ⟨_, rfl, (Int.le_trans (by decide : ((-1):Int) ≤ 0) l1_1), u5⟩⟩
      · have r11 : w6.toInt ≠ 0 := fun e => h7 (Int32.toInt_inj.mp (e.trans (by decide : (0:Int) = (0 : Int32).toInt)))
        refine ev_incR f_X12_clearEcho (nx := 25) (c := 1) (l := 1) (u := 10) rfl rfl (by decide) (by decide) l1_1 u5 rfl rfl (by decide) (by decide) rfl (fun z12 e12 l12 u12 => ?_)
        refine ev_jmp f_X12_clearEcho (nx := 2) rfl rfl rfl ?_
        refine ev_sub (lo := [(1, .int z12), (0, .ref 69)]) rfl (t_sc rfl (t_sc rfl t_sn)) ?_
        exact ih1 _ (by omega) gi6 gl6 gr6 (z12) hI hX  (Int.le_trans (by decide : (0:Int) ≤ 1) l12) (Int.le_trans u12 (by decide : (10:Int) ≤ 12)) rfl
  refine ev_sub (lo := [(1, .int 0), (0, .ref 69)]) rfl (t_sc rfl (t_sc rfl t_sn)) ?_
  exact L1 _ gi gl gr (0) hI hX  (by decide : (0:Int) ≤ (0:Int32).toInt) (Int.le_trans (by decide : (0:Int32).toInt ≤ (0:Int)) (by decide : (0:Int) ≤ 12)) rfl
noncomputable def wl_m_silent : List (Nat × Nat) := [(69, 2)]
theorem c_m_silent {X : x_Ext} {d : Nat} {sh : List (Nat ⊕ (Nat × Nat))} {gi : Nat → Nat → Int32} {gl : Nat → Nat → Int64} {gr : Nat → Nat → Value} (hI : t_I sh gi gr) : x_Me X (d + 4) n_X12_silent [.ref 69] (sh, gi, gl, gr) (t_P wl_m_silent sh gi gl gr (t_Ri 0 33)) := by
  have hX : t_X wl_m_silent sh gi gl gr gi gl gr := t_X.rf
  refine me_i f_X12_silent (hI.wf.s rfl) rfl rfl rfl ?_
  refine ev_lc f_X12_silent (nx := 1) (v := 0) rfl (by decide) rfl ?_
  refine ev_loc f_X12_silent (nx := 2) (lo' := [(1, .long 0), (0, .ref 69)]) rfl rfl rfl rfl ?_
  refine ev_ic f_X12_silent (nx := 3) (v := 0) rfl (by decide) rfl ?_
  refine ev_loc f_X12_silent (nx := 4) (lo' := [(3, .int 0), (1, .long 0), (0, .ref 69)]) rfl rfl rfl rfl ?_
  have L1 : ∀ (m1 : Nat) (gi1 : Nat → Nat → Int32) (gl1 : Nat → Nat → Int64) (gr1 : Nat → Nat → Value) (y1_3 : Int32) (y1_1 : Int64), t_I sh gi1 gr1 → t_X wl_m_silent sh gi gl gr gi1 gl1 gr1 → 0 ≤ y1_3.toInt → y1_3.toInt ≤ 6 → 0 ≤ y1_1.toInt ∧ y1_1.toInt < 8589934592 → (6 - y1_3.toInt).toNat = m1 → x_Ev X (d + 4) n_X12_silent 4 [(3, .int y1_3), (1, .long y1_1), (0, .ref 69)] [] (sh, gi1, gl1, gr1) (t_P wl_m_silent sh gi gl gr (t_Ri 0 33)) := by
    intro m1
    induction m1 using Nat.strongRecOn with
    | _ m1 ih1 =>
    intro gi1 gl1 gr1 y1_3 y1_1 hI hX l1_3 u1_3 j1_0 hm1
    refine ev_loc f_X12_silent (nx := 5) rfl rfl rfl rfl ?_
    refine ev_loc f_X12_silent (nx := 6) rfl rfl rfl rfl ?_
    refine ev_getR f_X12_silent (nx := 9) rfl (hI.wf.s rfl) rfl rfl (hI.wf.r rfl) rfl rfl ?_
    refine ev_ic f_X12_silent (nx := 10) (v := 0) rfl (by decide) rfl ?_
    obtain ⟨l2, u2⟩ := hI.ab (by decide +kernel : t_abr 70 0 0 0 6 = true) (Nat.le_refl _) (Nat.le_refl _)
    refine ev_ialdv f_X12_silent (nx := 11) (w := (gi1 70 0)) rfl (hI.wf.s rfl) (by decide) (rfl : (0 : Int32).toNatClampNeg = 0) (by decide) rfl rfl ?_
    refine ev_if f_X12_silent (t1 := 28) (t2 := 14) rfl rfl rfl (fun h3 => ?_) (fun h3 => ?_)
    · have r4 : (gi1 70 0).toInt ≤ y1_3.toInt := Int32.le_iff_toInt_le.mp h3
      refine ev_ic f_X12_silent (nx := 29) (v := 0) rfl (by decide) rfl ?_
      refine ev_loc f_X12_silent (nx := 30) (lo' := [(3, .int 0), (1, .long y1_1), (0, .ref 69)]) rfl rfl rfl rfl ?_
      have L5 : ∀ (m5 : Nat) (gi5 : Nat → Nat → Int32) (gl5 : Nat → Nat → Int64) (gr5 : Nat → Nat → Value) (y5_3 : Int32), t_I sh gi5 gr5 → t_X wl_m_silent sh gi gl gr gi5 gl5 gr5 → 0 ≤ y5_3.toInt → y5_3.toInt ≤ 33 → gi5 70 0 = (gi1 70 0) → 0 ≤ y1_1.toInt ∧ y1_1.toInt < 8589934592 → (34 - y5_3.toInt).toNat = m5 → x_Ev X (d + 4) n_X12_silent 30 [(3, .int y5_3), (1, .long y1_1), (0, .ref 69)] [] (sh, gi5, gl5, gr5) (t_P wl_m_silent sh gi gl gr (t_Ri 0 33)) := by
        intro m5
        induction m5 using Nat.strongRecOn with
        | _ m5 ih5 =>
        intro gi5 gl5 gr5 y5_3 hI hX l5_3 u5_3 c5_0 j5_0 hm5
        refine ev_loc f_X12_silent (nx := 31) rfl rfl rfl rfl ?_
        refine ev_loc f_X12_silent (nx := 32) rfl rfl rfl rfl ?_
        refine ev_anyLE f_X12_silent (nx := 33) rfl rfl rfl rfl (fun z6 e6 => ?_)
        refine ev_lc f_X12_silent (nx := 34) (v := 1) rfl (by decide) rfl ?_
        refine ev_anyLE f_X12_silent (nx := 35) rfl rfl rfl rfl (fun z7 e7 => ?_)
        refine ev_lc f_X12_silent (nx := 36) (v := 1) rfl (by decide) rfl ?_
        refine ev_anyIE f_X12_silent (nx := 37) rfl rfl rfl rfl (fun z8 e8 => ?_)
        refine ev_if f_X12_silent (t1 := 40) (t2 := 46) rfl rfl rfl (fun h9 => ?_) (fun h9 => ?_)
        · have u10 : z8.toInt ≤ 0 := t_equ h9 (by decide : (0:Int32).toInt ≤ (0:Int))
          have l11 : 0 ≤ z8.toInt := t_eql h9 (by decide : (0:Int) ≤ (0:Int32).toInt)
          refine ev_incR f_X12_silent (nx := 43) (c := 1) (l := 1) (u := 34) rfl rfl (by decide) (by decide) l5_3 u5_3 rfl rfl (by decide) (by decide) rfl (fun z12 e12 l12 u12 => ?_)
          refine ev_jmp f_X12_silent (nx := 30) rfl rfl rfl ?_
          have hs13 : y5_3.toInt ≤ 32 := t_sil e6 e7 e8 h9 (by omega) (by omega)
          refine ev_sub (lo := [(3, .int z12), (1, .long y1_1), (0, .ref 69)]) rfl (t_sc rfl (t_sc rfl (t_sc rfl t_sn))) ?_
          exact ih5 _ (by omega) gi5 gl5 gr5 (z12) hI hX  (Int.le_trans (by decide : (0:Int) ≤ 1) l12) (by omega : z12.toInt ≤ (33:Int)) c5_0 (by omega) rfl
        · have r14 : z8.toInt ≠ 0 := fun e => h9 (Int32.toInt_inj.mp (e.trans (by decide : (0:Int) = (0 : Int32).toInt)))
          refine ev_loc f_X12_silent (nx := 47) rfl rfl rfl rfl ?_
          refine ev_loc f_X12_silent (nx := 48) rfl rfl rfl rfl ?_
          refine ev_inV2 f_X12_silent (nx := 51) (lo2 := [(0, .ref 69), (1, .int y5_3)]) rfl rfl rfl rfl f_X12_gives (hI.wf.s rfl) rfl rfl rfl rfl rfl ?_
          refine ev_loc f_X12_gives (nx := 1) rfl rfl rfl rfl ?_
          refine ev_ic f_X12_gives (nx := 2) (v := 0) rfl (by decide) rfl ?_
          refine ev_putIT f_X12_gives (nx := 5) rfl (hI.wf.s rfl) rfl rfl rfl (hI.put0 (hI.wf.s rfl) rfl rfl) (hX.upI rfl) (fun g15 e15 hI hX => ?_)
          refine ev_loc f_X12_gives (nx := 6) rfl rfl rfl rfl ?_
          refine ev_retK1 f_X12_gives rfl rfl rfl ?_
          exact ev_ret f_X12_silent rfl rfl rfl ⟨_, _, _, rfl, hI, hX, ⟨_, rfl, l5_3, u5_3⟩⟩
      refine ev_sub (lo := [(3, .int 0), (1, .long y1_1), (0, .ref 69)]) rfl (t_sc rfl (t_sc rfl (t_sc rfl t_sn))) ?_
      exact L5 _ gi1 gl1 gr1 (0) hI hX  (by decide : (0:Int) ≤ (0:Int32).toInt) (Int.le_trans (by decide : (0:Int32).toInt ≤ (0:Int)) (by decide : (0:Int) ≤ 33)) rfl (by omega) rfl
    · have r16 : y1_3.toInt < (gi1 70 0).toInt := Int32.lt_iff_toInt_lt.mp (t_nle h3)
      have u17 : y1_3.toInt ≤ 5 := t_ltu (t_nle h3) u2 rfl
      have l18 : 1 ≤ (gi1 70 0).toInt := t_ltl (t_nle h3) l1_3 rfl
      refine ev_loc f_X12_silent (nx := 15) rfl rfl rfl rfl ?_
      refine ev_loc f_X12_silent (nx := 16) rfl rfl rfl rfl ?_
      refine ev_loc f_X12_silent (nx := 17) rfl rfl rfl rfl ?_
      refine ev_qL f_X12_silent (nx := 20) (r := [.long y1_1]) rfl rfl rfl rfl rfl rfl rfl (c_m_heardOf hI (y1_3) l1_3 u17) rfl hX rfl (fun w19 gi19 gl19 gr19 hI hX hC19 q19 => ?_)
      have q19 : 0 ≤ w19.toInt ∧ w19.toInt < 8589934592 := q19
      refine ev_anyLE f_X12_silent (nx := 21) rfl rfl rfl rfl (fun z20 e20 => ?_)
      refine ev_loc f_X12_silent (nx := 22) (lo' := [(1, .long z20), (3, .int y1_3), (0, .ref 69)]) rfl rfl rfl rfl ?_
      refine ev_incR f_X12_silent (nx := 25) (c := 1) (l := 1) (u := 6) rfl rfl (by decide) (by decide) l1_3 u17 rfl rfl (by decide) (by decide) rfl (fun z21 e21 l21 u21 => ?_)
      refine ev_jmp f_X12_silent (nx := 4) rfl rfl rfl ?_
      refine ev_sub (lo := [(3, .int z21), (1, .long z20), (0, .ref 69)]) rfl (t_sc rfl (t_sc rfl (t_sc rfl t_sn))) ?_
      exact ih1 _ (by omega) gi19 gl19 gr19 (z21) (z20) hI hX  (Int.le_trans (by decide : (0:Int) ≤ 1) l21) u21 (t_or33 e20 (by omega) (by omega)) rfl
  refine ev_sub (lo := [(3, .int 0), (1, .long 0), (0, .ref 69)]) rfl (t_sc rfl (t_sc rfl (t_sc rfl t_sn))) ?_
  exact L1 _ gi gl gr (0) (0) hI hX  (by decide : (0:Int) ≤ (0:Int32).toInt) (Int.le_trans (by decide : (0:Int32).toInt ≤ (0:Int)) (by decide : (0:Int) ≤ 6)) (by decide) rfl
noncomputable def wl_m_tellsMinutes : List (Nat × Nat) := [(89, 10005), (89, 610011)]
theorem c_m_tellsMinutes {X : x_Ext} {d : Nat} {sh : List (Nat ⊕ (Nat × Nat))} {gi : Nat → Nat → Int32} {gl : Nat → Nat → Int64} {gr : Nat → Nat → Value} (hI : t_I sh gi gr) : x_Me X (d + 1) n_X12_tellsMinutes [.ref 69] (sh, gi, gl, gr) (t_P wl_m_tellsMinutes sh gi gl gr t_Rn) := by
  have hX : t_X wl_m_tellsMinutes sh gi gl gr gi gl gr := t_X.rf
  refine me_i f_X12_tellsMinutes (hI.wf.s rfl) rfl rfl rfl ?_
  refine ev_ic f_X12_tellsMinutes (nx := 1) (v := 0) rfl (by decide) rfl ?_
  refine ev_loc f_X12_tellsMinutes (nx := 2) (lo' := [(1, .int 0), (0, .ref 69)]) rfl rfl rfl rfl ?_
  have L1 : ∀ (m1 : Nat) (gi1 : Nat → Nat → Int32) (gl1 : Nat → Nat → Int64) (gr1 : Nat → Nat → Value) (y1_1 : Int32), t_I sh gi1 gr1 → t_X wl_m_tellsMinutes sh gi gl gr gi1 gl1 gr1 → 0 ≤ y1_1.toInt → y1_1.toInt ≤ 6 → (6 - y1_1.toInt).toNat = m1 → x_Ev X (d + 1) n_X12_tellsMinutes 2 [(1, .int y1_1), (0, .ref 69)] [] (sh, gi1, gl1, gr1) (t_P wl_m_tellsMinutes sh gi gl gr t_Rn) := by
    intro m1
    induction m1 using Nat.strongRecOn with
    | _ m1 ih1 =>
    intro gi1 gl1 gr1 y1_1 hI hX l1_1 u1_1 hm1
    refine ev_loc f_X12_tellsMinutes (nx := 3) rfl rfl rfl rfl ?_
    refine ev_bp f_X12_tellsMinutes (nx := 5) (v := 6) rfl (by decide) rfl ?_
    refine ev_if f_X12_tellsMinutes (t1 := 33) (t2 := 8) rfl rfl rfl (fun h2 => ?_) (fun h2 => ?_)
    · have l3 : 6 ≤ y1_1.toInt := t_lel h2 (by decide : (6:Int) ≤ (6:Int32).toInt)
      refine ev_ic f_X12_tellsMinutes (nx := 34) (v := 0) rfl (by decide) rfl ?_
      refine ev_loc f_X12_tellsMinutes (nx := 35) (lo' := [(1, .int 0), (0, .ref 69)]) rfl rfl rfl rfl ?_
      have L4 : ∀ (m4 : Nat) (gi4 : Nat → Nat → Int32) (gl4 : Nat → Nat → Int64) (gr4 : Nat → Nat → Value) (y4_1 : Int32), t_I sh gi4 gr4 → t_X wl_m_tellsMinutes sh gi gl gr gi4 gl4 gr4 → 0 ≤ y4_1.toInt → y4_1.toInt ≤ 6 → (6 - y4_1.toInt).toNat = m4 → x_Ev X (d + 1) n_X12_tellsMinutes 35 [(1, .int y4_1), (0, .ref 69)] [] (sh, gi4, gl4, gr4) (t_P wl_m_tellsMinutes sh gi gl gr t_Rn) := by
        intro m4
        induction m4 using Nat.strongRecOn with
        | _ m4 ih4 =>
        intro gi4 gl4 gr4 y4_1 hI hX l4_1 u4_1 hm4
        refine ev_loc f_X12_tellsMinutes (nx := 36) rfl rfl rfl rfl ?_
        refine ev_bp f_X12_tellsMinutes (nx := 38) (v := 6) rfl (by decide) rfl ?_
        refine ev_if f_X12_tellsMinutes (t1 := 67) (t2 := 41) rfl rfl rfl (fun h5 => ?_) (fun h5 => ?_)
        · have l6 : 6 ≤ y4_1.toInt := t_lel h5 (by decide : (6:Int) ≤ (6:Int32).toInt)
          exact ev_ret f_X12_tellsMinutes rfl rfl rfl ⟨_, _, _, rfl, hI, hX, rfl⟩
        · have u7 : y4_1.toInt ≤ 5 := t_ltu (t_nle h5) (by decide : (6:Int32).toInt ≤ (6:Int)) rfl
          refine ev_loc f_X12_tellsMinutes (nx := 42) rfl rfl rfl rfl ?_
          refine ev_getR f_X12_tellsMinutes (nx := 45) rfl (hI.wf.s rfl) rfl rfl (hI.wf.r rfl) rfl rfl ?_
          refine ev_bp f_X12_tellsMinutes (nx := 47) (v := 6) rfl (by decide) rfl ?_
          refine ev_loc f_X12_tellsMinutes (nx := 48) rfl rfl rfl rfl ?_
          refine ev_addK f_X12_tellsMinutes (nx := 49) (c := 6) (l := 6) (u := 11) rfl (by decide) l4_1 u7 rfl rfl (by decide) (by decide) rfl (fun z8 e8 l8 u8 => ?_)
          refine ev_loc f_X12_tellsMinutes (nx := 50) rfl rfl rfl rfl ?_
          refine ev_getR f_X12_tellsMinutes (nx := 53) rfl (hI.wf.s rfl) rfl rfl (hI.wf.r rfl) rfl rfl ?_
          refine ev_bp f_X12_tellsMinutes (nx := 55) (v := 82) rfl (by decide) rfl ?_
          refine ev_ic f_X12_tellsMinutes (nx := 56) (v := 3) rfl (by decide) rfl ?_
          refine ev_loc f_X12_tellsMinutes (nx := 57) rfl rfl rfl rfl ?_
          refine ev_mulL f_X12_tellsMinutes (nx := 58) (c := 3) (l := 0) (u := 15) rfl (by decide) (by decide) l4_1 u7 rfl rfl (by decide) (by decide) rfl (fun z9 e9 l9 u9 => ?_)
          refine ev_addK f_X12_tellsMinutes (nx := 59) (c := 82) (l := 82) (u := 97) rfl (by decide) l9 u9 rfl rfl (by decide) (by decide) rfl (fun z10 e10 l10 u10 => ?_)
          refine ev_ialdT f_X12_tellsMinutes (nx := 60) rfl (hI.wf.s rfl) l10 (by decide) u10 (by decide) rfl (fun w11 e11 => ?_)
          obtain ⟨l11, u11⟩ := hI.abA (x := y4_1) e11 (by decide +kernel : t_aba 70 82 3 0 5 0 120 = true) (by omega) (by omega) (by omega)
          refine ev_iastT f_X12_tellsMinutes (nx := 61) rfl (hI.wf.s rfl) l8 (by decide) u8 (by decide) rfl (hI.astG (hI.wf.s rfl) (fun lo hi e => absurd e (t_nob (by decide +kernel) _)) (fun k hk e => by have := hk.2.1; omega)) (hX.upI (t_inR (p := 6) (m := 11) rfl l8 (by decide) u8 (by decide) (by decide))) (fun g12 e12 hI hX => ?_)
          refine ev_incR f_X12_tellsMinutes (nx := 64) (c := 1) (l := 1) (u := 6) rfl rfl (by decide) (by decide) l4_1 u7 rfl rfl (by decide) (by decide) rfl (fun z13 e13 l13 u13 => ?_)
          refine ev_jmp f_X12_tellsMinutes (nx := 35) rfl rfl rfl ?_
          refine ev_sub (lo := [(1, .int z13), (0, .ref 69)]) rfl (t_sc rfl (t_sc rfl t_sn)) ?_
          exact ih4 _ (by omega) g12 gl4 gr4 (z13) hI hX  (Int.le_trans (by decide : (0:Int) ≤ 1) l13) u13 rfl
      refine ev_sub (lo := [(1, .int 0), (0, .ref 69)]) rfl (t_sc rfl (t_sc rfl t_sn)) ?_
      exact L4 _ gi1 gl1 gr1 (0) hI hX  (by decide : (0:Int) ≤ (0:Int32).toInt) (Int.le_trans (by decide : (0:Int32).toInt ≤ (0:Int)) (by decide : (0:Int) ≤ 6)) rfl
    · have u14 : y1_1.toInt ≤ 5 := t_ltu (t_nle h2) (by decide : (6:Int32).toInt ≤ (6:Int)) rfl
      refine ev_loc f_X12_tellsMinutes (nx := 9) rfl rfl rfl rfl ?_
      refine ev_getR f_X12_tellsMinutes (nx := 12) rfl (hI.wf.s rfl) rfl rfl (hI.wf.r rfl) rfl rfl ?_
      refine ev_loc f_X12_tellsMinutes (nx := 13) rfl rfl rfl rfl ?_
      refine ev_loc f_X12_tellsMinutes (nx := 14) rfl rfl rfl rfl ?_
      refine ev_getR f_X12_tellsMinutes (nx := 17) rfl (hI.wf.s rfl) rfl rfl (hI.wf.r rfl) rfl rfl ?_
      refine ev_bp f_X12_tellsMinutes (nx := 19) (v := 52) rfl (by decide) rfl ?_
      refine ev_ic f_X12_tellsMinutes (nx := 20) (v := 5) rfl (by decide) rfl ?_
      refine ev_loc f_X12_tellsMinutes (nx := 21) rfl rfl rfl rfl ?_
      refine ev_mulL f_X12_tellsMinutes (nx := 22) (c := 5) (l := 0) (u := 25) rfl (by decide) (by decide) l1_1 u14 rfl rfl (by decide) (by decide) rfl (fun z15 e15 l15 u15 => ?_)
      refine ev_addK f_X12_tellsMinutes (nx := 23) (c := 52) (l := 52) (u := 77) rfl (by decide) l15 u15 rfl rfl (by decide) (by decide) rfl (fun z16 e16 l16 u16 => ?_)
      refine ev_ic f_X12_tellsMinutes (nx := 24) (v := 1) rfl (by decide) rfl ?_
      refine ev_addC f_X12_tellsMinutes (nx := 25) (c := 1) (l := 53) (u := 78) rfl (by decide) l16 u16 rfl rfl (by decide) (by decide) rfl (fun z17 e17 l17 u17 => ?_)
      refine ev_ialdT f_X12_tellsMinutes (nx := 26) rfl (hI.wf.s rfl) l17 (by decide) u17 (by decide) rfl (fun w18 e18 => ?_)
      obtain ⟨l18, u18⟩ := hI.abA (x := y1_1) e18 (by decide +kernel : t_aba 70 53 5 0 5 0 120 = true) (by omega) (by omega) (by omega)
      refine ev_iastT f_X12_tellsMinutes (nx := 27) rfl (hI.wf.s rfl) l1_1 (by decide) u14 (by decide) rfl (hI.astG (hI.wf.s rfl) (fun lo hi e => absurd e (t_nob (by decide +kernel) _)) (fun k hk e => by have := hk.2.1; omega)) (hX.upI (t_inR (p := 0) (m := 5) rfl l1_1 (by decide) u14 (by decide) (by decide))) (fun g19 e19 hI hX => ?_)
      refine ev_incR f_X12_tellsMinutes (nx := 30) (c := 1) (l := 1) (u := 6) rfl rfl (by decide) (by decide) l1_1 u14 rfl rfl (by decide) (by decide) rfl (fun z20 e20 l20 u20 => ?_)
      refine ev_jmp f_X12_tellsMinutes (nx := 2) rfl rfl rfl ?_
      refine ev_sub (lo := [(1, .int z20), (0, .ref 69)]) rfl (t_sc rfl (t_sc rfl t_sn)) ?_
      exact ih1 _ (by omega) g19 gl1 gr1 (z20) hI hX  (Int.le_trans (by decide : (0:Int) ≤ 1) l20) u20 rfl
  refine ev_sub (lo := [(1, .int 0), (0, .ref 69)]) rfl (t_sc rfl (t_sc rfl t_sn)) ?_
  exact L1 _ gi gl gr (0) hI hX  (by decide : (0:Int) ≤ (0:Int32).toInt) (Int.le_trans (by decide : (0:Int32).toInt ≤ (0:Int)) (by decide : (0:Int) ≤ 6)) rfl
noncomputable def wl_m_copies : List (Nat × Nat) := [(70, 11399), (71, 10071)]
noncomputable def Q_m_copies (gi : Nat → Nat → Int32) (gl : Nat → Nat → Int64) (gr : Nat → Nat → Value) (ar1 : Int32) (ar2 : Int32) : (Nat → Nat → Int32) → (Nat → Nat → Int64) → (Nat → Nat → Value) → Prop := fun (gi2 : Nat → Nat → Int32) (gl2 : Nat → Nat → Int64) (gr2 : Nat → Nat → Value) => (∀ j, gi2 70 j = t_cpy (gi 70) ar1.toInt.toNat ar2.toInt.toNat 350 j)
theorem c_m_copies {X : x_Ext} {d : Nat} {sh : List (Nat ⊕ (Nat × Nat))} {gi : Nat → Nat → Int32} {gl : Nat → Nat → Int64} {gr : Nat → Nat → Value} (hI : t_I sh gi gr) (ar1 : Int32) (l_a1 : 0 ≤ ar1.toInt) (u_a1 : ar1.toInt ≤ 3) (ar2 : Int32) (l_a2 : 0 ≤ ar2.toInt) (u_a2 : ar2.toInt ≤ 3) (e_p0 : ar1.toInt ≠ ar2.toInt) : x_Me X (d + 1) n_X12_copies [.ref 69, .int ar1, .int ar2] (sh, gi, gl, gr) (t_PN wl_m_copies sh gi gl gr (Q_m_copies gi gl gr ar1 ar2)) := by
  have hX : t_X wl_m_copies sh gi gl gr gi gl gr := t_X.rf
  refine me_i f_X12_copies (hI.wf.s rfl) rfl rfl rfl ?_
  refine ev_ic f_X12_copies (nx := 1) (v := 0) rfl (by decide) rfl ?_
  refine ev_loc f_X12_copies (nx := 2) (lo' := [(3, .int 0), (0, .ref 69), (1, .int ar1), (2, .int ar2)]) rfl rfl rfl rfl ?_
  have L1 : ∀ (m1 : Nat) (gi1 : Nat → Nat → Int32) (gl1 : Nat → Nat → Int64) (gr1 : Nat → Nat → Value) (y1_3 : Int32), t_I sh gi1 gr1 → t_X wl_m_copies sh gi gl gr gi1 gl1 gr1 → 0 ≤ y1_3.toInt → y1_3.toInt ≤ 350 → (∀ j, gi1 70 j = t_cpy (gi 70) ar1.toInt.toNat ar2.toInt.toNat y1_3.toInt.toNat j) → (350 - y1_3.toInt).toNat = m1 → x_Ev X (d + 1) n_X12_copies 2 [(3, .int y1_3), (0, .ref 69), (1, .int ar1), (2, .int ar2)] [] (sh, gi1, gl1, gr1) (t_PN wl_m_copies sh gi gl gr (Q_m_copies gi gl gr ar1 ar2)) := by
    intro m1
    induction m1 using Nat.strongRecOn with
    | _ m1 ih1 =>
    intro gi1 gl1 gr1 y1_3 hI hX l1_3 u1_3 j1_0 hm1
    refine ev_loc f_X12_copies (nx := 3) rfl rfl rfl rfl ?_
    refine ev_sp f_X12_copies (nx := 6) (v := 350) rfl (by decide) rfl ?_
    refine ev_if f_X12_copies (t1 := 39) (t2 := 9) rfl rfl rfl (fun h2 => ?_) (fun h2 => ?_)
    · have l3 : 350 ≤ y1_3.toInt := t_lel h2 (by decide : (350:Int) ≤ (350:Int32).toInt)
      refine ev_ic f_X12_copies (nx := 40) (v := 0) rfl (by decide) rfl ?_
      refine ev_loc f_X12_copies (nx := 41) (lo' := [(3, .int 0), (0, .ref 69), (1, .int ar1), (2, .int ar2)]) rfl rfl rfl rfl ?_
      have L4 : ∀ (m4 : Nat) (gi4 : Nat → Nat → Int32) (gl4 : Nat → Nat → Int64) (gr4 : Nat → Nat → Value) (y4_3 : Int32), t_I sh gi4 gr4 → t_X wl_m_copies sh gi gl gr gi4 gl4 gr4 → 0 ≤ y4_3.toInt → y4_3.toInt ≤ 18 → (∀ j, gi4 70 j = t_cpy (gi 70) ar1.toInt.toNat ar2.toInt.toNat 350 j) → (18 - y4_3.toInt).toNat = m4 → x_Ev X (d + 1) n_X12_copies 41 [(3, .int y4_3), (0, .ref 69), (1, .int ar1), (2, .int ar2)] [] (sh, gi4, gl4, gr4) (t_PN wl_m_copies sh gi gl gr (Q_m_copies gi gl gr ar1 ar2)) := by
        intro m4
        induction m4 using Nat.strongRecOn with
        | _ m4 ih4 =>
        intro gi4 gl4 gr4 y4_3 hI hX l4_3 u4_3 j4_0 hm4
        refine ev_loc f_X12_copies (nx := 42) rfl rfl rfl rfl ?_
        refine ev_bp f_X12_copies (nx := 44) (v := 18) rfl (by decide) rfl ?_
        refine ev_if f_X12_copies (t1 := 75) (t2 := 47) rfl rfl rfl (fun h5 => ?_) (fun h5 => ?_)
        · have l6 : 18 ≤ y4_3.toInt := t_lel h5 (by decide : (18:Int) ≤ (18:Int32).toInt)
          exact ev_ret f_X12_copies rfl rfl rfl ⟨_, _, _, rfl, hI, hX, ⟨rfl, (show (∀ j, gi4 70 j = t_cpy (gi 70) ar1.toInt.toNat ar2.toInt.toNat 350 j) from j4_0)⟩⟩
        · have u7 : y4_3.toInt ≤ 17 := t_ltu (t_nle h5) (by decide : (18:Int32).toInt ≤ (18:Int)) rfl
          refine ev_loc f_X12_copies (nx := 48) rfl rfl rfl rfl ?_
          refine ev_getR f_X12_copies (nx := 51) rfl (hI.wf.s rfl) rfl rfl (hI.wf.r rfl) rfl rfl ?_
          refine ev_bp f_X12_copies (nx := 53) (v := 18) rfl (by decide) rfl ?_
          refine ev_loc f_X12_copies (nx := 54) rfl rfl rfl rfl ?_
          refine ev_mulL f_X12_copies (nx := 55) (c := 18) (l := 0) (u := 54) rfl (by decide) (by decide) l_a2 u_a2 rfl rfl (by decide) (by decide) rfl (fun z8 e8 l8 u8 => ?_)
          refine ev_loc f_X12_copies (nx := 56) rfl rfl rfl rfl ?_
          refine ev_addR f_X12_copies (nx := 57) (l := 0) (u := 71) rfl l8 u8 l4_3 u7 rfl rfl (by decide) (by decide) rfl (fun z9 e9 l9 u9 => ?_)
          refine ev_loc f_X12_copies (nx := 58) rfl rfl rfl rfl ?_
          refine ev_getR f_X12_copies (nx := 61) rfl (hI.wf.s rfl) rfl rfl (hI.wf.r rfl) rfl rfl ?_
          refine ev_bp f_X12_copies (nx := 63) (v := 18) rfl (by decide) rfl ?_
          refine ev_loc f_X12_copies (nx := 64) rfl rfl rfl rfl ?_
          refine ev_mulL f_X12_copies (nx := 65) (c := 18) (l := 0) (u := 54) rfl (by decide) (by decide) l_a1 u_a1 rfl rfl (by decide) (by decide) rfl (fun z10 e10 l10 u10 => ?_)
          refine ev_loc f_X12_copies (nx := 66) rfl rfl rfl rfl ?_
          refine ev_addR f_X12_copies (nx := 67) (l := 0) (u := 71) rfl l10 u10 l4_3 u7 rfl rfl (by decide) (by decide) rfl (fun z11 e11 l11 u11 => ?_)
          refine ev_laldT f_X12_copies (nx := 68) rfl (hI.wf.s rfl) l11 (by decide) u11 (by decide) rfl (fun w12 e12 => ?_)
          refine ev_lastT f_X12_copies (nx := 69) rfl (hI.wf.s rfl) l9 (by decide) u9 (by decide) rfl (hX.upL (t_inR (p := 0) (m := 71) rfl l9 (by decide) u9 (by decide) (by decide))) (fun g13 e13 hX => ?_)
          refine ev_incR f_X12_copies (nx := 72) (c := 1) (l := 1) (u := 18) rfl rfl (by decide) (by decide) l4_3 u7 rfl rfl (by decide) (by decide) rfl (fun z14 e14 l14 u14 => ?_)
          refine ev_jmp f_X12_copies (nx := 41) rfl rfl rfl ?_
          refine ev_sub (lo := [(3, .int z14), (0, .ref 69), (1, .int ar1), (2, .int ar2)]) rfl (t_sc rfl (t_sc rfl (t_sc rfl (t_sc rfl t_sn)))) ?_
          exact ih4 _ (by omega) gi4 g13 gr4 (z14) hI hX  (Int.le_trans (by decide : (0:Int) ≤ 1) l14) u14 j4_0 rfl
      refine ev_sub (lo := [(3, .int 0), (0, .ref 69), (1, .int ar1), (2, .int ar2)]) rfl (t_sc rfl (t_sc rfl (t_sc rfl (t_sc rfl t_sn)))) ?_
      exact L4 _ gi1 gl1 gr1 (0) hI hX  (by decide : (0:Int) ≤ (0:Int32).toInt) (Int.le_trans (by decide : (0:Int32).toInt ≤ (0:Int)) (by decide : (0:Int) ≤ 18)) (by have hk : y1_3.toInt.toNat = 350 := (by omega); intro j; have := j1_0 j; rw [hk] at this; exact this) rfl
    · have u15 : y1_3.toInt ≤ 349 := t_ltu (t_nle h2) (by decide : (350:Int32).toInt ≤ (350:Int)) rfl
      refine ev_loc f_X12_copies (nx := 10) rfl rfl rfl rfl ?_
      refine ev_getR f_X12_copies (nx := 13) rfl (hI.wf.s rfl) rfl rfl (hI.wf.r rfl) rfl rfl ?_
      refine ev_sp f_X12_copies (nx := 16) (v := 350) rfl (by decide) rfl ?_
      refine ev_loc f_X12_copies (nx := 17) rfl rfl rfl rfl ?_
      refine ev_mulL f_X12_copies (nx := 18) (c := 350) (l := 0) (u := 1050) rfl (by decide) (by decide) l_a2 u_a2 rfl rfl (by decide) (by decide) rfl (fun z16 e16 l16 u16 => ?_)
      refine ev_loc f_X12_copies (nx := 19) rfl rfl rfl rfl ?_
      refine ev_addR f_X12_copies (nx := 20) (l := 0) (u := 1399) rfl l16 u16 l1_3 u15 rfl rfl (by decide) (by decide) rfl (fun z17 e17 l17 u17 => ?_)
      refine ev_loc f_X12_copies (nx := 21) rfl rfl rfl rfl ?_
      refine ev_getR f_X12_copies (nx := 24) rfl (hI.wf.s rfl) rfl rfl (hI.wf.r rfl) rfl rfl ?_
      refine ev_sp f_X12_copies (nx := 27) (v := 350) rfl (by decide) rfl ?_
      refine ev_loc f_X12_copies (nx := 28) rfl rfl rfl rfl ?_
      refine ev_mulL f_X12_copies (nx := 29) (c := 350) (l := 0) (u := 1050) rfl (by decide) (by decide) l_a1 u_a1 rfl rfl (by decide) (by decide) rfl (fun z18 e18 l18 u18 => ?_)
      refine ev_loc f_X12_copies (nx := 30) rfl rfl rfl rfl ?_
      refine ev_addR f_X12_copies (nx := 31) (l := 0) (u := 1399) rfl l18 u18 l1_3 u15 rfl rfl (by decide) (by decide) rfl (fun z19 e19 l19 u19 => ?_)
      refine ev_ialdT f_X12_copies (nx := 32) rfl (hI.wf.s rfl) l19 (by decide) u19 (by decide) rfl (fun w20 e20 => ?_)
      refine ev_iastT f_X12_copies (nx := 33) rfl (hI.wf.s rfl) l17 (by decide) u17 (by decide) rfl (hI.astS (a := ar1.toInt.toNat) (b := ar2.toInt.toNat) (k := y1_3.toInt.toNat) e20 (by omega) (by omega) (by omega) (by omega) (by omega)) (hX.upI (t_inR (p := 0) (m := 1399) rfl l17 (by decide) u17 (by decide) (by decide))) (fun g21 e21 hI hX => ?_)
      refine ev_incR f_X12_copies (nx := 36) (c := 1) (l := 1) (u := 350) rfl rfl (by decide) (by decide) l1_3 u15 rfl rfl (by decide) (by decide) rfl (fun z22 e22 l22 u22 => ?_)
      refine ev_jmp f_X12_copies (nx := 2) rfl rfl rfl ?_
      refine ev_sub (lo := [(3, .int z22), (0, .ref 69), (1, .int ar1), (2, .int ar2)]) rfl (t_sc rfl (t_sc rfl (t_sc rfl (t_sc rfl t_sn)))) ?_
      exact ih1 _ (by omega) g21 gl1 gr1 (z22) hI hX  (Int.le_trans (by decide : (0:Int) ≤ 1) l22) u22 (t_cpyS j1_0 e20 e21 (by have := t_clamp (i := z17) (by omega); omega) (by have := t_clamp (i := z19) (by omega); omega) (by omega) (by omega) (by omega) (by omega) (by omega)) rfl
  refine ev_sub (lo := [(3, .int 0), (0, .ref 69), (1, .int ar1), (2, .int ar2)]) rfl (t_sc rfl (t_sc rfl (t_sc rfl (t_sc rfl t_sn)))) ?_
  exact L1 _ gi gl gr (0) hI hX  (by decide : (0:Int) ≤ (0:Int32).toInt) (Int.le_trans (by decide : (0:Int32).toInt ≤ (0:Int)) (by decide : (0:Int) ≤ 350)) (fun j => (t_cpy0 _ _ _ j).symm) rfl
