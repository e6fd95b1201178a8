/-! ===== printed by riv.py: a day of the class ===== -/
noncomputable def wl_k_firstShipLeft : List (Nat × Nat) := []
noncomputable def Q_k_firstShipLeft (gi : Nat → Nat → Int32) (gl : Nat → Nat → Int64) (gr : Nat → Nat → Value) : Int32 → (Nat → Nat → Int32) → (Nat → Nat → Int64) → (Nat → Nat → Value) → Prop := fun (v : Int32) (gi2 : Nat → Nat → Int32) (gl2 : Nat → Nat → Int64) (gr2 : Nat → Nat → Value) => (∀ (P : Nat → Nat → Int) (Z : Nat → Int), t_KL P gi → t_CZ (P 0 0) Z gi → (v.toInt = -1 ∧ P 0 0 ≤ ((s_f1 Z (P 0 0).toNat 0 : Nat) : Int)) ∨ (v.toInt = ((s_f1 Z (P 0 0).toNat 0 : Nat) : Int) ∧ ((s_f1 Z (P 0 0).toNat 0 : Nat) : Int) < P 0 0))
theorem c_k_firstShipLeft {X : x_Ext} {d : Nat} {sh : List (Nat ⊕ (Nat × Nat))} {gi : Nat → Nat → Int32} {gl : Nat → Nat → Int64} {gr : Nat → Nat → Value} (hI : t_I sh gi gr) : x_Me X (d + 1) n_X2_firstShipLeft [.ref 45] (sh, gi, gl, gr) (t_PI wl_k_firstShipLeft sh gi gl gr (-1) 5 (Q_k_firstShipLeft gi gl gr)) := by
  have hX : t_X wl_k_firstShipLeft sh gi gl gr gi gl gr := t_X.rf
  refine me_i f_X2_firstShipLeft (hI.wf.s rfl) rfl rfl rfl ?_
  refine ev_ic f_X2_firstShipLeft (nx := 1) (v := 0) rfl (by decide) rfl ?_
  refine ev_loc f_X2_firstShipLeft (nx := 2) (lo' := [(1, .int 0), (0, .ref 45)]) rfl rfl rfl rfl ?_
  have L1 : ∀ (m1 : Nat) (gi1 : Nat → Nat → Int32) (gl1 : Nat → Nat → Int64) (gr1 : Nat → Nat → Value) (y1_1 : Int32), t_I sh gi1 gr1 → t_X wl_k_firstShipLeft sh gi gl gr gi1 gl1 gr1 → 0 ≤ y1_1.toInt → y1_1.toInt ≤ 6 → (∀ (P : Nat → Nat → Int) (Z : Nat → Int), t_KL P gi → t_CZ (P 0 0) Z gi → y1_1.toInt ≤ P 0 0 ∧ ∀ j : Nat, (j : Int) < y1_1.toInt → Z (10 + j) ≠ 0) → (6 - y1_1.toInt).toNat = m1 → x_Ev X (d + 1) n_X2_firstShipLeft 2 [(1, .int y1_1), (0, .ref 45)] [] (sh, gi1, gl1, gr1) (t_PI wl_k_firstShipLeft sh gi gl gr (-1) 5 (Q_k_firstShipLeft gi gl gr)) := by
    intro m1
    induction m1 using Nat.strongRecOn with
    | _ m1 ih1 =>
    intro gi1 gl1 gr1 y1_1 hI hX l1_1 u1_1 j1_0 hm1
    refine ev_loc f_X2_firstShipLeft (nx := 3) rfl rfl rfl rfl ?_
    refine ev_loc f_X2_firstShipLeft (nx := 4) rfl rfl rfl rfl ?_
    refine ev_getR f_X2_firstShipLeft (nx := 7) rfl (hI.wf.s rfl) rfl rfl (hI.wf.r rfl) rfl rfl ?_
    refine ev_getI f_X2_firstShipLeft (nx := 10) rfl (hI.wf.s rfl) rfl rfl rfl ?_
    obtain ⟨l2, u2⟩ := hI.b (hI.wf.s (k := 46) rfl) (t_bdK rfl : t_bd 3 0 = some (0, 6))
    refine ev_if f_X2_firstShipLeft (t1 := 30) (t2 := 13) rfl rfl rfl (fun h3 => ?_) (fun h3 => ?_)
    · have r4 : (gi1 46 0).toInt ≤ y1_1.toInt := Int32.le_iff_toInt_le.mp h3
      refine ev_ic f_X2_firstShipLeft (nx := 31) (v := -1) rfl (by decide) rfl ?_
      exact ev_ret f_X2_firstShipLeft rfl rfl rfl ⟨_, _, _, rfl, hI, hX, ⟨_, rfl, (by decide : ((-1):Int) ≤ ((-1):Int32).toInt), (Int.le_trans (by decide : ((-1):Int32).toInt ≤ ((-1):Int)) (by decide : ((-1):Int) ≤ 5)), (show (∀ (P : Nat → Nat → Int) (Z : Nat → Int), t_KL P gi → t_CZ (P 0 0) Z gi → (((-1) : Int) = -1 ∧ P 0 0 ≤ ((s_f1 Z (P 0 0).toNat 0 : Nat) : Int)) ∨ (((-1) : Int) = ((s_f1 Z (P 0 0).toNat 0 : Nat) : Int) ∧ ((s_f1 Z (P 0 0).toNat 0 : Nat) : Int) < P 0 0)) from (fun P Z hL hZ => (by
                                                            obtain ⟨h1, h2⟩ := j1_0 P Z hL hZ
                                                            have eg : gi1 = gi := funext fun c => funext fun j => (hX.1 c j rfl).1
                                                            have hm := hL.1.1.1
                                                            rw [← eg] at hm hZ
                                                            have hc := t_clamp (i := y1_1) (by omega)
                                                            have hf := s_f1_e (Z := Z) (n := (P 0 0).toNat) (k := (P 0 0).toNat) (Nat.le_refl _) (fun j hj => h2 j (by omega)) (fun hh => absurd hh (Nat.lt_irrefl _))
                                                            exact Or.inl ⟨rfl, by omega⟩)))⟩⟩
    · have r5 : y1_1.toInt < (gi1 46 0).toInt := Int32.lt_iff_toInt_lt.mp (t_nle h3)
      have u6 : y1_1.toInt ≤ 5 := t_ltu (t_nle h3) u2 rfl
      have l7 : 1 ≤ (gi1 46 0).toInt := t_ltl (t_nle h3) l1_1 rfl
      refine ev_loc f_X2_firstShipLeft (nx := 14) rfl rfl rfl rfl ?_
      refine ev_getR f_X2_firstShipLeft (nx := 17) rfl (hI.wf.s rfl) rfl rfl (hI.wf.r rfl) rfl rfl ?_
      refine ev_loc f_X2_firstShipLeft (nx := 18) rfl rfl rfl rfl ?_
      refine ev_ialdT f_X2_firstShipLeft (nx := 19) rfl (hI.wf.s rfl) l1_1 (by decide) u6 (by decide) rfl (fun w8 e8 => ?_)
      refine ev_if f_X2_firstShipLeft (t1 := 22) (t2 := 24) rfl rfl rfl (fun h9 => ?_) (fun h9 => ?_)
      · have u10 : w8.toInt ≤ 0 := t_equ h9 (by decide : (0:Int32).toInt ≤ (0:Int))
        have l11 : 0 ≤ w8.toInt := t_eql h9 (by decide : (0:Int) ≤ (0:Int32).toInt)
        refine ev_loc f_X2_firstShipLeft (nx := 23) rfl rfl rfl rfl ?_
        exact ev_ret f_X2_firstShipLeft rfl rfl rfl ⟨_, _, _, rfl, hI, hX, ⟨_, rfl, (Int.le_trans (by decide : ((-1):Int) ≤ 0) l1_1), u6, (show (∀ (P : Nat → Nat → Int) (Z : Nat → Int), t_KL P gi → t_CZ (P 0 0) Z gi → (y1_1.toInt = -1 ∧ P 0 0 ≤ ((s_f1 Z (P 0 0).toNat 0 : Nat) : Int)) ∨ (y1_1.toInt = ((s_f1 Z (P 0 0).toNat 0 : Nat) : Int) ∧ ((s_f1 Z (P 0 0).toNat 0 : Nat) : Int) < P 0 0)) from (fun P Z hL hZ => (by
                                                            obtain ⟨h1, h2⟩ := j1_0 P Z hL hZ
                                                            have eg : gi1 = gi := funext fun c => funext fun j => (hX.1 c j rfl).1
                                                            have hm := hL.1.1.1
                                                            rw [← eg] at hm hZ
                                                            have hc := t_clamp (i := y1_1) (by omega)
                                                            have hs := hZ.2.2 y1_1.toNatClampNeg (by omega)
                                                            have hw := congrArg Int32.toInt e8
                                                            have hf := s_f1_e (Z := Z) (n := (P 0 0).toNat) (k := y1_1.toNatClampNeg) (by omega) (fun j hj => h2 j (by omega)) (fun _ => by rw [← hs]; omega)
                                                            exact Or.inr ⟨by omega, by omega⟩)))⟩⟩
      · have r12 : w8.toInt ≠ 0 := fun e => h9 (Int32.toInt_inj.mp (e.trans (by decide : (0:Int) = (0 : Int32).toInt)))
        refine ev_incR f_X2_firstShipLeft (nx := 27) (c := 1) (l := 1) (u := 6) rfl rfl (by decide) (by decide) l1_1 u6 rfl rfl (by decide) (by decide) rfl (fun z13 e13 l13 u13 => ?_)
        refine ev_jmp f_X2_firstShipLeft (nx := 2) rfl rfl rfl ?_
        refine ev_sub (lo := [(1, .int z13), (0, .ref 45)]) rfl (t_sc rfl (t_sc rfl t_sn)) ?_
        exact ih1 _ (by omega) gi1 gl1 gr1 (z13) hI hX  (Int.le_trans (by decide : (0:Int) ≤ 1) l13) u13 (fun P Z hL hZ => (by
                                                            obtain ⟨h1, h2⟩ := j1_0 P Z hL hZ
                                                            have eg : gi1 = gi := funext fun c => funext fun j => (hX.1 c j rfl).1
                                                            have hm := hL.1.1.1
                                                            rw [← eg] at hm hZ
                                                            have hc := t_clamp (i := y1_1) (by omega)
                                                            have hs := hZ.2.2 y1_1.toNatClampNeg (by omega)
                                                            have hw := congrArg Int32.toInt e8
                                                            refine ⟨by omega, fun j hj => ?_⟩
                                                            by_cases hk : j = y1_1.toNatClampNeg
                                                            · rw [hk, ← hs]; omega
                                                            · exact h2 j (by omega))) rfl
  refine ev_sub (lo := [(1, .int 0), (0, .ref 45)]) rfl (t_sc rfl (t_sc rfl t_sn)) ?_
  exact L1 _ gi gl gr (0) hI hX  (by decide : (0:Int) ≤ (0:Int32).toInt) (Int.le_trans (by decide : (0:Int32).toInt ≤ (0:Int)) (by decide : (0:Int) ≤ 6)) (fun P Z hL hZ => ⟨by have z0 : (0 : Int32).toInt = 0 := rfl; have := hL.1.2; omega, fun j hj => absurd hj (by have z0 : (0 : Int32).toInt = 0 := rfl; omega)⟩) rfl
noncomputable def wl_k_left : List (Nat × Nat) := []
noncomputable def Q_k_left (gi : Nat → Nat → Int32) (gl : Nat → Nat → Int64) (gr : Nat → Nat → Value) : Int32 → (Nat → Nat → Int32) → (Nat → Nat → Int64) → (Nat → Nat → Value) → Prop := fun (v : Int32) (gi2 : Nat → Nat → Int32) (gl2 : Nat → Nat → Int64) (gr2 : Nat → Nat → Value) => (∀ (P : Nat → Nat → Int) (Z : Nat → Int), t_KL P gi → t_CZ (P 0 0) Z gi → v.toInt = s_lf P Z)
theorem c_k_left {X : x_Ext} {d : Nat} {sh : List (Nat ⊕ (Nat × Nat))} {gi : Nat → Nat → Int32} {gl : Nat → Nat → Int64} {gr : Nat → Nat → Value} (hI : t_I sh gi gr) : x_Me X (d + 1) n_X2_left [.ref 45] (sh, gi, gl, gr) (t_PI wl_k_left sh gi gl gr (-6) 12 (Q_k_left gi gl gr)) := by
  have hX : t_X wl_k_left sh gi gl gr gi gl gr := t_X.rf
  refine me_i f_X2_left (hI.wf.s rfl) rfl rfl rfl ?_
  refine ev_loc f_X2_left (nx := 1) rfl rfl rfl rfl ?_
  refine ev_getR f_X2_left (nx := 4) rfl (hI.wf.s rfl) rfl rfl (hI.wf.r rfl) rfl rfl ?_
  refine ev_getI f_X2_left (nx := 7) rfl (hI.wf.s rfl) rfl rfl rfl ?_
  obtain ⟨l1, u1⟩ := hI.b (hI.wf.s (k := 52) rfl) (t_bdK rfl : t_bd 3 0 = some (0, 6))
  refine ev_loc f_X2_left (nx := 8) rfl rfl rfl rfl ?_
  refine ev_getI f_X2_left (nx := 11) rfl (hI.wf.s rfl) rfl rfl rfl ?_
  obtain ⟨l2, u2⟩ := hI.b (hI.wf.s (k := 45) rfl) (t_bdK rfl : t_bd 2 10 = some (0, 6))
  refine ev_subR f_X2_left (nx := 12) (l := (-6)) (u := 6) rfl l1 u1 l2 u2 rfl rfl (by decide) (by decide) rfl (fun z3 e3 l3 u3 => ?_)
  refine ev_loc f_X2_left (nx := 13) (lo' := [(1, .int z3), (0, .ref 45)]) rfl rfl rfl rfl ?_
  refine ev_ic f_X2_left (nx := 14) (v := 0) rfl (by decide) rfl ?_
  refine ev_loc f_X2_left (nx := 15) (lo' := [(2, .int 0), (1, .int z3), (0, .ref 45)]) rfl rfl rfl rfl ?_
  have L4 : ∀ (m4 : Nat) (gi4 : Nat → Nat → Int32) (gl4 : Nat → Nat → Int64) (gr4 : Nat → Nat → Value) (y4_2 : Int32) (y4_1 : Int32), t_I sh gi4 gr4 → t_X wl_k_left sh gi gl gr gi4 gl4 gr4 → 0 ≤ y4_2.toInt → y4_2.toInt ≤ 6 → (-6) ≤ y4_1.toInt → y4_1.toInt ≤ 12 → gi4 45 10 = (gi 45 10) → gi4 52 0 = (gi 52 0) → y4_1.toInt ≤ 6 + y4_2.toInt → (∀ (P : Nat → Nat → Int) (Z : Nat → Int), t_KL P gi → t_CZ (P 0 0) Z gi → y4_2.toInt ≤ P 0 0 ∧ y4_1.toInt = P 0 1 - Z 4 + s_cu (s_lS Z) y4_2.toInt.toNat) → (6 - y4_2.toInt).toNat = m4 → x_Ev X (d + 1) n_X2_left 15 [(2, .int y4_2), (1, .int y4_1), (0, .ref 45)] [] (sh, gi4, gl4, gr4) (t_PI wl_k_left sh gi gl gr (-6) 12 (Q_k_left gi gl gr)) := by
    intro m4
    induction m4 using Nat.strongRecOn with
    | _ m4 ih4 =>
    intro gi4 gl4 gr4 y4_2 y4_1 hI hX l4_2 u4_2 l4_1 u4_1 c4_0 c4_1 j4_0 j4_1 hm4
    refine ev_loc f_X2_left (nx := 16) rfl rfl rfl rfl ?_
    refine ev_loc f_X2_left (nx := 17) rfl rfl rfl rfl ?_
    refine ev_getR f_X2_left (nx := 20) rfl (hI.wf.s rfl) rfl rfl (hI.wf.r rfl) rfl rfl ?_
    refine ev_getI f_X2_left (nx := 23) rfl (hI.wf.s rfl) rfl rfl rfl ?_
    obtain ⟨l5, u5⟩ := hI.b (hI.wf.s (k := 46) rfl) (t_bdK rfl : t_bd 3 0 = some (0, 6))
    refine ev_if f_X2_left (t1 := 44) (t2 := 26) rfl rfl rfl (fun h6 => ?_) (fun h6 => ?_)
    · have r7 : (gi4 46 0).toInt ≤ y4_2.toInt := Int32.le_iff_toInt_le.mp h6
      refine ev_loc f_X2_left (nx := 45) rfl rfl rfl rfl ?_
      exact ev_ret f_X2_left rfl rfl rfl ⟨_, _, _, rfl, hI, hX, ⟨_, rfl, l4_1, u4_1, (show (∀ (P : Nat → Nat → Int) (Z : Nat → Int), t_KL P gi → t_CZ (P 0 0) Z gi → y4_1.toInt = s_lf P Z) from (fun P Z hL hZ => (by
                                                            obtain ⟨h1, h2⟩ := j4_1 P Z hL hZ
                                                            have eg : gi4 = gi := funext fun c => funext fun j => (hX.1 c j rfl).1
                                                            have hm := hL.1.1.1
                                                            rw [← eg] at hm
                                                            rw [h2]; unfold s_lf; rw [show y4_2.toInt.toNat = (P 0 0).toNat by omega])))⟩⟩
    · have r8 : y4_2.toInt < (gi4 46 0).toInt := Int32.lt_iff_toInt_lt.mp (t_nle h6)
      have u9 : y4_2.toInt ≤ 5 := t_ltu (t_nle h6) u5 rfl
      have l10 : 1 ≤ (gi4 46 0).toInt := t_ltl (t_nle h6) l4_2 rfl
      refine ev_loc f_X2_left (nx := 27) rfl rfl rfl rfl ?_
      refine ev_getR f_X2_left (nx := 30) rfl (hI.wf.s rfl) rfl rfl (hI.wf.r rfl) rfl rfl ?_
      refine ev_loc f_X2_left (nx := 31) rfl rfl rfl rfl ?_
      refine ev_ialdT f_X2_left (nx := 32) rfl (hI.wf.s rfl) l4_2 (by decide) u9 (by decide) rfl (fun w11 e11 => ?_)
      refine ev_if f_X2_left (t1 := 35) (t2 := 38) rfl rfl rfl (fun h12 => ?_) (fun h12 => ?_)
      · have u13 : w11.toInt ≤ 0 := t_equ h12 (by decide : (0:Int32).toInt ≤ (0:Int))
        have l14 : 0 ≤ w11.toInt := t_eql h12 (by decide : (0:Int) ≤ (0:Int32).toInt)
        refine ev_incR f_X2_left (nx := 38) (c := 1) (l := (-5)) (u := 13) rfl rfl (by decide) (by decide) l4_1 u4_1 rfl rfl (by decide) (by decide) rfl (fun z15 e15 l15 u15 => ?_)
        refine ev_incR f_X2_left (nx := 41) (c := 1) (l := 1) (u := 6) rfl rfl (by decide) (by decide) l4_2 u9 rfl rfl (by decide) (by decide) rfl (fun z16 e16 l16 u16 => ?_)
        refine ev_jmp f_X2_left (nx := 15) rfl rfl rfl ?_
        refine ev_sub (lo := [(2, .int z16), (1, .int z15), (0, .ref 45)]) rfl (t_sc rfl (t_sc rfl (t_sc rfl t_sn))) ?_
        exact ih4 _ (by omega) gi4 gl4 gr4 (z16) (z15) hI hX  (Int.le_trans (by decide : (0:Int) ≤ 1) l16) u16 (Int.le_trans (by decide : ((-6):Int) ≤ (-5)) l15) (by omega : z15.toInt ≤ (12:Int)) c4_0 c4_1 (by omega) (fun P Z hL hZ => (by
                                                            obtain ⟨h1, h2⟩ := j4_1 P Z hL hZ
                                                            have eg : gi4 = gi := funext fun c => funext fun j => (hX.1 c j rfl).1
                                                            have hm := hL.1.1.1
                                                            rw [← eg] at hm hZ
                                                            have hc := t_clamp (i := y4_2) (by omega)
                                                            have hs := hZ.2.2 y4_2.toNatClampNeg (by omega)
                                                            have hw := congrArg Int32.toInt e11
                                                            have hk : s_cu (s_lS Z) z16.toInt.toNat = s_cu (s_lS Z) y4_2.toInt.toNat + s_lS Z y4_2.toInt.toNat := by rw [show z16.toInt.toNat = y4_2.toInt.toNat + 1 by omega]; rfl
                                                            have hf : s_lS Z y4_2.toInt.toNat = 1 := by unfold s_lS; rw [show y4_2.toInt.toNat = y4_2.toNatClampNeg by omega, ← hs, if_pos (by omega)]
                                                            rw [hf] at hk
                                                            have hb1 := s_cu_b (fun k => s_lS_b (Z := Z) (k := k)) y4_2.toInt.toNat
                                                            have hp := hL.1.2
                                                            have h4 := hZ.1.2.2.2.2
                                                            have e1 : (1 : Int32).toInt = 1 := rfl
                                                            exact ⟨by omega, by omega⟩)) rfl
      · have r17 : w11.toInt ≠ 0 := fun e => h12 (Int32.toInt_inj.mp (e.trans (by decide : (0:Int) = (0 : Int32).toInt)))
        refine ev_incR f_X2_left (nx := 41) (c := 1) (l := 1) (u := 6) rfl rfl (by decide) (by decide) l4_2 u9 rfl rfl (by decide) (by decide) rfl (fun z18 e18 l18 u18 => ?_)
        refine ev_jmp f_X2_left (nx := 15) rfl rfl rfl ?_
        refine ev_sub (lo := [(2, .int z18), (1, .int y4_1), (0, .ref 45)]) rfl (t_sc rfl (t_sc rfl (t_sc rfl t_sn))) ?_
        exact ih4 _ (by omega) gi4 gl4 gr4 (z18) (y4_1) hI hX  (Int.le_trans (by decide : (0:Int) ≤ 1) l18) u18 l4_1 u4_1 c4_0 c4_1 (by omega) (fun P Z hL hZ => (by
                                                            obtain ⟨h1, h2⟩ := j4_1 P Z hL hZ
                                                            have eg : gi4 = gi := funext fun c => funext fun j => (hX.1 c j rfl).1
                                                            have hm := hL.1.1.1
                                                            rw [← eg] at hm hZ
                                                            have hc := t_clamp (i := y4_2) (by omega)
                                                            have hs := hZ.2.2 y4_2.toNatClampNeg (by omega)
                                                            have hw := congrArg Int32.toInt e11
                                                            have hk : s_cu (s_lS Z) z18.toInt.toNat = s_cu (s_lS Z) y4_2.toInt.toNat + s_lS Z y4_2.toInt.toNat := by rw [show z18.toInt.toNat = y4_2.toInt.toNat + 1 by omega]; rfl
                                                            have hf : s_lS Z y4_2.toInt.toNat = 0 := by unfold s_lS; rw [show y4_2.toInt.toNat = y4_2.toNatClampNeg by omega, ← hs, if_neg (by omega)]
                                                            rw [hf] at hk
                                                            exact ⟨by omega, by omega⟩)) rfl
  refine ev_sub (lo := [(2, .int 0), (1, .int z3), (0, .ref 45)]) rfl (t_sc rfl (t_sc rfl (t_sc rfl t_sn))) ?_
  exact L4 _ gi gl gr (0) (z3) hI hX  (by decide : (0:Int) ≤ (0:Int32).toInt) (Int.le_trans (by decide : (0:Int32).toInt ≤ (0:Int)) (by decide : (0:Int) ≤ 6)) l3 (Int.le_trans u3 (by decide : (6:Int) ≤ 12)) rfl rfl (by have kf19 : (0 : Int32).toInt = 0 := (by decide); omega) (fun P Z hL hZ => (by
                                                            have hm := hL.1.1.2
                                                            have h4 := hZ.1.2.2.2.2
                                                            exact ⟨by have z0 : (0 : Int32).toInt = 0 := rfl; have := hL.1.2; omega, by show _ = P 0 1 - Z 4 + 0; omega⟩)) rfl
noncomputable def wl_k_endWhatIsOver : List (Nat × Nat) := [(45, 6), (45, 7), (45, 9), (45, 14)]
noncomputable def Q_k_endWhatIsOver (gi : Nat → Nat → Int32) (gl : Nat → Nat → Int64) (gr : Nat → Nat → Value) : (Nat → Nat → Int32) → (Nat → Nat → Int64) → (Nat → Nat → Value) → Prop := fun (gi2 : Nat → Nat → Int32) (gl2 : Nat → Nat → Int64) (gr2 : Nat → Nat → Value) => (∀ (P : Nat → Nat → Int) (Z : Nat → Int), t_KL P gi → t_CZ (P 0 0) Z gi → s_okz P Z → t_CZ (P 0 0) (s_en (gi 45 5).toInt Z) gi2)
theorem c_k_endWhatIsOver {X : x_Ext} {d : Nat} {sh : List (Nat ⊕ (Nat × Nat))} {gi : Nat → Nat → Int32} {gl : Nat → Nat → Int64} {gr : Nat → Nat → Value} (hI : t_I sh gi gr) : x_Me X (d + 1) n_X2_endWhatIsOver [.ref 45] (sh, gi, gl, gr) (t_PN wl_k_endWhatIsOver sh gi gl gr (Q_k_endWhatIsOver gi gl gr)) := by
  have hX : t_X wl_k_endWhatIsOver sh gi gl gr gi gl gr := t_X.rf
  refine me_i f_X2_endWhatIsOver (hI.wf.s rfl) rfl rfl rfl ?_
  obtain ⟨l1, u1⟩ := hI.b (hI.wf.s (k := 45) rfl) (t_bdK rfl : t_bd 2 5 = some (0, 301))
  refine ev_loc f_X2_endWhatIsOver (nx := 1) rfl rfl rfl rfl ?_
  refine ev_getI f_X2_endWhatIsOver (nx := 4) rfl (hI.wf.s rfl) rfl rfl rfl ?_
  refine ev_if f_X2_endWhatIsOver (t1 := 18) (t2 := 7) rfl rfl rfl (fun h2 => ?_) (fun h2 => ?_)
  · have u3 : (gi 45 7).toInt ≤ 0 := t_equ h2 (by decide : (0:Int32).toInt ≤ (0:Int))
    have l4 : 0 ≤ (gi 45 7).toInt := t_eql h2 (by decide : (0:Int) ≤ (0:Int32).toInt)
    exact ev_ret f_X2_endWhatIsOver rfl rfl rfl ⟨_, _, _, rfl, hI, hX, ⟨rfl, (show (∀ (P : Nat → Nat → Int) (Z : Nat → Int), t_KL P gi → t_CZ (P 0 0) Z gi → s_okz P Z → t_CZ (P 0 0) (s_en (gi 45 5).toInt Z) gi) from (fun P Z hL hZ hO => (by
                                                            obtain ⟨⟨z0, z1, z2, z3, z4⟩, -, -⟩ := id hZ
                                                            have ho := hO.1
                                                            have k0 : (0 : Int32).toInt = 0 := rfl
                                                            have k3 : (3 : Int32).toInt = 3 := rfl
                                                            exact hZ.en0 (by omega) (fun _ _ _ => rfl) rfl)))⟩⟩
  · have r5 : (gi 45 7).toInt ≠ 0 := fun e => h2 (Int32.toInt_inj.mp (e.trans (by decide : (0:Int) = (0 : Int32).toInt)))
    refine ev_loc f_X2_endWhatIsOver (nx := 8) rfl rfl rfl rfl ?_
    refine ev_getI f_X2_endWhatIsOver (nx := 11) rfl (hI.wf.s rfl) rfl rfl rfl ?_
    refine ev_loc f_X2_endWhatIsOver (nx := 12) rfl rfl rfl rfl ?_
    refine ev_gvI f_X2_endWhatIsOver (nx := 15) (w := (gi 45 5)) rfl (hI.wf.s rfl) rfl rfl rfl rfl ?_
    refine ev_if f_X2_endWhatIsOver (t1 := 19) (t2 := 18) rfl rfl rfl (fun h6 => ?_) (fun h6 => ?_)
    · have r7 : (gi 45 8).toInt ≤ (gi 45 5).toInt := Int32.le_iff_toInt_le.mp h6
      have u8 : (gi 45 8).toInt ≤ 301 := t_leu h6 u1
      refine ev_loc f_X2_endWhatIsOver (nx := 20) rfl rfl rfl rfl ?_
      refine ev_gvI f_X2_endWhatIsOver (nx := 23) (w := (gi 45 7)) rfl (hI.wf.s rfl) rfl rfl rfl rfl ?_
      refine ev_ic f_X2_endWhatIsOver (nx := 24) (v := 3) rfl (by decide) rfl ?_
      refine ev_if f_X2_endWhatIsOver (t1 := 27) (t2 := 54) rfl rfl rfl (fun h9 => ?_) (fun h9 => ?_)
      · have u10 : (gi 45 7).toInt ≤ 3 := t_equ h9 (by decide : (3:Int32).toInt ≤ (3:Int))
        have l11 : 3 ≤ (gi 45 7).toInt := t_eql h9 (by decide : (3:Int) ≤ (3:Int32).toInt)
        refine ev_loc f_X2_endWhatIsOver (nx := 28) rfl rfl rfl rfl ?_
        refine ev_loc f_X2_endWhatIsOver (nx := 29) rfl rfl rfl rfl ?_
        refine ev_getI f_X2_endWhatIsOver (nx := 32) rfl (hI.wf.s rfl) rfl rfl rfl ?_
        refine ev_if f_X2_endWhatIsOver (t1 := 35) (t2 := 39) rfl rfl rfl (fun h12 => ?_) (fun h12 => ?_)
        · have u13 : (gi 45 6).toInt ≤ 0 := t_equ h12 (by decide : (0:Int32).toInt ≤ (0:Int))
          have l14 : 0 ≤ (gi 45 6).toInt := t_eql h12 (by decide : (0:Int) ≤ (0:Int32).toInt)
          refine ev_ic f_X2_endWhatIsOver (nx := 36) (v := 1) rfl (by decide) rfl ?_
          refine ev_jmp f_X2_endWhatIsOver (nx := 40) rfl rfl rfl ?_
          refine ev_putZT f_X2_endWhatIsOver (nx := 43) rfl (hI.wf.s rfl) rfl rfl (Int.le_trans (by decide : (0:Int) ≤ 1) (by decide : (1:Int) ≤ (1:Int32).toInt)) (by decide : (1:Int32).toInt ≤ (1:Int)) rfl (hI.put0 (hI.wf.s rfl) rfl rfl) (hX.upI rfl) (fun g15 e15 hI hX => ?_)
          refine ev_loc f_X2_endWhatIsOver (nx := 44) rfl rfl rfl rfl ?_
          refine ev_loc f_X2_endWhatIsOver (nx := 45) rfl rfl rfl rfl ?_
          refine ev_gvI f_X2_endWhatIsOver (nx := 48) (w := (gi 45 8)) rfl (hI.wf.s rfl) rfl rfl ((by rw [e15]; exact x_up2_off (Or.inr (by decide)) : g15 45 8 = gi 45 8).trans rfl) rfl ?_
          refine ev_putIT f_X2_endWhatIsOver (nx := 51) rfl (hI.wf.s rfl) rfl rfl rfl (hI.put0 (hI.wf.s rfl) rfl rfl) (hX.upI rfl) (fun g16 e16 hI hX => ?_)
          refine ev_jmp f_X2_endWhatIsOver (nx := 72) rfl rfl rfl ?_
          refine ev_loc f_X2_endWhatIsOver (nx := 73) rfl rfl rfl rfl ?_
          refine ev_ic f_X2_endWhatIsOver (nx := 74) (v := 0) rfl (by decide) rfl ?_
          refine ev_putIT f_X2_endWhatIsOver (nx := 77) rfl (hI.wf.s rfl) rfl rfl rfl (hI.put0 (hI.wf.s rfl) rfl rfl) (hX.upI rfl) (fun g17 e17 hI hX => ?_)
          exact ev_ret f_X2_endWhatIsOver rfl rfl rfl ⟨_, _, _, rfl, hI, hX, ⟨rfl, (show (∀ (P : Nat → Nat → Int) (Z : Nat → Int), t_KL P gi → t_CZ (P 0 0) Z gi → s_okz P Z → t_CZ (P 0 0) (s_en (gi 45 5).toInt Z) g17) from (fun P Z hL hZ hO => (by
                                                            obtain ⟨⟨z0, z1, z2, z3, z4⟩, -, -⟩ := id hZ
                                                            have ho := hO.1
                                                            have k0 : (0 : Int32).toInt = 0 := rfl
                                                            have k3 : (3 : Int32).toInt = 3 := rfl
                                                            exact hZ.en3 (by omega) (by omega) (by rw [e17, x_up2_off (Or.inr (by decide)), e16, x_up2_off (Or.inr (by decide)), e15, x_up2_at]; have ko : (1 : Int32).toInt = 1 := rfl; omega) (by rw [e17, x_up2_at]; rfl) (by rw [e17, x_up2_off (Or.inr (by decide)), e16, x_up2_off (Or.inr (by decide)), e15, x_up2_off (Or.inr (by decide))]) (by rw [e17, x_up2_off (Or.inr (by decide)), e16, x_up2_at]) (fun j a b => by rw [e17, x_up2_off (Or.inr (by omega)), e16, x_up2_off (Or.inr (by omega)), e15, x_up2_off (Or.inr (by omega))]) (funext fun j => by rw [e17, x_up2_off (Or.inl (by decide)), e16, x_up2_off (Or.inl (by decide)), e15, x_up2_off (Or.inl (by decide))]))))⟩⟩
        · have r18 : (gi 45 6).toInt ≠ 0 := fun e => h12 (Int32.toInt_inj.mp (e.trans (by decide : (0:Int) = (0 : Int32).toInt)))
          refine ev_ic f_X2_endWhatIsOver (nx := 40) (v := 0) rfl (by decide) rfl ?_
          refine ev_putZT f_X2_endWhatIsOver (nx := 43) rfl (hI.wf.s rfl) rfl rfl (by decide : (0:Int) ≤ (0:Int32).toInt) (Int.le_trans (by decide : (0:Int32).toInt ≤ (0:Int)) (by decide : (0:Int) ≤ 1)) rfl (hI.put0 (hI.wf.s rfl) rfl rfl) (hX.upI rfl) (fun g19 e19 hI hX => ?_)
          refine ev_loc f_X2_endWhatIsOver (nx := 44) rfl rfl rfl rfl ?_
          refine ev_loc f_X2_endWhatIsOver (nx := 45) rfl rfl rfl rfl ?_
          refine ev_gvI f_X2_endWhatIsOver (nx := 48) (w := (gi 45 8)) rfl (hI.wf.s rfl) rfl rfl ((by rw [e19]; exact x_up2_off (Or.inr (by decide)) : g19 45 8 = gi 45 8).trans rfl) rfl ?_
          refine ev_putIT f_X2_endWhatIsOver (nx := 51) rfl (hI.wf.s rfl) rfl rfl rfl (hI.put0 (hI.wf.s rfl) rfl rfl) (hX.upI rfl) (fun g20 e20 hI hX => ?_)
          refine ev_jmp f_X2_endWhatIsOver (nx := 72) rfl rfl rfl ?_
          refine ev_loc f_X2_endWhatIsOver (nx := 73) rfl rfl rfl rfl ?_
          refine ev_ic f_X2_endWhatIsOver (nx := 74) (v := 0) rfl (by decide) rfl ?_
          refine ev_putIT f_X2_endWhatIsOver (nx := 77) rfl (hI.wf.s rfl) rfl rfl rfl (hI.put0 (hI.wf.s rfl) rfl rfl) (hX.upI rfl) (fun g21 e21 hI hX => ?_)
          exact ev_ret f_X2_endWhatIsOver rfl rfl rfl ⟨_, _, _, rfl, hI, hX, ⟨rfl, (show (∀ (P : Nat → Nat → Int) (Z : Nat → Int), t_KL P gi → t_CZ (P 0 0) Z gi → s_okz P Z → t_CZ (P 0 0) (s_en (gi 45 5).toInt Z) g21) from (fun P Z hL hZ hO => (by
                                                            obtain ⟨⟨z0, z1, z2, z3, z4⟩, -, -⟩ := id hZ
                                                            have ho := hO.1
                                                            have k0 : (0 : Int32).toInt = 0 := rfl
                                                            have k3 : (3 : Int32).toInt = 3 := rfl
                                                            exact hZ.en3 (by omega) (by omega) (by rw [e21, x_up2_off (Or.inr (by decide)), e20, x_up2_off (Or.inr (by decide)), e19, x_up2_at]; have ko : (0 : Int32).toInt = 0 := rfl; omega) (by rw [e21, x_up2_at]; rfl) (by rw [e21, x_up2_off (Or.inr (by decide)), e20, x_up2_off (Or.inr (by decide)), e19, x_up2_off (Or.inr (by decide))]) (by rw [e21, x_up2_off (Or.inr (by decide)), e20, x_up2_at]) (fun j a b => by rw [e21, x_up2_off (Or.inr (by omega)), e20, x_up2_off (Or.inr (by omega)), e19, x_up2_off (Or.inr (by omega))]) (funext fun j => by rw [e21, x_up2_off (Or.inl (by decide)), e20, x_up2_off (Or.inl (by decide)), e19, x_up2_off (Or.inl (by decide))]))))⟩⟩
      · have r22 : (gi 45 7).toInt ≠ 3 := fun e => h9 (Int32.toInt_inj.mp (e.trans (by decide : (3:Int) = (3 : Int32).toInt)))
        refine ev_loc f_X2_endWhatIsOver (nx := 55) rfl rfl rfl rfl ?_
        refine ev_gvI f_X2_endWhatIsOver (nx := 58) (w := (gi 45 7)) rfl (hI.wf.s rfl) rfl rfl rfl rfl ?_
        refine ev_ic f_X2_endWhatIsOver (nx := 59) (v := 1) rfl (by decide) rfl ?_
        refine ev_if f_X2_endWhatIsOver (t1 := 62) (t2 := 72) rfl rfl rfl (fun h23 => ?_) (fun h23 => ?_)
        · have u24 : (gi 45 7).toInt ≤ 1 := t_equ h23 (by decide : (1:Int32).toInt ≤ (1:Int))
          have l25 : 1 ≤ (gi 45 7).toInt := t_eql h23 (by decide : (1:Int) ≤ (1:Int32).toInt)
          refine ev_loc f_X2_endWhatIsOver (nx := 63) rfl rfl rfl rfl ?_
          refine ev_alu f_X2_endWhatIsOver (nx := 64) rfl rfl rfl rfl ?_
          refine ev_getI f_X2_endWhatIsOver (nx := 67) rfl (hI.wf.s rfl) rfl rfl rfl ?_
          refine ev_ic f_X2_endWhatIsOver (nx := 68) (v := 1) rfl (by decide) rfl ?_
          refine ev_anyIE f_X2_endWhatIsOver (nx := 69) rfl rfl rfl rfl (fun z26 e26 => ?_)
          refine ev_putIT f_X2_endWhatIsOver (nx := 72) rfl (hI.wf.s rfl) rfl rfl rfl (hI.put0 (hI.wf.s rfl) rfl rfl) (hX.upI rfl) (fun g27 e27 hI hX => ?_)
          refine ev_loc f_X2_endWhatIsOver (nx := 73) rfl rfl rfl rfl ?_
          refine ev_ic f_X2_endWhatIsOver (nx := 74) (v := 0) rfl (by decide) rfl ?_
          refine ev_putIT f_X2_endWhatIsOver (nx := 77) rfl (hI.wf.s rfl) rfl rfl rfl (hI.put0 (hI.wf.s rfl) rfl rfl) (hX.upI rfl) (fun g28 e28 hI hX => ?_)
          exact ev_ret f_X2_endWhatIsOver rfl rfl rfl ⟨_, _, _, rfl, hI, hX, ⟨rfl, (show (∀ (P : Nat → Nat → Int) (Z : Nat → Int), t_KL P gi → t_CZ (P 0 0) Z gi → s_okz P Z → t_CZ (P 0 0) (s_en (gi 45 5).toInt Z) g28) from (fun P Z hL hZ hO => (by
                                                            obtain ⟨⟨z0, z1, z2, z3, z4⟩, -, -⟩ := id hZ
                                                            have ho := hO.1
                                                            have k0 : (0 : Int32).toInt = 0 := rfl
                                                            have k3 : (3 : Int32).toInt = 3 := rfl
                                                            exact hZ.en1 (by omega) (by omega) (fun j a b c => by rw [e28, x_up2_off (Or.inr (by omega)), e27, x_up2_off (Or.inr (by omega))]) (by rw [e28, x_up2_at]; rfl) (funext fun j => by rw [e28, x_up2_off (Or.inl (by decide)), e27, x_up2_off (Or.inl (by decide))]))))⟩⟩
        · have r29 : (gi 45 7).toInt ≠ 1 := fun e => h23 (Int32.toInt_inj.mp (e.trans (by decide : (1:Int) = (1 : Int32).toInt)))
          refine ev_loc f_X2_endWhatIsOver (nx := 73) rfl rfl rfl rfl ?_
          refine ev_ic f_X2_endWhatIsOver (nx := 74) (v := 0) rfl (by decide) rfl ?_
          refine ev_putIT f_X2_endWhatIsOver (nx := 77) rfl (hI.wf.s rfl) rfl rfl rfl (hI.put0 (hI.wf.s rfl) rfl rfl) (hX.upI rfl) (fun g30 e30 hI hX => ?_)
          exact ev_ret f_X2_endWhatIsOver rfl rfl rfl ⟨_, _, _, rfl, hI, hX, ⟨rfl, (show (∀ (P : Nat → Nat → Int) (Z : Nat → Int), t_KL P gi → t_CZ (P 0 0) Z gi → s_okz P Z → t_CZ (P 0 0) (s_en (gi 45 5).toInt Z) g30) from (fun P Z hL hZ hO => (by
                                                            obtain ⟨⟨z0, z1, z2, z3, z4⟩, -, -⟩ := id hZ
                                                            have ho := hO.1
                                                            have k0 : (0 : Int32).toInt = 0 := rfl
                                                            have k3 : (3 : Int32).toInt = 3 := rfl
                                                            exact hZ.en1 (by omega) (by omega) (fun j a b c => by rw [e30, x_up2_off (Or.inr (by omega))]) (by rw [e30, x_up2_at]; rfl) (funext fun j => by rw [e30, x_up2_off (Or.inl (by decide))]))))⟩⟩
    · have r31 : (gi 45 5).toInt < (gi 45 8).toInt := Int32.lt_iff_toInt_lt.mp (t_nle h6)
      have l32 : 1 ≤ (gi 45 8).toInt := t_ltl (t_nle h6) l1 rfl
      exact ev_ret f_X2_endWhatIsOver rfl rfl rfl ⟨_, _, _, rfl, hI, hX, ⟨rfl, (show (∀ (P : Nat → Nat → Int) (Z : Nat → Int), t_KL P gi → t_CZ (P 0 0) Z gi → s_okz P Z → t_CZ (P 0 0) (s_en (gi 45 5).toInt Z) gi) from (fun P Z hL hZ hO => (by
                                                            obtain ⟨⟨z0, z1, z2, z3, z4⟩, -, -⟩ := id hZ
                                                            have ho := hO.1
                                                            have k0 : (0 : Int32).toInt = 0 := rfl
                                                            have k3 : (3 : Int32).toInt = 3 := rfl
                                                            exact hZ.en0 (by omega) (fun _ _ _ => rfl) rfl)))⟩⟩
noncomputable def wl_k_strikeIfDue : List (Nat × Nat) := [(45, 12), (58, 9999)]
noncomputable def Q_k_strikeIfDue (gi : Nat → Nat → Int32) (gl : Nat → Nat → Int64) (gr : Nat → Nat → Value) (ar1 : Int32) : (Nat → Nat → Int32) → (Nat → Nat → Int64) → (Nat → Nat → Value) → Prop := fun (gi2 : Nat → Nat → Int32) (gl2 : Nat → Nat → Int64) (gr2 : Nat → Nat → Value) => (∀ (P : Nat → Nat → Int) (Z : Nat → Int), t_KL P gi → t_CZ (P 0 0) Z gi → 0 ≤ ar1.toInt → ar1.toInt < P 0 0 → t_CZ (P 0 0) (s_k2 P (gi 45 5).toInt Z ar1.toNatClampNeg) gi2)
theorem c_k_strikeIfDue {X : x_Ext} {d : Nat} {sh : List (Nat ⊕ (Nat × Nat))} {gi : Nat → Nat → Int32} {gl : Nat → Nat → Int64} {gr : Nat → Nat → Value} (hI : t_I sh gi gr) (ar1 : Int32) : x_Me X (d + 1) n_X2_strikeIfDue [.ref 45, .int ar1] (sh, gi, gl, gr) (t_PN wl_k_strikeIfDue sh gi gl gr (Q_k_strikeIfDue gi gl gr ar1)) := by
  have hX : t_X wl_k_strikeIfDue sh gi gl gr gi gl gr := t_X.rf
  refine me_i f_X2_strikeIfDue (hI.wf.s rfl) rfl rfl rfl ?_
  obtain ⟨l1, u1⟩ := hI.b (hI.wf.s (k := 45) rfl) (t_bdK rfl : t_bd 2 5 = some (0, 301))
  refine ev_loc f_X2_strikeIfDue (nx := 1) rfl rfl rfl rfl ?_
  refine ev_if f_X2_strikeIfDue (t1 := 69) (t2 := 4) rfl rfl rfl (fun h2 => ?_) (fun h2 => ?_)
  · have u3 : ar1.toInt ≤ (-1) := t_ltu h2 (by decide : (0:Int32).toInt ≤ (0:Int)) rfl
    exact ev_ret f_X2_strikeIfDue rfl rfl rfl ⟨_, _, _, rfl, hI, hX, ⟨rfl, (show (∀ (P : Nat → Nat → Int) (Z : Nat → Int), t_KL P gi → t_CZ (P 0 0) Z gi → 0 ≤ ar1.toInt → ar1.toInt < P 0 0 → t_CZ (P 0 0) (s_k2 P (gi 45 5).toInt Z ar1.toNatClampNeg) gi) from (fun P Z hL hZ a0 a1 => (by
                                                            have hc := t_clamp (i := ar1) a0
                                                            obtain ⟨l1, l2, l3, l4⟩ := hL.2.1 ar1.toNatClampNeg (by omega)
                                                            have hs := hZ.2.2 ar1.toNatClampNeg (by omega)
                                                            have hm := hL.1.1.1
                                                            rw [show s_k2 P (gi 45 5).toInt Z ar1.toNatClampNeg = Z from if_neg (fun hh => by have p1 := hh.1; have p2 := hh.2.1; have p3 := hh.2.2; omega)]
                                                            exact hZ)))⟩⟩
  · have l4 : 0 ≤ ar1.toInt := t_lel (t_nlt h2) (by decide : (0:Int) ≤ (0:Int32).toInt)
    refine ev_loc f_X2_strikeIfDue (nx := 5) rfl rfl rfl rfl ?_
    refine ev_loc f_X2_strikeIfDue (nx := 6) rfl rfl rfl rfl ?_
    refine ev_getR f_X2_strikeIfDue (nx := 9) rfl (hI.wf.s rfl) rfl rfl (hI.wf.r rfl) rfl rfl ?_
    refine ev_getI f_X2_strikeIfDue (nx := 12) rfl (hI.wf.s rfl) rfl rfl rfl ?_
    obtain ⟨l5, u5⟩ := hI.b (hI.wf.s (k := 46) rfl) (t_bdK rfl : t_bd 3 0 = some (0, 6))
    refine ev_if f_X2_strikeIfDue (t1 := 69) (t2 := 15) rfl rfl rfl (fun h6 => ?_) (fun h6 => ?_)
    · have r7 : (gi 46 0).toInt ≤ ar1.toInt := Int32.le_iff_toInt_le.mp h6
      exact ev_ret f_X2_strikeIfDue rfl rfl rfl ⟨_, _, _, rfl, hI, hX, ⟨rfl, (show (∀ (P : Nat → Nat → Int) (Z : Nat → Int), t_KL P gi → t_CZ (P 0 0) Z gi → 0 ≤ ar1.toInt → ar1.toInt < P 0 0 → t_CZ (P 0 0) (s_k2 P (gi 45 5).toInt Z ar1.toNatClampNeg) gi) from (fun P Z hL hZ a0 a1 => (by
                                                            have hc := t_clamp (i := ar1) a0
                                                            obtain ⟨l1, l2, l3, l4⟩ := hL.2.1 ar1.toNatClampNeg (by omega)
                                                            have hs := hZ.2.2 ar1.toNatClampNeg (by omega)
                                                            have hm := hL.1.1.1
                                                            rw [show s_k2 P (gi 45 5).toInt Z ar1.toNatClampNeg = Z from if_neg (fun hh => by have p1 := hh.1; have p2 := hh.2.1; have p3 := hh.2.2; omega)]
                                                            exact hZ)))⟩⟩
    · have r8 : ar1.toInt < (gi 46 0).toInt := Int32.lt_iff_toInt_lt.mp (t_nle h6)
      have u9 : ar1.toInt ≤ 5 := t_ltu (t_nle h6) u5 rfl
      have l10 : 1 ≤ (gi 46 0).toInt := t_ltl (t_nle h6) l4 rfl
      refine ev_loc f_X2_strikeIfDue (nx := 16) rfl rfl rfl rfl ?_
      refine ev_getR f_X2_strikeIfDue (nx := 19) rfl (hI.wf.s rfl) rfl rfl (hI.wf.r rfl) rfl rfl ?_
      refine ev_getR f_X2_strikeIfDue (nx := 22) rfl (hI.wf.s rfl) rfl rfl (hI.wf.r rfl) rfl rfl ?_
      refine ev_loc f_X2_strikeIfDue (nx := 23) rfl rfl rfl rfl ?_
      refine ev_baldT f_X2_strikeIfDue (nx := 24) rfl (hI.wf.s rfl) rfl l4 (by decide) u9 (by decide) rfl (fun w11 e11 => ?_)
      refine ev_if f_X2_strikeIfDue (t1 := 69) (t2 := 27) rfl rfl rfl (fun h12 => ?_) (fun h12 => ?_)
      · have u13 : w11.toInt ≤ 0 := t_equ h12 (by decide : (0:Int32).toInt ≤ (0:Int))
        have l14 : 0 ≤ w11.toInt := t_eql h12 (by decide : (0:Int) ≤ (0:Int32).toInt)
        exact ev_ret f_X2_strikeIfDue rfl rfl rfl ⟨_, _, _, rfl, hI, hX, ⟨rfl, (show (∀ (P : Nat → Nat → Int) (Z : Nat → Int), t_KL P gi → t_CZ (P 0 0) Z gi → 0 ≤ ar1.toInt → ar1.toInt < P 0 0 → t_CZ (P 0 0) (s_k2 P (gi 45 5).toInt Z ar1.toNatClampNeg) gi) from (fun P Z hL hZ a0 a1 => (by
                                                            have hc := t_clamp (i := ar1) a0
                                                            obtain ⟨l1, l2, l3, l4⟩ := hL.2.1 ar1.toNatClampNeg (by omega)
                                                            have hs := hZ.2.2 ar1.toNatClampNeg (by omega)
                                                            have hm := hL.1.1.1
                                                            have w24_ := congrArg Int32.toInt e11
                                                            rw [show s_k2 P (gi 45 5).toInt Z ar1.toNatClampNeg = Z from if_neg (fun hh => by have p1 := hh.1; have p2 := hh.2.1; have p3 := hh.2.2; omega)]
                                                            exact hZ)))⟩⟩
      · have r15 : w11.toInt ≠ 0 := fun e => h12 (Int32.toInt_inj.mp (e.trans (by decide : (0:Int) = (0 : Int32).toInt)))
        refine ev_loc f_X2_strikeIfDue (nx := 28) rfl rfl rfl rfl ?_
        refine ev_getR f_X2_strikeIfDue (nx := 31) rfl (hI.wf.s rfl) rfl rfl (hI.wf.r rfl) rfl rfl ?_
        refine ev_getR f_X2_strikeIfDue (nx := 34) rfl (hI.wf.s rfl) rfl rfl (hI.wf.r rfl) rfl rfl ?_
        refine ev_loc f_X2_strikeIfDue (nx := 35) rfl rfl rfl rfl ?_
        refine ev_ialdT f_X2_strikeIfDue (nx := 36) rfl (hI.wf.s rfl) l4 (by decide) u9 (by decide) rfl (fun w16 e16 => ?_)
        refine ev_loc f_X2_strikeIfDue (nx := 37) rfl rfl rfl rfl ?_
        refine ev_gvI f_X2_strikeIfDue (nx := 40) (w := (gi 45 5)) rfl (hI.wf.s rfl) rfl rfl rfl rfl ?_
        refine ev_if f_X2_strikeIfDue (t1 := 43) (t2 := 69) rfl rfl rfl (fun h17 => ?_) (fun h17 => ?_)
        · have r18 : w16.toInt = (gi 45 5).toInt := t_eqi h17
          have u19 : w16.toInt ≤ 301 := t_equ h17 u1
          have l20 : 0 ≤ w16.toInt := t_eql h17 l1
          refine ev_loc f_X2_strikeIfDue (nx := 44) rfl rfl rfl rfl ?_
          refine ev_getR f_X2_strikeIfDue (nx := 47) rfl (hI.wf.s rfl) rfl rfl (hI.wf.r rfl) rfl rfl ?_
          refine ev_loc f_X2_strikeIfDue (nx := 48) rfl rfl rfl rfl ?_
          refine ev_ialdT f_X2_strikeIfDue (nx := 49) rfl (hI.wf.s rfl) l4 (by decide) u9 (by decide) rfl (fun w21 e21 => ?_)
          refine ev_if f_X2_strikeIfDue (t1 := 52) (t2 := 69) rfl rfl rfl (fun h22 => ?_) (fun h22 => ?_)
          · have u23 : w21.toInt ≤ 0 := t_equ h22 (by decide : (0:Int32).toInt ≤ (0:Int))
            have l24 : 0 ≤ w21.toInt := t_eql h22 (by decide : (0:Int) ≤ (0:Int32).toInt)
            refine ev_loc f_X2_strikeIfDue (nx := 53) rfl rfl rfl rfl ?_
            refine ev_getR f_X2_strikeIfDue (nx := 56) rfl (hI.wf.s rfl) rfl rfl (hI.wf.r rfl) rfl rfl ?_
            refine ev_loc f_X2_strikeIfDue (nx := 57) rfl rfl rfl rfl ?_
            refine ev_ic f_X2_strikeIfDue (nx := 58) (v := 2) rfl (by decide) rfl ?_
            refine ev_iastT f_X2_strikeIfDue (nx := 59) rfl (hI.wf.s rfl) l4 (by decide) u9 (by decide) rfl (hI.astO (hI.wf.s rfl) (Or.inl (by decide)) (by decide +kernel)) (hX.upI (t_inA_ok rfl)) (fun g25 e25 hI hX => ?_)
            refine ev_loc f_X2_strikeIfDue (nx := 60) rfl rfl rfl rfl ?_
            refine ev_alu f_X2_strikeIfDue (nx := 61) rfl rfl rfl rfl ?_
            refine ev_getI f_X2_strikeIfDue (nx := 64) rfl (hI.wf.s rfl) rfl rfl rfl ?_
            refine ev_ic f_X2_strikeIfDue (nx := 65) (v := 1) rfl (by decide) rfl ?_
            refine ev_anyIE f_X2_strikeIfDue (nx := 66) rfl rfl rfl rfl (fun z26 e26 => ?_)
            refine ev_putIT f_X2_strikeIfDue (nx := 69) rfl (hI.wf.s rfl) rfl rfl rfl (hI.put0 (hI.wf.s rfl) rfl rfl) (hX.upI rfl) (fun g27 e27 hI hX => ?_)
            exact ev_ret f_X2_strikeIfDue rfl rfl rfl ⟨_, _, _, rfl, hI, hX, ⟨rfl, (show (∀ (P : Nat → Nat → Int) (Z : Nat → Int), t_KL P gi → t_CZ (P 0 0) Z gi → 0 ≤ ar1.toInt → ar1.toInt < P 0 0 → t_CZ (P 0 0) (s_k2 P (gi 45 5).toInt Z ar1.toNatClampNeg) g27) from (fun P Z hL hZ a0 a1 => (by
                                                            have hc := t_clamp (i := ar1) a0
                                                            obtain ⟨l1, l2, l3, l4⟩ := hL.2.1 ar1.toNatClampNeg (by omega)
                                                            have hs := hZ.2.2 ar1.toNatClampNeg (by omega)
                                                            have hm := hL.1.1.1
                                                            have w24_ := congrArg Int32.toInt e11
                                                            have w36_ := congrArg Int32.toInt e16
                                                            have w49_ := congrArg Int32.toInt e21
                                                            rw [show s_k2 P (gi 45 5).toInt Z ar1.toNatClampNeg = s_z (s_z Z (10 + ar1.toNatClampNeg) 2) 6 (Z 6 + 1) from if_pos ⟨by omega, by omega, by omega⟩]
                                                            refine hZ.k2 (by omega) (fun j => ?_) (fun j hj => ?_) ?_
                                                            · rw [e27, x_up2_off (Or.inl (by decide)), e25]; by_cases hj : j = ar1.toNatClampNeg; (rw [if_pos hj, hj, x_up2_at]); (rw [if_neg hj, x_up2_off (Or.inr hj)])
                                                            · rw [e27, x_up2_off (Or.inr hj), e25, x_up2_off (Or.inl (by decide))]
                                                            · rw [e27, x_up2_at]; first | exact e26 | rw [e26, e25, x_up2_off (Or.inl (by decide))])))⟩⟩
          · have r28 : w21.toInt ≠ 0 := fun e => h22 (Int32.toInt_inj.mp (e.trans (by decide : (0:Int) = (0 : Int32).toInt)))
            exact ev_ret f_X2_strikeIfDue rfl rfl rfl ⟨_, _, _, rfl, hI, hX, ⟨rfl, (show (∀ (P : Nat → Nat → Int) (Z : Nat → Int), t_KL P gi → t_CZ (P 0 0) Z gi → 0 ≤ ar1.toInt → ar1.toInt < P 0 0 → t_CZ (P 0 0) (s_k2 P (gi 45 5).toInt Z ar1.toNatClampNeg) gi) from (fun P Z hL hZ a0 a1 => (by
                                                            have hc := t_clamp (i := ar1) a0
                                                            obtain ⟨l1, l2, l3, l4⟩ := hL.2.1 ar1.toNatClampNeg (by omega)
                                                            have hs := hZ.2.2 ar1.toNatClampNeg (by omega)
                                                            have hm := hL.1.1.1
                                                            have w24_ := congrArg Int32.toInt e11
                                                            have w36_ := congrArg Int32.toInt e16
                                                            have w49_ := congrArg Int32.toInt e21
                                                            rw [show s_k2 P (gi 45 5).toInt Z ar1.toNatClampNeg = Z from if_neg (fun hh => by have p1 := hh.1; have p2 := hh.2.1; have p3 := hh.2.2; omega)]
                                                            exact hZ)))⟩⟩
        · have r29 : w16.toInt ≠ (gi 45 5).toInt := t_nei h17
          exact ev_ret f_X2_strikeIfDue rfl rfl rfl ⟨_, _, _, rfl, hI, hX, ⟨rfl, (show (∀ (P : Nat → Nat → Int) (Z : Nat → Int), t_KL P gi → t_CZ (P 0 0) Z gi → 0 ≤ ar1.toInt → ar1.toInt < P 0 0 → t_CZ (P 0 0) (s_k2 P (gi 45 5).toInt Z ar1.toNatClampNeg) gi) from (fun P Z hL hZ a0 a1 => (by
                                                            have hc := t_clamp (i := ar1) a0
                                                            obtain ⟨l1, l2, l3, l4⟩ := hL.2.1 ar1.toNatClampNeg (by omega)
                                                            have hs := hZ.2.2 ar1.toNatClampNeg (by omega)
                                                            have hm := hL.1.1.1
                                                            have w24_ := congrArg Int32.toInt e11
                                                            have w36_ := congrArg Int32.toInt e16
                                                            rw [show s_k2 P (gi 45 5).toInt Z ar1.toNatClampNeg = Z from if_neg (fun hh => by have p1 := hh.1; have p2 := hh.2.1; have p3 := hh.2.2; omega)]
                                                            exact hZ)))⟩⟩
noncomputable def wl_k_strikeSails : List (Nat × Nat) := [(45, 12), (58, 9999)]
noncomputable def Q_k_strikeSails (gi : Nat → Nat → Int32) (gl : Nat → Nat → Int64) (gr : Nat → Nat → Value) : (Nat → Nat → Int32) → (Nat → Nat → Int64) → (Nat → Nat → Value) → Prop := fun (gi2 : Nat → Nat → Int32) (gl2 : Nat → Nat → Int64) (gr2 : Nat → Nat → Value) => (∀ (P : Nat → Nat → Int) (Z : Nat → Int), t_KL P gi → t_CZ (P 0 0) Z gi → s_okz P Z → t_CZ (P 0 0) (s_skz P (gi 45 5).toInt (P 0 0).toNat 0 Z) gi2)
theorem c_k_strikeSails {X : x_Ext} {d : Nat} {sh : List (Nat ⊕ (Nat × Nat))} {gi : Nat → Nat → Int32} {gl : Nat → Nat → Int64} {gr : Nat → Nat → Value} (hI : t_I sh gi gr) : x_Me X (d + 2) n_X2_strikeSails [.ref 45] (sh, gi, gl, gr) (t_PN wl_k_strikeSails sh gi gl gr (Q_k_strikeSails gi gl gr)) := by
  have hX : t_X wl_k_strikeSails sh gi gl gr gi gl gr := t_X.rf
  refine me_i f_X2_strikeSails (hI.wf.s rfl) rfl rfl rfl ?_
  obtain ⟨l1, u1⟩ := hI.b (hI.wf.s (k := 45) rfl) (t_bdK rfl : t_bd 2 5 = some (0, 301))
  refine ev_ic f_X2_strikeSails (nx := 1) (v := 0) rfl (by decide) rfl ?_
  refine ev_loc f_X2_strikeSails (nx := 2) (lo' := [(1, .int 0), (0, .ref 45)]) rfl rfl rfl rfl ?_
  have L2 : ∀ (m2 : Nat) (gi2 : Nat → Nat → Int32) (gl2 : Nat → Nat → Int64) (gr2 : Nat → Nat → Value) (y2_1 : Int32), t_I sh gi2 gr2 → t_X wl_k_strikeSails sh gi gl gr gi2 gl2 gr2 → 0 ≤ y2_1.toInt → y2_1.toInt ≤ 6 → gi2 45 5 = (gi 45 5) → (∀ (P : Nat → Nat → Int) (Z : Nat → Int), t_KL P gi → t_CZ (P 0 0) Z gi → s_okz P Z → ∃ Y, t_CZ (P 0 0) Y gi2 ∧ s_skz P (gi 45 5).toInt ((P 0 0).toNat - y2_1.toNatClampNeg) y2_1.toNatClampNeg Y = s_skz P (gi 45 5).toInt (P 0 0).toNat 0 Z ∧ s_okz P Y ∧ y2_1.toInt ≤ P 0 0) → (6 - y2_1.toInt).toNat = m2 → x_Ev X (d + 2) n_X2_strikeSails 2 [(1, .int y2_1), (0, .ref 45)] [] (sh, gi2, gl2, gr2) (t_PN wl_k_strikeSails sh gi gl gr (Q_k_strikeSails gi gl gr)) := by
    intro m2
    induction m2 using Nat.strongRecOn with
    | _ m2 ih2 =>
    intro gi2 gl2 gr2 y2_1 hI hX l2_1 u2_1 c2_0 j2_0 hm2
    refine ev_loc f_X2_strikeSails (nx := 3) rfl rfl rfl rfl ?_
    refine ev_loc f_X2_strikeSails (nx := 4) rfl rfl rfl rfl ?_
    refine ev_getR f_X2_strikeSails (nx := 7) rfl (hI.wf.s rfl) rfl rfl (hI.wf.r rfl) rfl rfl ?_
    refine ev_getI f_X2_strikeSails (nx := 10) rfl (hI.wf.s rfl) rfl rfl rfl ?_
    obtain ⟨l3, u3⟩ := hI.b (hI.wf.s (k := 46) rfl) (t_bdK rfl : t_bd 3 0 = some (0, 6))
    refine ev_if f_X2_strikeSails (t1 := 56) (t2 := 13) rfl rfl rfl (fun h4 => ?_) (fun h4 => ?_)
    · have r5 : (gi2 46 0).toInt ≤ y2_1.toInt := Int32.le_iff_toInt_le.mp h4
      exact ev_ret f_X2_strikeSails rfl rfl rfl ⟨_, _, _, rfl, hI, hX, ⟨rfl, (show (∀ (P : Nat → Nat → Int) (Z : Nat → Int), t_KL P gi → t_CZ (P 0 0) Z gi → s_okz P Z → t_CZ (P 0 0) (s_skz P (gi 45 5).toInt (P 0 0).toNat 0 Z) gi2) from (fun P Z hL hZ hO => (by
                                                            obtain ⟨Y, h1, h2, hOY, h3⟩ := j2_0 P Z hL hZ hO
                                                            have hXX := hX
                                                            have hL1 := hL.fr (congrFun (t_F_nc (t_F_X hXX) rfl (by decide)) 0) (congrFun (t_F_nc (t_F_X hXX) rfl (by decide)) 0) (t_F_nc (t_F_X hXX) rfl (by decide)) (t_F_nc (t_F_X hXX) rfl (by decide)) (t_F_nc (t_F_X hXX) rfl (by decide)) (t_F_nc (t_F_X hXX) rfl (by decide)) (t_F_nc (t_F_X hXX) rfl (by decide)) (t_F_nc (t_F_X hXX) rfl (by decide)) (t_F_nc (t_F_X hXX) rfl (by decide))
                                                            have hm := hL1.1.1.1
                                                            have c0 := t_clamp (i := y2_1) (by omega)
                                                            rw [show (P 0 0).toNat - y2_1.toNatClampNeg = 0 by omega] at h2
                                                            rw [← h2]
                                                            exact h1)))⟩⟩
    · have r6 : y2_1.toInt < (gi2 46 0).toInt := Int32.lt_iff_toInt_lt.mp (t_nle h4)
      have u7 : y2_1.toInt ≤ 5 := t_ltu (t_nle h4) u3 rfl
      have l8 : 1 ≤ (gi2 46 0).toInt := t_ltl (t_nle h4) l2_1 rfl
      have hXs2 := hX
      refine ev_loc f_X2_strikeSails (nx := 14) rfl rfl rfl rfl ?_
      refine ev_getI f_X2_strikeSails (nx := 17) rfl (hI.wf.s rfl) rfl rfl rfl ?_
      refine ev_if f_X2_strikeSails (t1 := 39) (t2 := 20) rfl rfl rfl (fun h9 => ?_) (fun h9 => ?_)
      · have u10 : (gi2 45 6).toInt ≤ 0 := t_equ h9 (by decide : (0:Int32).toInt ≤ (0:Int))
        have l11 : 0 ≤ (gi2 45 6).toInt := t_eql h9 (by decide : (0:Int) ≤ (0:Int32).toInt)
        refine ev_ic f_X2_strikeSails (nx := 40) (v := 0) rfl (by decide) rfl ?_
        refine ev_loc f_X2_strikeSails (nx := 41) (lo' := [(2, .int 0), (1, .int y2_1), (0, .ref 45)]) rfl rfl rfl rfl ?_
        refine ev_loc f_X2_strikeSails (nx := 42) rfl rfl rfl rfl ?_
        refine ev_t f_X2_strikeSails (t1 := 45) (t2 := 50) rfl rfl rfl (by decide) ?_
        refine ev_loc f_X2_strikeSails (nx := 46) rfl rfl rfl rfl ?_
        refine ev_loc f_X2_strikeSails (nx := 47) rfl rfl rfl rfl ?_
        refine ev_qN f_X2_strikeSails (nx := 50) (r := []) rfl rfl rfl rfl rfl rfl rfl (c_k_strikeIfDue hI (y2_1)) rfl hX rfl (fun gi12 gl12 gr12 hI hX hC12 q12 => ?_)
        have ff13 : (gi2 45 5).toInt = (gi 45 5).toInt := congrArg Int32.toInt c2_0
        have q12 : (∀ (P : Nat → Nat → Int) (Z : Nat → Int), t_KL P gi2 → t_CZ (P 0 0) Z gi2 → 0 ≤ y2_1.toInt → y2_1.toInt < P 0 0 → t_CZ (P 0 0) (s_k2 P (gi2 45 5).toInt Z y2_1.toNatClampNeg) gi12) := q12
        refine ev_incR f_X2_strikeSails (nx := 53) (c := 1) (l := 1) (u := 6) rfl rfl (by decide) (by decide) l2_1 u7 rfl rfl (by decide) (by decide) rfl (fun z14 e14 l14 u14 => ?_)
        refine ev_jmp f_X2_strikeSails (nx := 2) rfl rfl rfl ?_
        refine ev_sub (lo := [(1, .int z14), (0, .ref 45)]) rfl (t_sc rfl (t_sc rfl t_sn)) ?_
        exact ih2 _ (by omega) gi12 gl12 gr12 (z14) hI hX  (Int.le_trans (by decide : (0:Int) ≤ 1) l14) u14 ((hC12.1 45 5 rfl).1.trans c2_0) (fun P Z hL hZ hO => (by
                                                            obtain ⟨Y, h1, h2, hOY, h3⟩ := j2_0 P Z hL hZ hO
                                                            have hXX := hXs2
                                                            have ho := hOY.1
                                                            have hL1 := hL.fr (congrFun (t_F_nc (t_F_X hXX) rfl (by decide)) 0) (congrFun (t_F_nc (t_F_X hXX) rfl (by decide)) 0) (t_F_nc (t_F_X hXX) rfl (by decide)) (t_F_nc (t_F_X hXX) rfl (by decide)) (t_F_nc (t_F_X hXX) rfl (by decide)) (t_F_nc (t_F_X hXX) rfl (by decide)) (t_F_nc (t_F_X hXX) rfl (by decide)) (t_F_nc (t_F_X hXX) rfl (by decide)) (t_F_nc (t_F_X hXX) rfl (by decide))
                                                            have hm := hL1.1.1.1
                                                            have c0 := t_clamp (i := y2_1) (by omega)
                                                            have m5 : (gi2 45 5).toInt = (gi 45 5).toInt := congrArg Int32.toInt (t_F_X hXX 45 5 (by decide) rfl).1
                                                            obtain ⟨⟨z0, z1, -, -, -⟩, -, -⟩ := id h1
                                                            have hx : z14.toNatClampNeg = y2_1.toNatClampNeg + 1 := by have := t_clamp (i := z14) (by omega); omega
                                                            rw [show (P 0 0).toNat - y2_1.toNatClampNeg = ((P 0 0).toNat - z14.toNatClampNeg) + 1 by omega] at h2
                                                            have hn : s_k1 P (gi 45 5).toInt Y y2_1.toNatClampNeg = s_k2 P (gi 45 5).toInt Y y2_1.toNatClampNeg := if_neg (fun hh => by have p0 := hh.1; have p1 := hh.2.1; have p2 := hh.2.2; omega)
                                                            have hq := q12 P Y hL1 h1 (by omega) (by omega)
                                                            rw [m5, ← hn] at hq
                                                            rw [hx] at h2
                                                            exact ⟨_, hq, by rw [hx]; exact h2, s_okz_k1 hOY, by omega⟩)) rfl
      · have r15 : (gi2 45 6).toInt ≠ 0 := fun e => h9 (Int32.toInt_inj.mp (e.trans (by decide : (0:Int) = (0 : Int32).toInt)))
        refine ev_loc f_X2_strikeSails (nx := 21) rfl rfl rfl rfl ?_
        refine ev_getI f_X2_strikeSails (nx := 24) rfl (hI.wf.s rfl) rfl rfl rfl ?_
        refine ev_if f_X2_strikeSails (t1 := 27) (t2 := 39) rfl rfl rfl (fun h16 => ?_) (fun h16 => ?_)
        · have u17 : (gi2 45 7).toInt ≤ 0 := t_equ h16 (by decide : (0:Int32).toInt ≤ (0:Int))
          have l18 : 0 ≤ (gi2 45 7).toInt := t_eql h16 (by decide : (0:Int) ≤ (0:Int32).toInt)
          refine ev_loc f_X2_strikeSails (nx := 28) rfl rfl rfl rfl ?_
          refine ev_qI0 f_X2_strikeSails (nx := 31) (r := []) rfl rfl rfl rfl rfl rfl rfl (c_k_firstShipLeft hI ) rfl (fun w19 l19 u19 q19 => ?_)
          have q19 : (∀ (P : Nat → Nat → Int) (Z : Nat → Int), t_KL P gi2 → t_CZ (P 0 0) Z gi2 → (w19.toInt = -1 ∧ P 0 0 ≤ ((s_f1 Z (P 0 0).toNat 0 : Nat) : Int)) ∨ (w19.toInt = ((s_f1 Z (P 0 0).toNat 0 : Nat) : Int) ∧ ((s_f1 Z (P 0 0).toNat 0 : Nat) : Int) < P 0 0)) := q19
          refine ev_loc f_X2_strikeSails (nx := 32) rfl rfl rfl rfl ?_
          refine ev_if f_X2_strikeSails (t1 := 35) (t2 := 39) rfl rfl rfl (fun h20 => ?_) (fun h20 => ?_)
          · have r21 : w19.toInt = y2_1.toInt := t_eqi h20
            have l22 : 0 ≤ w19.toInt := t_eql h20 l2_1
            refine ev_ic f_X2_strikeSails (nx := 36) (v := 1) rfl (by decide) rfl ?_
            refine ev_jmp f_X2_strikeSails (nx := 40) rfl rfl rfl ?_
            refine ev_loc f_X2_strikeSails (nx := 41) (lo' := [(2, .int 1), (1, .int y2_1), (0, .ref 45)]) rfl rfl rfl rfl ?_
            refine ev_loc f_X2_strikeSails (nx := 42) rfl rfl rfl rfl ?_
            refine ev_f f_X2_strikeSails (t1 := 45) (t2 := 50) rfl rfl rfl (by decide) ?_
            refine ev_incR f_X2_strikeSails (nx := 53) (c := 1) (l := 1) (u := 6) rfl rfl (by decide) (by decide) l2_1 u7 rfl rfl (by decide) (by decide) rfl (fun z23 e23 l23 u23 => ?_)
            refine ev_jmp f_X2_strikeSails (nx := 2) rfl rfl rfl ?_
            refine ev_sub (lo := [(1, .int z23), (0, .ref 45)]) rfl (t_sc rfl (t_sc rfl t_sn)) ?_
            exact ih2 _ (by omega) gi2 gl2 gr2 (z23) hI hX  (Int.le_trans (by decide : (0:Int) ≤ 1) l23) u23 c2_0 (fun P Z hL hZ hO => (by
                                                            obtain ⟨Y, h1, h2, hOY, h3⟩ := j2_0 P Z hL hZ hO
                                                            have hXX := hXs2
                                                            have ho := hOY.1
                                                            have hL1 := hL.fr (congrFun (t_F_nc (t_F_X hXX) rfl (by decide)) 0) (congrFun (t_F_nc (t_F_X hXX) rfl (by decide)) 0) (t_F_nc (t_F_X hXX) rfl (by decide)) (t_F_nc (t_F_X hXX) rfl (by decide)) (t_F_nc (t_F_X hXX) rfl (by decide)) (t_F_nc (t_F_X hXX) rfl (by decide)) (t_F_nc (t_F_X hXX) rfl (by decide)) (t_F_nc (t_F_X hXX) rfl (by decide)) (t_F_nc (t_F_X hXX) rfl (by decide))
                                                            have hm := hL1.1.1.1
                                                            have c0 := t_clamp (i := y2_1) (by omega)
                                                            have m5 : (gi2 45 5).toInt = (gi 45 5).toInt := congrArg Int32.toInt (t_F_X hXX 45 5 (by decide) rfl).1
                                                            obtain ⟨⟨z0, z1, -, -, -⟩, -, -⟩ := id h1
                                                            have hx : z23.toNatClampNeg = y2_1.toNatClampNeg + 1 := by have := t_clamp (i := z23) (by omega); omega
                                                            rw [show (P 0 0).toNat - y2_1.toNatClampNeg = ((P 0 0).toNat - z23.toNatClampNeg) + 1 by omega] at h2
                                                            have hf := q19 P Y hL1 h1
                                                            have hn : s_k1 P (gi 45 5).toInt Y y2_1.toNatClampNeg = Y := if_pos ⟨by omega, by omega, by omega⟩
                                                            have h4 : s_skz P (gi 45 5).toInt ((P 0 0).toNat - z23.toNatClampNeg) (y2_1.toNatClampNeg + 1) (s_k1 P (gi 45 5).toInt Y y2_1.toNatClampNeg) = _ := h2
                                                            rw [hn] at h4
                                                            exact ⟨Y, h1, by rw [hx] at h4 ⊢; exact h4, hOY, by omega⟩)) rfl
          · have r24 : w19.toInt ≠ y2_1.toInt := t_nei h20
            refine ev_ic f_X2_strikeSails (nx := 40) (v := 0) rfl (by decide) rfl ?_
            refine ev_loc f_X2_strikeSails (nx := 41) (lo' := [(2, .int 0), (1, .int y2_1), (0, .ref 45)]) rfl rfl rfl rfl ?_
            refine ev_loc f_X2_strikeSails (nx := 42) rfl rfl rfl rfl ?_
            refine ev_t f_X2_strikeSails (t1 := 45) (t2 := 50) rfl rfl rfl (by decide) ?_
            refine ev_loc f_X2_strikeSails (nx := 46) rfl rfl rfl rfl ?_
            refine ev_loc f_X2_strikeSails (nx := 47) rfl rfl rfl rfl ?_
            refine ev_qN f_X2_strikeSails (nx := 50) (r := []) rfl rfl rfl rfl rfl rfl rfl (c_k_strikeIfDue hI (y2_1)) rfl hX rfl (fun gi25 gl25 gr25 hI hX hC25 q25 => ?_)
            have ff26 : (gi2 45 5).toInt = (gi 45 5).toInt := congrArg Int32.toInt c2_0
            have q25 : (∀ (P : Nat → Nat → Int) (Z : Nat → Int), t_KL P gi2 → t_CZ (P 0 0) Z gi2 → 0 ≤ y2_1.toInt → y2_1.toInt < P 0 0 → t_CZ (P 0 0) (s_k2 P (gi2 45 5).toInt Z y2_1.toNatClampNeg) gi25) := q25
            refine ev_incR f_X2_strikeSails (nx := 53) (c := 1) (l := 1) (u := 6) rfl rfl (by decide) (by decide) l2_1 u7 rfl rfl (by decide) (by decide) rfl (fun z27 e27 l27 u27 => ?_)
            refine ev_jmp f_X2_strikeSails (nx := 2) rfl rfl rfl ?_
            refine ev_sub (lo := [(1, .int z27), (0, .ref 45)]) rfl (t_sc rfl (t_sc rfl t_sn)) ?_
            exact ih2 _ (by omega) gi25 gl25 gr25 (z27) hI hX  (Int.le_trans (by decide : (0:Int) ≤ 1) l27) u27 ((hC25.1 45 5 rfl).1.trans c2_0) (fun P Z hL hZ hO => (by
                                                            obtain ⟨Y, h1, h2, hOY, h3⟩ := j2_0 P Z hL hZ hO
                                                            have hXX := hXs2
                                                            have ho := hOY.1
                                                            have hL1 := hL.fr (congrFun (t_F_nc (t_F_X hXX) rfl (by decide)) 0) (congrFun (t_F_nc (t_F_X hXX) rfl (by decide)) 0) (t_F_nc (t_F_X hXX) rfl (by decide)) (t_F_nc (t_F_X hXX) rfl (by decide)) (t_F_nc (t_F_X hXX) rfl (by decide)) (t_F_nc (t_F_X hXX) rfl (by decide)) (t_F_nc (t_F_X hXX) rfl (by decide)) (t_F_nc (t_F_X hXX) rfl (by decide)) (t_F_nc (t_F_X hXX) rfl (by decide))
                                                            have hm := hL1.1.1.1
                                                            have c0 := t_clamp (i := y2_1) (by omega)
                                                            have m5 : (gi2 45 5).toInt = (gi 45 5).toInt := congrArg Int32.toInt (t_F_X hXX 45 5 (by decide) rfl).1
                                                            obtain ⟨⟨z0, z1, -, -, -⟩, -, -⟩ := id h1
                                                            have hx : z27.toNatClampNeg = y2_1.toNatClampNeg + 1 := by have := t_clamp (i := z27) (by omega); omega
                                                            rw [show (P 0 0).toNat - y2_1.toNatClampNeg = ((P 0 0).toNat - z27.toNatClampNeg) + 1 by omega] at h2
                                                            have hf := q19 P Y hL1 h1
                                                            have hn : s_k1 P (gi 45 5).toInt Y y2_1.toNatClampNeg = s_k2 P (gi 45 5).toInt Y y2_1.toNatClampNeg := if_neg (fun hh => by have p0 := hh.1; have p1 := hh.2.1; have p2 := hh.2.2; omega)
                                                            have hq := q25 P Y hL1 h1 (by omega) (by omega)
                                                            rw [m5, ← hn] at hq
                                                            rw [hx] at h2
                                                            exact ⟨_, hq, by rw [hx]; exact h2, s_okz_k1 hOY, by omega⟩)) rfl
        · have r28 : (gi2 45 7).toInt ≠ 0 := fun e => h16 (Int32.toInt_inj.mp (e.trans (by decide : (0:Int) = (0 : Int32).toInt)))
          refine ev_ic f_X2_strikeSails (nx := 40) (v := 0) rfl (by decide) rfl ?_
          refine ev_loc f_X2_strikeSails (nx := 41) (lo' := [(2, .int 0), (1, .int y2_1), (0, .ref 45)]) rfl rfl rfl rfl ?_
          refine ev_loc f_X2_strikeSails (nx := 42) rfl rfl rfl rfl ?_
          refine ev_t f_X2_strikeSails (t1 := 45) (t2 := 50) rfl rfl rfl (by decide) ?_
          refine ev_loc f_X2_strikeSails (nx := 46) rfl rfl rfl rfl ?_
          refine ev_loc f_X2_strikeSails (nx := 47) rfl rfl rfl rfl ?_
          refine ev_qN f_X2_strikeSails (nx := 50) (r := []) rfl rfl rfl rfl rfl rfl rfl (c_k_strikeIfDue hI (y2_1)) rfl hX rfl (fun gi29 gl29 gr29 hI hX hC29 q29 => ?_)
          have ff30 : (gi2 45 5).toInt = (gi 45 5).toInt := congrArg Int32.toInt c2_0
          have q29 : (∀ (P : Nat → Nat → Int) (Z : Nat → Int), t_KL P gi2 → t_CZ (P 0 0) Z gi2 → 0 ≤ y2_1.toInt → y2_1.toInt < P 0 0 → t_CZ (P 0 0) (s_k2 P (gi2 45 5).toInt Z y2_1.toNatClampNeg) gi29) := q29
          refine ev_incR f_X2_strikeSails (nx := 53) (c := 1) (l := 1) (u := 6) rfl rfl (by decide) (by decide) l2_1 u7 rfl rfl (by decide) (by decide) rfl (fun z31 e31 l31 u31 => ?_)
          refine ev_jmp f_X2_strikeSails (nx := 2) rfl rfl rfl ?_
          refine ev_sub (lo := [(1, .int z31), (0, .ref 45)]) rfl (t_sc rfl (t_sc rfl t_sn)) ?_
          exact ih2 _ (by omega) gi29 gl29 gr29 (z31) hI hX  (Int.le_trans (by decide : (0:Int) ≤ 1) l31) u31 ((hC29.1 45 5 rfl).1.trans c2_0) (fun P Z hL hZ hO => (by
                                                            obtain ⟨Y, h1, h2, hOY, h3⟩ := j2_0 P Z hL hZ hO
                                                            have hXX := hXs2
                                                            have ho := hOY.1
                                                            have hL1 := hL.fr (congrFun (t_F_nc (t_F_X hXX) rfl (by decide)) 0) (congrFun (t_F_nc (t_F_X hXX) rfl (by decide)) 0) (t_F_nc (t_F_X hXX) rfl (by decide)) (t_F_nc (t_F_X hXX) rfl (by decide)) (t_F_nc (t_F_X hXX) rfl (by decide)) (t_F_nc (t_F_X hXX) rfl (by decide)) (t_F_nc (t_F_X hXX) rfl (by decide)) (t_F_nc (t_F_X hXX) rfl (by decide)) (t_F_nc (t_F_X hXX) rfl (by decide))
                                                            have hm := hL1.1.1.1
                                                            have c0 := t_clamp (i := y2_1) (by omega)
                                                            have m5 : (gi2 45 5).toInt = (gi 45 5).toInt := congrArg Int32.toInt (t_F_X hXX 45 5 (by decide) rfl).1
                                                            obtain ⟨⟨z0, z1, -, -, -⟩, -, -⟩ := id h1
                                                            have hx : z31.toNatClampNeg = y2_1.toNatClampNeg + 1 := by have := t_clamp (i := z31) (by omega); omega
                                                            rw [show (P 0 0).toNat - y2_1.toNatClampNeg = ((P 0 0).toNat - z31.toNatClampNeg) + 1 by omega] at h2
                                                            have hn : s_k1 P (gi 45 5).toInt Y y2_1.toNatClampNeg = s_k2 P (gi 45 5).toInt Y y2_1.toNatClampNeg := if_neg (fun hh => by have p0 := hh.1; have p1 := hh.2.1; have p2 := hh.2.2; omega)
                                                            have hq := q29 P Y hL1 h1 (by omega) (by omega)
                                                            rw [m5, ← hn] at hq
                                                            rw [hx] at h2
                                                            exact ⟨_, hq, by rw [hx]; exact h2, s_okz_k1 hOY, by omega⟩)) rfl
  refine ev_sub (lo := [(1, .int 0), (0, .ref 45)]) rfl (t_sc rfl (t_sc rfl t_sn)) ?_
  exact L2 _ gi gl gr (0) hI hX  (by decide : (0:Int) ≤ (0:Int32).toInt) (Int.le_trans (by decide : (0:Int32).toInt ≤ (0:Int)) (by decide : (0:Int) ≤ 6)) rfl (fun P Z hL hZ hO => ⟨Z, hZ, rfl, hO, by have z0 : (0 : Int32).toInt = 0 := rfl; have := hL.1.2; omega⟩) rfl
noncomputable def wl_k_gatherFacts : List (Nat × Nat) := [(59, 9999)]
noncomputable def Q_k_gatherFacts (gi : Nat → Nat → Int32) (gl : Nat → Nat → Int64) (gr : Nat → Nat → Value) : (Nat → Nat → Int32) → (Nat → Nat → Int64) → (Nat → Nat → Value) → Prop := fun (gi2 : Nat → Nat → Int32) (gl2 : Nat → Nat → Int64) (gr2 : Nat → Nat → Value) => (∀ (P : Nat → Nat → Int) (Z : Nat → Int), t_KL P gi → t_CZ (P 0 0) Z gi → s_okz P Z → ∀ j : Nat, j < 6 → (gi2 59 j).toInt = s_FA P (gi 45 5).toInt Z j)
theorem c_k_gatherFacts {X : x_Ext} {d : Nat} {sh : List (Nat ⊕ (Nat × Nat))} {gi : Nat → Nat → Int32} {gl : Nat → Nat → Int64} {gr : Nat → Nat → Value} (hI : t_I sh gi gr) : x_Me X (d + 1) n_X2_gatherFacts [.ref 45] (sh, gi, gl, gr) (t_PN wl_k_gatherFacts sh gi gl gr (Q_k_gatherFacts gi gl gr)) := by
  have hX : t_X wl_k_gatherFacts sh gi gl gr gi gl gr := t_X.rf
  refine me_i f_X2_gatherFacts (hI.wf.s rfl) rfl rfl rfl ?_
  obtain ⟨l1, u1⟩ := hI.b (hI.wf.s (k := 45) rfl) (t_bdK rfl : t_bd 2 5 = some (0, 301))
  refine ev_ic f_X2_gatherFacts (nx := 1) (v := 0) rfl (by decide) rfl ?_
  refine ev_loc f_X2_gatherFacts (nx := 2) (lo' := [(1, .int 0), (0, .ref 45)]) rfl rfl rfl rfl ?_
  refine ev_sp f_X2_gatherFacts (nx := 5) (v := 300) rfl (by decide) rfl ?_
  refine ev_loc f_X2_gatherFacts (nx := 6) (lo' := [(2, .int 300), (1, .int 0), (0, .ref 45)]) rfl rfl rfl rfl ?_
  refine ev_loc f_X2_gatherFacts (nx := 7) rfl rfl rfl rfl ?_
  refine ev_getR f_X2_gatherFacts (nx := 10) rfl (hI.wf.s rfl) rfl rfl (hI.wf.r rfl) rfl rfl ?_
  refine ev_getI f_X2_gatherFacts (nx := 13) rfl (hI.wf.s rfl) rfl rfl rfl ?_
  obtain ⟨l2, u2⟩ := hI.b (hI.wf.s (k := 46) rfl) (t_bdK rfl : t_bd 3 0 = some (0, 6))
  refine ev_ic f_X2_gatherFacts (nx := 14) (v := 1) rfl (by decide) rfl ?_
  refine ev_subC f_X2_gatherFacts (nx := 15) (c := 1) (l := (-1)) (u := 5) rfl (by decide) l2 u2 rfl rfl (by decide) (by decide) rfl (fun z3 e3 l3 u3 => ?_)
  refine ev_loc f_X2_gatherFacts (nx := 16) (lo' := [(3, .int z3), (2, .int 300), (1, .int 0), (0, .ref 45)]) rfl rfl rfl rfl ?_
  have L4 : ∀ (m4 : Nat) (gi4 : Nat → Nat → Int32) (gl4 : Nat → Nat → Int64) (gr4 : Nat → Nat → Value) (y4_3 : Int32) (y4_2 : Int32) (y4_1 : Int32), t_I sh gi4 gr4 → t_X wl_k_gatherFacts sh gi gl gr gi4 gl4 gr4 → (-1) ≤ y4_3.toInt → y4_3.toInt ≤ 5 → 0 ≤ y4_1.toInt → y4_1.toInt ≤ 6 → gi4 45 5 = (gi 45 5) → gi4 46 0 = (gi 46 0) → y4_1.toInt + y4_3.toInt ≤ 5 → (∀ (P : Nat → Nat → Int) (Z : Nat → Int), t_KL P gi → t_CZ (P 0 0) Z gi → s_okz P Z → (y4_3.toInt ≤ P 0 0 - 1 ∧ y4_2.toInt = s_nx (P 1) (gi 45 5).toInt (P 0 0 - 1 - y4_3.toInt).toNat (y4_3.toInt + 1).toNat ∧ y4_1.toInt = s_cu (s_wS P (gi 45 5).toInt Z) (P 0 0).toNat - s_cu (s_wS P (gi 45 5).toInt Z) (y4_3.toInt + 1).toNat)) → (y4_3.toInt - (-1)).toNat = m4 → x_Ev X (d + 1) n_X2_gatherFacts 16 [(3, .int y4_3), (2, .int y4_2), (1, .int y4_1), (0, .ref 45)] [] (sh, gi4, gl4, gr4) (t_PN wl_k_gatherFacts sh gi gl gr (Q_k_gatherFacts gi gl gr)) := by
    intro m4
    induction m4 using Nat.strongRecOn with
    | _ m4 ih4 =>
    intro gi4 gl4 gr4 y4_3 y4_2 y4_1 hI hX l4_3 u4_3 l4_1 u4_1 c4_0 c4_1 j4_0 j4_1 hm4
    refine ev_loc f_X2_gatherFacts (nx := 17) rfl rfl rfl rfl ?_
    refine ev_if f_X2_gatherFacts (t1 := 72) (t2 := 20) rfl rfl rfl (fun h5 => ?_) (fun h5 => ?_)
    · have u6 : y4_3.toInt ≤ (-1) := t_ltu h5 (by decide : (0:Int32).toInt ≤ (0:Int)) rfl
      refine ev_ic f_X2_gatherFacts (nx := 73) (v := 0) rfl (by decide) rfl ?_
      refine ev_loc f_X2_gatherFacts (nx := 74) (lo' := [(3, .int 0), (2, .int y4_2), (1, .int y4_1), (0, .ref 45)]) rfl rfl rfl rfl ?_
      refine ev_loc f_X2_gatherFacts (nx := 75) rfl rfl rfl rfl ?_
      refine ev_getI f_X2_gatherFacts (nx := 78) rfl (hI.wf.s rfl) rfl rfl rfl ?_
      obtain ⟨l7, u7⟩ := hI.b (hI.wf.s (k := 45) rfl) (t_bdK rfl : t_bd 2 10 = some (0, 6))
      refine ev_loc f_X2_gatherFacts (nx := 80) (lo' := [(4, .int (gi4 45 10)), (3, .int 0), (2, .int y4_2), (1, .int y4_1), (0, .ref 45)]) rfl rfl rfl rfl ?_
      have L8 : ∀ (m8 : Nat) (gi8 : Nat → Nat → Int32) (gl8 : Nat → Nat → Int64) (gr8 : Nat → Nat → Value) (y8_4 : Int32) (y8_3 : Int32), t_I sh gi8 gr8 → t_X wl_k_gatherFacts sh gi gl gr gi8 gl8 gr8 → 0 ≤ y8_4.toInt → y8_4.toInt ≤ 6 → 0 ≤ y8_3.toInt → y8_3.toInt ≤ 6 → gi8 45 10 = (gi4 45 10) → gi8 45 5 = (gi 45 5) → gi8 46 0 = (gi 46 0) → y8_3.toInt ≤ y8_4.toInt → (∀ (P : Nat → Nat → Int) (Z : Nat → Int), t_KL P gi → t_CZ (P 0 0) Z gi → s_okz P Z → (y4_1.toInt = s_cu (s_wS P (gi 45 5).toInt Z) (P 0 0).toNat ∧ y4_2.toInt = s_nx (P 1) (gi 45 5).toInt (P 0 0).toNat 0 ∧ Z 4 ≤ y8_4.toInt ∧ y8_4.toInt ≤ P 0 1 ∧ y8_3.toInt = s_cu (s_wC P (gi 45 5).toInt) y8_4.toInt.toNat - s_cu (s_wC P (gi 45 5).toInt) (Z 4).toNat)) → (6 - y8_4.toInt).toNat = m8 → x_Ev X (d + 1) n_X2_gatherFacts 80 [(4, .int y8_4), (3, .int y8_3), (2, .int y4_2), (1, .int y4_1), (0, .ref 45)] [] (sh, gi8, gl8, gr8) (t_PN wl_k_gatherFacts sh gi gl gr (Q_k_gatherFacts gi gl gr)) := by
        intro m8
        induction m8 using Nat.strongRecOn with
        | _ m8 ih8 =>
        intro gi8 gl8 gr8 y8_4 y8_3 hI hX l8_4 u8_4 l8_3 u8_3 c8_0 c8_1 c8_2 j8_0 j8_1 hm8
        refine ev_loc f_X2_gatherFacts (nx := 82) rfl rfl rfl rfl ?_
        refine ev_loc f_X2_gatherFacts (nx := 83) rfl rfl rfl rfl ?_
        refine ev_getR f_X2_gatherFacts (nx := 86) rfl (hI.wf.s rfl) rfl rfl (hI.wf.r rfl) rfl rfl ?_
        refine ev_getI f_X2_gatherFacts (nx := 89) rfl (hI.wf.s rfl) rfl rfl rfl ?_
        obtain ⟨l9, u9⟩ := hI.b (hI.wf.s (k := 52) rfl) (t_bdK rfl : t_bd 3 0 = some (0, 6))
        refine ev_if f_X2_gatherFacts (t1 := 118) (t2 := 92) rfl rfl rfl (fun h10 => ?_) (fun h10 => ?_)
        · have r11 : (gi8 52 0).toInt ≤ y8_4.toInt := Int32.le_iff_toInt_le.mp h10
          have hXg8 := hX
          refine ev_loc f_X2_gatherFacts (nx := 119) rfl rfl rfl rfl ?_
          refine ev_getR f_X2_gatherFacts (nx := 122) rfl (hI.wf.s rfl) rfl rfl (hI.wf.r rfl) rfl rfl ?_
          refine ev_ic f_X2_gatherFacts (nx := 123) (v := 0) rfl (by decide) rfl ?_
          refine ev_loc f_X2_gatherFacts (nx := 124) rfl rfl rfl rfl ?_
          refine ev_getI f_X2_gatherFacts (nx := 127) rfl (hI.wf.s rfl) rfl rfl rfl ?_
          refine ev_if f_X2_gatherFacts (t1 := 134) (t2 := 130) rfl rfl rfl (fun h12 => ?_) (fun h12 => ?_)
          · have u13 : (gi8 45 6).toInt ≤ 0 := t_equ h12 (by decide : (0:Int32).toInt ≤ (0:Int))
            have l14 : 0 ≤ (gi8 45 6).toInt := t_eql h12 (by decide : (0:Int) ≤ (0:Int32).toInt)
            refine ev_ic f_X2_gatherFacts (nx := 135) (v := 0) rfl (by decide) rfl ?_
            refine ev_iastT f_X2_gatherFacts (nx := 136) rfl (hI.wf.s rfl) (by decide : (0:Int) ≤ (0:Int32).toInt) (by decide) (by decide : (0:Int32).toInt ≤ (0:Int)) (by decide) rfl (hI.astO (hI.wf.s rfl) (Or.inl (by decide)) (by decide +kernel)) (hX.upI (t_inA_ok rfl)) (fun g15 e15 hI hX => ?_)
            refine ev_loc f_X2_gatherFacts (nx := 137) rfl rfl rfl rfl ?_
            refine ev_getR f_X2_gatherFacts (nx := 140) rfl (hI.wf.s rfl) rfl rfl (hI.wf.r rfl) rfl rfl ?_
            refine ev_ic f_X2_gatherFacts (nx := 141) (v := 1) rfl (by decide) rfl ?_
            refine ev_loc f_X2_gatherFacts (nx := 142) rfl rfl rfl rfl ?_
            refine ev_iastT f_X2_gatherFacts (nx := 143) rfl (hI.wf.s rfl) (by decide : (1:Int) ≤ (1:Int32).toInt) (by decide) (by decide : (1:Int32).toInt ≤ (1:Int)) (by decide) rfl (hI.astO (hI.wf.s rfl) (Or.inl (by decide)) (by decide +kernel)) (hX.upI (t_inA_ok rfl)) (fun g16 e16 hI hX => ?_)
            refine ev_loc f_X2_gatherFacts (nx := 144) rfl rfl rfl rfl ?_
            refine ev_getR f_X2_gatherFacts (nx := 147) rfl (hI.wf.s rfl) rfl rfl (hI.wf.r rfl) rfl rfl ?_
            refine ev_ic f_X2_gatherFacts (nx := 148) (v := 2) rfl (by decide) rfl ?_
            refine ev_loc f_X2_gatherFacts (nx := 149) rfl rfl rfl rfl ?_
            refine ev_iastT f_X2_gatherFacts (nx := 150) rfl (hI.wf.s rfl) (by decide : (2:Int) ≤ (2:Int32).toInt) (by decide) (by decide : (2:Int32).toInt ≤ (2:Int)) (by decide) rfl (hI.astO (hI.wf.s rfl) (Or.inl (by decide)) (by decide +kernel)) (hX.upI (t_inA_ok rfl)) (fun g17 e17 hI hX => ?_)
            refine ev_loc f_X2_gatherFacts (nx := 151) rfl rfl rfl rfl ?_
            refine ev_getR f_X2_gatherFacts (nx := 154) rfl (hI.wf.s rfl) rfl rfl (hI.wf.r rfl) rfl rfl ?_
            refine ev_ic f_X2_gatherFacts (nx := 155) (v := 3) rfl (by decide) rfl ?_
            refine ev_loc f_X2_gatherFacts (nx := 156) rfl rfl rfl rfl ?_
            refine ev_iastT f_X2_gatherFacts (nx := 157) rfl (hI.wf.s rfl) (by decide : (3:Int) ≤ (3:Int32).toInt) (by decide) (by decide : (3:Int32).toInt ≤ (3:Int)) (by decide) rfl (hI.astO (hI.wf.s rfl) (Or.inl (by decide)) (by decide +kernel)) (hX.upI (t_inA_ok rfl)) (fun g18 e18 hI hX => ?_)
            refine ev_loc f_X2_gatherFacts (nx := 158) rfl rfl rfl rfl ?_
            refine ev_getR f_X2_gatherFacts (nx := 161) rfl (hI.wf.s rfl) rfl rfl (hI.wf.r rfl) rfl rfl ?_
            refine ev_ic f_X2_gatherFacts (nx := 162) (v := 4) rfl (by decide) rfl ?_
            refine ev_loc f_X2_gatherFacts (nx := 163) rfl rfl rfl rfl ?_
            refine ev_gvI f_X2_gatherFacts (nx := 166) (w := (gi 45 5)) rfl (hI.wf.s rfl) rfl rfl ((by rw [e18]; exact x_up2_off (Or.inl (by decide)) : g18 45 5 = g17 45 5).trans ((by rw [e17]; exact x_up2_off (Or.inl (by decide)) : g17 45 5 = g16 45 5).trans ((by rw [e16]; exact x_up2_off (Or.inl (by decide)) : g16 45 5 = g15 45 5).trans ((by rw [e15]; exact x_up2_off (Or.inl (by decide)) : g15 45 5 = gi8 45 5).trans c8_1)))) rfl ?_
            refine ev_iastT f_X2_gatherFacts (nx := 167) rfl (hI.wf.s rfl) (by decide : (4:Int) ≤ (4:Int32).toInt) (by decide) (by decide : (4:Int32).toInt ≤ (4:Int)) (by decide) rfl (hI.astO (hI.wf.s rfl) (Or.inl (by decide)) (by decide +kernel)) (hX.upI (t_inA_ok rfl)) (fun g19 e19 hI hX => ?_)
            refine ev_loc f_X2_gatherFacts (nx := 168) rfl rfl rfl rfl ?_
            refine ev_getR f_X2_gatherFacts (nx := 171) rfl (hI.wf.s rfl) rfl rfl (hI.wf.r rfl) rfl rfl ?_
            refine ev_ic f_X2_gatherFacts (nx := 172) (v := 5) rfl (by decide) rfl ?_
            refine ev_loc f_X2_gatherFacts (nx := 173) rfl rfl rfl rfl ?_
            refine ev_gvI f_X2_gatherFacts (nx := 176) (w := (gi 45 5)) rfl (hI.wf.s rfl) rfl rfl ((by rw [e19]; exact x_up2_off (Or.inl (by decide)) : g19 45 5 = g18 45 5).trans ((by rw [e18]; exact x_up2_off (Or.inl (by decide)) : g18 45 5 = g17 45 5).trans ((by rw [e17]; exact x_up2_off (Or.inl (by decide)) : g17 45 5 = g16 45 5).trans ((by rw [e16]; exact x_up2_off (Or.inl (by decide)) : g16 45 5 = g15 45 5).trans ((by rw [e15]; exact x_up2_off (Or.inl (by decide)) : g15 45 5 = gi8 45 5).trans c8_1))))) rfl ?_
            refine ev_loc f_X2_gatherFacts (nx := 177) rfl rfl rfl rfl ?_
            refine ev_getI f_X2_gatherFacts (nx := 180) rfl (hI.wf.s rfl) rfl rfl rfl ?_
            refine ev_anyIE f_X2_gatherFacts (nx := 181) rfl rfl rfl rfl (fun z20 e20 => ?_)
            refine ev_iastT f_X2_gatherFacts (nx := 182) rfl (hI.wf.s rfl) (by decide : (5:Int) ≤ (5:Int32).toInt) (by decide) (by decide : (5:Int32).toInt ≤ (5:Int)) (by decide) rfl (hI.astO (hI.wf.s rfl) (Or.inl (by decide)) (by decide +kernel)) (hX.upI (t_inA_ok rfl)) (fun g21 e21 hI hX => ?_)
            exact ev_ret f_X2_gatherFacts rfl rfl rfl ⟨_, _, _, rfl, hI, hX, ⟨rfl, (show (∀ (P : Nat → Nat → Int) (Z : Nat → Int), t_KL P gi → t_CZ (P 0 0) Z gi → s_okz P Z → ∀ j : Nat, j < 6 → (g21 59 j).toInt = s_FA P (gi 45 5).toInt Z j) from (fun P Z hL hZ hO => (by
                                                            obtain ⟨h1, h2, h3, h4, h5⟩ := j8_1 P Z hL hZ hO
                                                            have g45 : gi8 45 = gi 45 := t_F_nc (t_F_X hXg8) rfl (by decide)
                                                            have hm := hL.1.1.2
                                                            have ho := hO.1
                                                            have ho2 := hO.2
                                                            have em : (gi8 45 5).toInt = (gi 45 5).toInt := congrArg Int32.toInt (congrFun g45 5)
                                                            have e52 : (gi8 52 0).toInt = (gi 52 0).toInt := congrArg Int32.toInt (congrFun (t_F_nc (t_F_X hXg8) rfl (by decide)) 0)
                                                            rw [show y8_4.toInt.toNat = (P 0 1).toNat by omega] at h5
                                                            obtain ⟨z0, -, -, z3, -⟩ := hZ.1
                                                            have e6 : (gi8 45 6).toInt = (gi 45 6).toInt ∧ (gi8 45 9).toInt = (gi 45 9).toInt := ⟨congrArg Int32.toInt (congrFun g45 6), congrArg Int32.toInt (congrFun g45 9)⟩
                                                            have e9 : (g19 45 9).toInt = Z 3 := by rw [e19, x_up2_off (Or.inl (by decide)), e18, x_up2_off (Or.inl (by decide)), e17, x_up2_off (Or.inl (by decide)), e16, x_up2_off (Or.inl (by decide)), e15, x_up2_off (Or.inl (by decide))]; omega
                                                            have lm := l1
                                                            have um := u1
                                                            have e5v := s_sub e20 rfl e9 (by omega)
                                                            intro j hj
                                                            have hj6 : j = 0 ∨ j = 1 ∨ j = 2 ∨ j = 3 ∨ j = 4 ∨ j = 5 := by omega
                                                            rcases hj6 with h | h | h | h | h | h
                                                            · subst h; show (g21 59 0).toInt = Z 0; rw [e21, x_up2_off (Or.inr (by decide)), e19, x_up2_off (Or.inr (by decide)), e18, x_up2_off (Or.inr (by decide)), e17, x_up2_off (Or.inr (by decide)), e16, x_up2_off (Or.inr (by decide)), e15, show (0 : Int32).toNatClampNeg = 0 from rfl, x_up2_at]; have kc : (0 : Int32).toInt = 0 := rfl; omega
                                                            · subst h; show (g21 59 1).toInt = s_cu (s_wS P (gi 45 5).toInt Z) (P 0 0).toNat; rw [e21, x_up2_off (Or.inr (by decide)), e19, x_up2_off (Or.inr (by decide)), e18, x_up2_off (Or.inr (by decide)), e17, x_up2_off (Or.inr (by decide)), e16, show (1 : Int32).toNatClampNeg = 1 from rfl, x_up2_at]; try omega
                                                            · subst h; show (g21 59 2).toInt = s_cu (s_wC P (gi 45 5).toInt) (P 0 1).toNat - s_cu (s_wC P (gi 45 5).toInt) (Z 4).toNat; rw [e21, x_up2_off (Or.inr (by decide)), e19, x_up2_off (Or.inr (by decide)), e18, x_up2_off (Or.inr (by decide)), e17, show (2 : Int32).toNatClampNeg = 2 from rfl, x_up2_at]; try omega
                                                            · subst h; show (g21 59 3).toInt = s_nx (P 1) (gi 45 5).toInt (P 0 0).toNat 0; rw [e21, x_up2_off (Or.inr (by decide)), e19, x_up2_off (Or.inr (by decide)), e18, show (3 : Int32).toNatClampNeg = 3 from rfl, x_up2_at]; try omega
                                                            · subst h; show (g21 59 4).toInt = (gi 45 5).toInt; rw [e21, x_up2_off (Or.inr (by decide)), e19, show (4 : Int32).toNatClampNeg = 4 from rfl, x_up2_at]; try omega
                                                            · subst h; show (g21 59 5).toInt = (gi 45 5).toInt - Z 3; rw [e21, show (5 : Int32).toNatClampNeg = 5 from rfl, x_up2_at]; try omega)))⟩⟩
          · have r22 : (gi8 45 6).toInt ≠ 0 := fun e => h12 (Int32.toInt_inj.mp (e.trans (by decide : (0:Int) = (0 : Int32).toInt)))
            refine ev_ic f_X2_gatherFacts (nx := 131) (v := 1) rfl (by decide) rfl ?_
            refine ev_jmp f_X2_gatherFacts (nx := 135) rfl rfl rfl ?_
            refine ev_iastT f_X2_gatherFacts (nx := 136) rfl (hI.wf.s rfl) (by decide : (0:Int) ≤ (0:Int32).toInt) (by decide) (by decide : (0:Int32).toInt ≤ (0:Int)) (by decide) rfl (hI.astO (hI.wf.s rfl) (Or.inl (by decide)) (by decide +kernel)) (hX.upI (t_inA_ok rfl)) (fun g23 e23 hI hX => ?_)
            refine ev_loc f_X2_gatherFacts (nx := 137) rfl rfl rfl rfl ?_
            refine ev_getR f_X2_gatherFacts (nx := 140) rfl (hI.wf.s rfl) rfl rfl (hI.wf.r rfl) rfl rfl ?_
            refine ev_ic f_X2_gatherFacts (nx := 141) (v := 1) rfl (by decide) rfl ?_
            refine ev_loc f_X2_gatherFacts (nx := 142) rfl rfl rfl rfl ?_
            refine ev_iastT f_X2_gatherFacts (nx := 143) rfl (hI.wf.s rfl) (by decide : (1:Int) ≤ (1:Int32).toInt) (by decide) (by decide : (1:Int32).toInt ≤ (1:Int)) (by decide) rfl (hI.astO (hI.wf.s rfl) (Or.inl (by decide)) (by decide +kernel)) (hX.upI (t_inA_ok rfl)) (fun g24 e24 hI hX => ?_)
            refine ev_loc f_X2_gatherFacts (nx := 144) rfl rfl rfl rfl ?_
            refine ev_getR f_X2_gatherFacts (nx := 147) rfl (hI.wf.s rfl) rfl rfl (hI.wf.r rfl) rfl rfl ?_
            refine ev_ic f_X2_gatherFacts (nx := 148) (v := 2) rfl (by decide) rfl ?_
            refine ev_loc f_X2_gatherFacts (nx := 149) rfl rfl rfl rfl ?_
            refine ev_iastT f_X2_gatherFacts (nx := 150) rfl (hI.wf.s rfl) (by decide : (2:Int) ≤ (2:Int32).toInt) (by decide) (by decide : (2:Int32).toInt ≤ (2:Int)) (by decide) rfl (hI.astO (hI.wf.s rfl) (Or.inl (by decide)) (by decide +kernel)) (hX.upI (t_inA_ok rfl)) (fun g25 e25 hI hX => ?_)
            refine ev_loc f_X2_gatherFacts (nx := 151) rfl rfl rfl rfl ?_
            refine ev_getR f_X2_gatherFacts (nx := 154) rfl (hI.wf.s rfl) rfl rfl (hI.wf.r rfl) rfl rfl ?_
            refine ev_ic f_X2_gatherFacts (nx := 155) (v := 3) rfl (by decide) rfl ?_
            refine ev_loc f_X2_gatherFacts (nx := 156) rfl rfl rfl rfl ?_
            refine ev_iastT f_X2_gatherFacts (nx := 157) rfl (hI.wf.s rfl) (by decide : (3:Int) ≤ (3:Int32).toInt) (by decide) (by decide : (3:Int32).toInt ≤ (3:Int)) (by decide) rfl (hI.astO (hI.wf.s rfl) (Or.inl (by decide)) (by decide +kernel)) (hX.upI (t_inA_ok rfl)) (fun g26 e26 hI hX => ?_)
            refine ev_loc f_X2_gatherFacts (nx := 158) rfl rfl rfl rfl ?_
            refine ev_getR f_X2_gatherFacts (nx := 161) rfl (hI.wf.s rfl) rfl rfl (hI.wf.r rfl) rfl rfl ?_
            refine ev_ic f_X2_gatherFacts (nx := 162) (v := 4) rfl (by decide) rfl ?_
            refine ev_loc f_X2_gatherFacts (nx := 163) rfl rfl rfl rfl ?_
            refine ev_gvI f_X2_gatherFacts (nx := 166) (w := (gi 45 5)) rfl (hI.wf.s rfl) rfl rfl ((by rw [e26]; exact x_up2_off (Or.inl (by decide)) : g26 45 5 = g25 45 5).trans ((by rw [e25]; exact x_up2_off (Or.inl (by decide)) : g25 45 5 = g24 45 5).trans ((by rw [e24]; exact x_up2_off (Or.inl (by decide)) : g24 45 5 = g23 45 5).trans ((by rw [e23]; exact x_up2_off (Or.inl (by decide)) : g23 45 5 = gi8 45 5).trans c8_1)))) rfl ?_
            refine ev_iastT f_X2_gatherFacts (nx := 167) rfl (hI.wf.s rfl) (by decide : (4:Int) ≤ (4:Int32).toInt) (by decide) (by decide : (4:Int32).toInt ≤ (4:Int)) (by decide) rfl (hI.astO (hI.wf.s rfl) (Or.inl (by decide)) (by decide +kernel)) (hX.upI (t_inA_ok rfl)) (fun g27 e27 hI hX => ?_)
            refine ev_loc f_X2_gatherFacts (nx := 168) rfl rfl rfl rfl ?_
            refine ev_getR f_X2_gatherFacts (nx := 171) rfl (hI.wf.s rfl) rfl rfl (hI.wf.r rfl) rfl rfl ?_
            refine ev_ic f_X2_gatherFacts (nx := 172) (v := 5) rfl (by decide) rfl ?_
            refine ev_loc f_X2_gatherFacts (nx := 173) rfl rfl rfl rfl ?_
            refine ev_gvI f_X2_gatherFacts (nx := 176) (w := (gi 45 5)) rfl (hI.wf.s rfl) rfl rfl ((by rw [e27]; exact x_up2_off (Or.inl (by decide)) : g27 45 5 = g26 45 5).trans ((by rw [e26]; exact x_up2_off (Or.inl (by decide)) : g26 45 5 = g25 45 5).trans ((by rw [e25]; exact x_up2_off (Or.inl (by decide)) : g25 45 5 = g24 45 5).trans ((by rw [e24]; exact x_up2_off (Or.inl (by decide)) : g24 45 5 = g23 45 5).trans ((by rw [e23]; exact x_up2_off (Or.inl (by decide)) : g23 45 5 = gi8 45 5).trans c8_1))))) rfl ?_
            refine ev_loc f_X2_gatherFacts (nx := 177) rfl rfl rfl rfl ?_
            refine ev_getI f_X2_gatherFacts (nx := 180) rfl (hI.wf.s rfl) rfl rfl rfl ?_
            refine ev_anyIE f_X2_gatherFacts (nx := 181) rfl rfl rfl rfl (fun z28 e28 => ?_)
            refine ev_iastT f_X2_gatherFacts (nx := 182) rfl (hI.wf.s rfl) (by decide : (5:Int) ≤ (5:Int32).toInt) (by decide) (by decide : (5:Int32).toInt ≤ (5:Int)) (by decide) rfl (hI.astO (hI.wf.s rfl) (Or.inl (by decide)) (by decide +kernel)) (hX.upI (t_inA_ok rfl)) (fun g29 e29 hI hX => ?_)
            exact ev_ret f_X2_gatherFacts rfl rfl rfl ⟨_, _, _, rfl, hI, hX, ⟨rfl, (show (∀ (P : Nat → Nat → Int) (Z : Nat → Int), t_KL P gi → t_CZ (P 0 0) Z gi → s_okz P Z → ∀ j : Nat, j < 6 → (g29 59 j).toInt = s_FA P (gi 45 5).toInt Z j) from (fun P Z hL hZ hO => (by
                                                            obtain ⟨h1, h2, h3, h4, h5⟩ := j8_1 P Z hL hZ hO
                                                            have g45 : gi8 45 = gi 45 := t_F_nc (t_F_X hXg8) rfl (by decide)
                                                            have hm := hL.1.1.2
                                                            have ho := hO.1
                                                            have ho2 := hO.2
                                                            have em : (gi8 45 5).toInt = (gi 45 5).toInt := congrArg Int32.toInt (congrFun g45 5)
                                                            have e52 : (gi8 52 0).toInt = (gi 52 0).toInt := congrArg Int32.toInt (congrFun (t_F_nc (t_F_X hXg8) rfl (by decide)) 0)
                                                            rw [show y8_4.toInt.toNat = (P 0 1).toNat by omega] at h5
                                                            obtain ⟨z0, -, -, z3, -⟩ := hZ.1
                                                            have e6 : (gi8 45 6).toInt = (gi 45 6).toInt ∧ (gi8 45 9).toInt = (gi 45 9).toInt := ⟨congrArg Int32.toInt (congrFun g45 6), congrArg Int32.toInt (congrFun g45 9)⟩
                                                            have e9 : (g27 45 9).toInt = Z 3 := by rw [e27, x_up2_off (Or.inl (by decide)), e26, x_up2_off (Or.inl (by decide)), e25, x_up2_off (Or.inl (by decide)), e24, x_up2_off (Or.inl (by decide)), e23, x_up2_off (Or.inl (by decide))]; omega
                                                            have lm := l1
                                                            have um := u1
                                                            have e5v := s_sub e28 rfl e9 (by omega)
                                                            intro j hj
                                                            have hj6 : j = 0 ∨ j = 1 ∨ j = 2 ∨ j = 3 ∨ j = 4 ∨ j = 5 := by omega
                                                            rcases hj6 with h | h | h | h | h | h
                                                            · subst h; show (g29 59 0).toInt = Z 0; rw [e29, x_up2_off (Or.inr (by decide)), e27, x_up2_off (Or.inr (by decide)), e26, x_up2_off (Or.inr (by decide)), e25, x_up2_off (Or.inr (by decide)), e24, x_up2_off (Or.inr (by decide)), e23, show (0 : Int32).toNatClampNeg = 0 from rfl, x_up2_at]; have kc : (1 : Int32).toInt = 1 := rfl; omega
                                                            · subst h; show (g29 59 1).toInt = s_cu (s_wS P (gi 45 5).toInt Z) (P 0 0).toNat; rw [e29, x_up2_off (Or.inr (by decide)), e27, x_up2_off (Or.inr (by decide)), e26, x_up2_off (Or.inr (by decide)), e25, x_up2_off (Or.inr (by decide)), e24, show (1 : Int32).toNatClampNeg = 1 from rfl, x_up2_at]; try omega
                                                            · subst h; show (g29 59 2).toInt = s_cu (s_wC P (gi 45 5).toInt) (P 0 1).toNat - s_cu (s_wC P (gi 45 5).toInt) (Z 4).toNat; rw [e29, x_up2_off (Or.inr (by decide)), e27, x_up2_off (Or.inr (by decide)), e26, x_up2_off (Or.inr (by decide)), e25, show (2 : Int32).toNatClampNeg = 2 from rfl, x_up2_at]; try omega
                                                            · subst h; show (g29 59 3).toInt = s_nx (P 1) (gi 45 5).toInt (P 0 0).toNat 0; rw [e29, x_up2_off (Or.inr (by decide)), e27, x_up2_off (Or.inr (by decide)), e26, show (3 : Int32).toNatClampNeg = 3 from rfl, x_up2_at]; try omega
                                                            · subst h; show (g29 59 4).toInt = (gi 45 5).toInt; rw [e29, x_up2_off (Or.inr (by decide)), e27, show (4 : Int32).toNatClampNeg = 4 from rfl, x_up2_at]; try omega
                                                            · subst h; show (g29 59 5).toInt = (gi 45 5).toInt - Z 3; rw [e29, show (5 : Int32).toNatClampNeg = 5 from rfl, x_up2_at]; try omega)))⟩⟩
        · have r30 : y8_4.toInt < (gi8 52 0).toInt := Int32.lt_iff_toInt_lt.mp (t_nle h10)
          have u31 : y8_4.toInt ≤ 5 := t_ltu (t_nle h10) u9 rfl
          have l32 : 1 ≤ (gi8 52 0).toInt := t_ltl (t_nle h10) l8_4 rfl
          refine ev_loc f_X2_gatherFacts (nx := 93) rfl rfl rfl rfl ?_
          refine ev_getR f_X2_gatherFacts (nx := 96) rfl (hI.wf.s rfl) rfl rfl (hI.wf.r rfl) rfl rfl ?_
          refine ev_getR f_X2_gatherFacts (nx := 99) rfl (hI.wf.s rfl) rfl rfl (hI.wf.r rfl) rfl rfl ?_
          refine ev_loc f_X2_gatherFacts (nx := 101) rfl rfl rfl rfl ?_
          refine ev_ialdT f_X2_gatherFacts (nx := 102) rfl (hI.wf.s rfl) l8_4 (by decide) u31 (by decide) rfl (fun w33 e33 => ?_)
          refine ev_loc f_X2_gatherFacts (nx := 103) rfl rfl rfl rfl ?_
          refine ev_gvI f_X2_gatherFacts (nx := 106) (w := (gi 45 5)) rfl (hI.wf.s rfl) rfl rfl c8_1 rfl ?_
          refine ev_if f_X2_gatherFacts (t1 := 112) (t2 := 109) rfl rfl rfl (fun h34 => ?_) (fun h34 => ?_)
          · have r35 : (gi 45 5).toInt < w33.toInt := Int32.lt_iff_toInt_lt.mp h34
            have l36 : 1 ≤ w33.toInt := t_ltl h34 l1 rfl
            refine ev_incR f_X2_gatherFacts (nx := 115) (c := 1) (l := 1) (u := 6) rfl rfl (by decide) (by decide) l8_4 u31 rfl rfl (by decide) (by decide) rfl (fun z37 e37 l37 u37 => ?_)
            refine ev_jmp f_X2_gatherFacts (nx := 80) rfl rfl rfl ?_
            refine ev_sub (lo := [(4, .int z37), (3, .int y8_3), (2, .int y4_2), (1, .int y4_1), (0, .ref 45)]) rfl (t_sc rfl (t_sc rfl (t_sc rfl (t_sc rfl (t_sc rfl t_sn))))) ?_
            exact ih8 _ (by omega) gi8 gl8 gr8 (z37) (y8_3) hI hX  (Int.le_trans (by decide : (0:Int) ≤ 1) l37) u37 l8_3 u8_3 c8_0 c8_1 c8_2 (by omega) (fun P Z hL hZ hO => (by
                                                            obtain ⟨h1, h2, h3, h4, h5⟩ := j8_1 P Z hL hZ hO
                                                            have g45 : gi8 45 = gi 45 := t_F_nc (t_F_X hX) rfl (by decide)
                                                            have g58 : gi8 58 = gi 58 := t_F_nc (t_F_X hX) rfl (by decide)
                                                            have hL2 := hL.fr (congrFun (t_F_nc (t_F_X hX) rfl (by decide)) 0) (congrFun (t_F_nc (t_F_X hX) rfl (by decide)) 0) (t_F_nc (t_F_X hX) rfl (by decide)) (t_F_nc (t_F_X hX) rfl (by decide)) (t_F_nc (t_F_X hX) rfl (by decide)) (t_F_nc (t_F_X hX) rfl (by decide)) (t_F_nc (t_F_X hX) rfl (by decide)) (t_F_nc (t_F_X hX) rfl (by decide)) (t_F_nc (t_F_X hX) rfl (by decide))
                                                            have hc := t_clamp (i := y8_4) (by omega)
                                                            have hm := hL2.1.1.2
                                                            obtain ⟨a1, -, -⟩ := hL2.2.2 y8_4.toNatClampNeg (by omega)
                                                            have hw := congrArg Int32.toInt e33
                                                            have em : (gi8 45 5).toInt = (gi 45 5).toInt := congrArg Int32.toInt (congrFun g45 5)
                                                            have hz4 := hO.2.1
                                                            have hk : s_cu (s_wC P (gi 45 5).toInt) z37.toInt.toNat = s_cu (s_wC P (gi 45 5).toInt) y8_4.toInt.toNat + s_wC P (gi 45 5).toInt y8_4.toInt.toNat := by rw [show z37.toInt.toNat = y8_4.toInt.toNat + 1 by omega]; rfl
                                                            have hf : s_wC P (gi 45 5).toInt y8_4.toInt.toNat = 0 := by unfold s_wC; rw [show y8_4.toInt.toNat = y8_4.toNatClampNeg by omega, if_neg (by omega)]
                                                            rw [hf] at hk
                                                            exact ⟨h1, h2, by omega, by omega, by omega⟩)) rfl
          · have r38 : w33.toInt ≤ (gi 45 5).toInt := Int32.le_iff_toInt_le.mp (t_nlt h34)
            have u39 : w33.toInt ≤ 301 := t_leu (t_nlt h34) u1
            refine ev_incR f_X2_gatherFacts (nx := 112) (c := 1) (l := 1) (u := 7) rfl rfl (by decide) (by decide) l8_3 u8_3 rfl rfl (by decide) (by decide) rfl (fun z40 e40 l40 u40 => ?_)
            refine ev_incR f_X2_gatherFacts (nx := 115) (c := 1) (l := 1) (u := 6) rfl rfl (by decide) (by decide) l8_4 u31 rfl rfl (by decide) (by decide) rfl (fun z41 e41 l41 u41 => ?_)
            refine ev_jmp f_X2_gatherFacts (nx := 80) rfl rfl rfl ?_
            refine ev_sub (lo := [(4, .int z41), (3, .int z40), (2, .int y4_2), (1, .int y4_1), (0, .ref 45)]) rfl (t_sc rfl (t_sc rfl (t_sc rfl (t_sc rfl (t_sc rfl t_sn))))) ?_
            exact ih8 _ (by omega) gi8 gl8 gr8 (z41) (z40) hI hX  (Int.le_trans (by decide : (0:Int) ≤ 1) l41) u41 (Int.le_trans (by decide : (0:Int) ≤ 1) l40) (by omega : z40.toInt ≤ (6:Int)) c8_0 c8_1 c8_2 (by omega) (fun P Z hL hZ hO => (by
                                                            obtain ⟨h1, h2, h3, h4, h5⟩ := j8_1 P Z hL hZ hO
                                                            have g45 : gi8 45 = gi 45 := t_F_nc (t_F_X hX) rfl (by decide)
                                                            have g58 : gi8 58 = gi 58 := t_F_nc (t_F_X hX) rfl (by decide)
                                                            have hL2 := hL.fr (congrFun (t_F_nc (t_F_X hX) rfl (by decide)) 0) (congrFun (t_F_nc (t_F_X hX) rfl (by decide)) 0) (t_F_nc (t_F_X hX) rfl (by decide)) (t_F_nc (t_F_X hX) rfl (by decide)) (t_F_nc (t_F_X hX) rfl (by decide)) (t_F_nc (t_F_X hX) rfl (by decide)) (t_F_nc (t_F_X hX) rfl (by decide)) (t_F_nc (t_F_X hX) rfl (by decide)) (t_F_nc (t_F_X hX) rfl (by decide))
                                                            have hc := t_clamp (i := y8_4) (by omega)
                                                            have hm := hL2.1.1.2
                                                            obtain ⟨a1, -, -⟩ := hL2.2.2 y8_4.toNatClampNeg (by omega)
                                                            have hw := congrArg Int32.toInt e33
                                                            have em : (gi8 45 5).toInt = (gi 45 5).toInt := congrArg Int32.toInt (congrFun g45 5)
                                                            have hz4 := hO.2.1
                                                            have hk : s_cu (s_wC P (gi 45 5).toInt) z41.toInt.toNat = s_cu (s_wC P (gi 45 5).toInt) y8_4.toInt.toNat + s_wC P (gi 45 5).toInt y8_4.toInt.toNat := by rw [show z41.toInt.toNat = y8_4.toInt.toNat + 1 by omega]; rfl
                                                            have hf : s_wC P (gi 45 5).toInt y8_4.toInt.toNat = 1 := by unfold s_wC; rw [show y8_4.toInt.toNat = y8_4.toNatClampNeg by omega, if_pos (by omega)]
                                                            rw [hf] at hk
                                                            have hb1 := s_cu_b (fun k => s_wC_b (P := P) (m := (gi 45 5).toInt) (k := k)) y8_4.toInt.toNat
                                                            have hb2 := s_cu_b (fun k => s_wC_b (P := P) (m := (gi 45 5).toInt) (k := k)) (Z 4).toNat
                                                            exact ⟨h1, h2, by omega, by omega, by omega⟩)) rfl
      refine ev_sub (lo := [(4, .int (gi4 45 10)), (3, .int 0), (2, .int y4_2), (1, .int y4_1), (0, .ref 45)]) rfl (t_sc rfl (t_sc rfl (t_sc rfl (t_sc rfl (t_sc rfl t_sn))))) ?_
      exact L8 _ gi4 gl4 gr4 ((gi4 45 10)) (0) hI hX  l7 u7 (by decide : (0:Int) ≤ (0:Int32).toInt) (Int.le_trans (by decide : (0:Int32).toInt ≤ (0:Int)) (by decide : (0:Int) ≤ 6)) rfl c4_0 c4_1 (by have kf42 : (0 : Int32).toInt = 0 := (by decide); omega) (fun P Z hL hZ hO => (by
                                                            obtain ⟨h1, h2, h3⟩ := j4_1 P Z hL hZ hO
                                                            have g45 : gi4 45 = gi 45 := t_F_nc (t_F_X hX) rfl (by decide)
                                                            have g58 : gi4 58 = gi 58 := t_F_nc (t_F_X hX) rfl (by decide)
                                                            have h4 := hZ.1.2.2.2.2
                                                            have e45 : (gi4 45 10).toInt = (gi 45 10).toInt := congrArg Int32.toInt (congrFun g45 10)
                                                            have k0 : (0 : Int32).toInt = 0 := rfl
                                                            rw [show (y4_3.toInt + 1).toNat = 0 by omega] at h2 h3
                                                            rw [show (P 0 0 - 1 - y4_3.toInt).toNat = (P 0 0).toNat by omega] at h2
                                                            have hs0 : s_cu (s_wS P (gi 45 5).toInt Z) 0 = 0 := rfl
                                                            exact ⟨by omega, h2, by omega, by have := hO.2.2; omega, by rw [show (gi4 45 10).toInt.toNat = (Z 4).toNat by omega]; omega⟩)) rfl
    · have l43 : 0 ≤ y4_3.toInt := t_lel (t_nlt h5) (by decide : (0:Int) ≤ (0:Int32).toInt)
      refine ev_loc f_X2_gatherFacts (nx := 21) rfl rfl rfl rfl ?_
      refine ev_getR f_X2_gatherFacts (nx := 24) rfl (hI.wf.s rfl) rfl rfl (hI.wf.r rfl) rfl rfl ?_
      refine ev_getR f_X2_gatherFacts (nx := 27) rfl (hI.wf.s rfl) rfl rfl (hI.wf.r rfl) rfl rfl ?_
      refine ev_loc f_X2_gatherFacts (nx := 28) rfl rfl rfl rfl ?_
      refine ev_ialdT f_X2_gatherFacts (nx := 29) rfl (hI.wf.s rfl) l43 (by decide) u4_3 (by decide) rfl (fun w44 e44 => ?_)
      refine ev_loc f_X2_gatherFacts (nx := 30) rfl rfl rfl rfl ?_
      refine ev_gvI f_X2_gatherFacts (nx := 33) (w := (gi 45 5)) rfl (hI.wf.s rfl) rfl rfl c4_0 rfl ?_
      refine ev_if f_X2_gatherFacts (t1 := 54) (t2 := 36) rfl rfl rfl (fun h45 => ?_) (fun h45 => ?_)
      · have r46 : w44.toInt ≤ (gi 45 5).toInt := Int32.le_iff_toInt_le.mp h45
        have u47 : w44.toInt ≤ 301 := t_leu h45 u1
        refine ev_loc f_X2_gatherFacts (nx := 55) rfl rfl rfl rfl ?_
        refine ev_getR f_X2_gatherFacts (nx := 58) rfl (hI.wf.s rfl) rfl rfl (hI.wf.r rfl) rfl rfl ?_
        refine ev_loc f_X2_gatherFacts (nx := 59) rfl rfl rfl rfl ?_
        refine ev_ialdT f_X2_gatherFacts (nx := 60) rfl (hI.wf.s rfl) l43 (by decide) u4_3 (by decide) rfl (fun w48 e48 => ?_)
        refine ev_if f_X2_gatherFacts (t1 := 63) (t2 := 66) rfl rfl rfl (fun h49 => ?_) (fun h49 => ?_)
        · have u50 : w48.toInt ≤ 0 := t_equ h49 (by decide : (0:Int32).toInt ≤ (0:Int))
          have l51 : 0 ≤ w48.toInt := t_eql h49 (by decide : (0:Int) ≤ (0:Int32).toInt)
          refine ev_incR f_X2_gatherFacts (nx := 66) (c := 1) (l := 1) (u := 7) rfl rfl (by decide) (by decide) l4_1 u4_1 rfl rfl (by decide) (by decide) rfl (fun z52 e52 l52 u52 => ?_)
          refine ev_incR f_X2_gatherFacts (nx := 69) (c := (-1)) (l := (-1)) (u := 4) rfl rfl (by decide) (by decide) l43 u4_3 rfl rfl (by decide) (by decide) rfl (fun z53 e53 l53 u53 => ?_)
          refine ev_jmp f_X2_gatherFacts (nx := 16) rfl rfl rfl ?_
          refine ev_sub (lo := [(3, .int z53), (2, .int y4_2), (1, .int z52), (0, .ref 45)]) rfl (t_sc rfl (t_sc rfl (t_sc rfl (t_sc rfl t_sn)))) ?_
          exact ih4 _ (by omega) gi4 gl4 gr4 (z53) (y4_2) (z52) hI hX  l53 (Int.le_trans u53 (by decide : (4:Int) ≤ 5)) (Int.le_trans (by decide : (0:Int) ≤ 1) l52) (by omega : z52.toInt ≤ (6:Int)) c4_0 c4_1 (by omega) (fun P Z hL hZ hO => (by
                                                            obtain ⟨h1, h2, h3⟩ := j4_1 P Z hL hZ hO
                                                            have g45 : gi4 45 = gi 45 := t_F_nc (t_F_X hX) rfl (by decide)
                                                            have g58 : gi4 58 = gi 58 := t_F_nc (t_F_X hX) rfl (by decide)
                                                            have hL2 := hL.fr (congrFun (t_F_nc (t_F_X hX) rfl (by decide)) 0) (congrFun (t_F_nc (t_F_X hX) rfl (by decide)) 0) (t_F_nc (t_F_X hX) rfl (by decide)) (t_F_nc (t_F_X hX) rfl (by decide)) (t_F_nc (t_F_X hX) rfl (by decide)) (t_F_nc (t_F_X hX) rfl (by decide)) (t_F_nc (t_F_X hX) rfl (by decide)) (t_F_nc (t_F_X hX) rfl (by decide)) (t_F_nc (t_F_X hX) rfl (by decide))
                                                            have hZ2 := hZ.eq (fun j _ _ => congrFun g45 j) g58
                                                            have hc := t_clamp (i := y4_3) (by omega)
                                                            obtain ⟨a1, -, -, -⟩ := hL2.2.1 y4_3.toNatClampNeg (by omega)
                                                            have hw := congrArg Int32.toInt e44
                                                            have em : (gi4 45 5).toInt = (gi 45 5).toInt := congrArg Int32.toInt (congrFun g45 5)
                                                            have e1 : (z53.toInt + 1).toNat = y4_3.toNatClampNeg := by omega
                                                            have e2 : (y4_3.toInt + 1).toNat = y4_3.toNatClampNeg + 1 := by omega
                                                            have e3 : (P 0 0 - 1 - z53.toInt).toNat = (P 0 0 - 1 - y4_3.toInt).toNat + 1 := by omega
                                                            have hk : s_cu (s_wS P (gi 45 5).toInt Z) (y4_3.toNatClampNeg + 1) = s_cu (s_wS P (gi 45 5).toInt Z) y4_3.toNatClampNeg + s_wS P (gi 45 5).toInt Z y4_3.toNatClampNeg := rfl
                                                            rw [e2] at h2 h3
                                                            rw [e1, e3]
                                                            have hs := hZ2.2.2 y4_3.toNatClampNeg (by omega)
                                                            have hws := congrArg Int32.toInt e48
                                                            have hf : s_wS P (gi 45 5).toInt Z y4_3.toNatClampNeg = 1 := if_pos ⟨by omega, by omega⟩
                                                            have hb1 := s_cu_b (fun k => s_wS_b (P := P) (m := (gi 45 5).toInt) (Z := Z) (k := k)) (P 0 0).toNat
                                                            have hb2 := s_cu_b (fun k => s_wS_b (P := P) (m := (gi 45 5).toInt) (Z := Z) (k := k)) (y4_3.toNatClampNeg + 1)
                                                            refine ⟨by omega, ?_, by omega⟩
                                                            rw [s_nx_n (by omega)]; exact h2)) rfl
        · have r54 : w48.toInt ≠ 0 := fun e => h49 (Int32.toInt_inj.mp (e.trans (by decide : (0:Int) = (0 : Int32).toInt)))
          refine ev_incR f_X2_gatherFacts (nx := 69) (c := (-1)) (l := (-1)) (u := 4) rfl rfl (by decide) (by decide) l43 u4_3 rfl rfl (by decide) (by decide) rfl (fun z55 e55 l55 u55 => ?_)
          refine ev_jmp f_X2_gatherFacts (nx := 16) rfl rfl rfl ?_
          refine ev_sub (lo := [(3, .int z55), (2, .int y4_2), (1, .int y4_1), (0, .ref 45)]) rfl (t_sc rfl (t_sc rfl (t_sc rfl (t_sc rfl t_sn)))) ?_
          exact ih4 _ (by omega) gi4 gl4 gr4 (z55) (y4_2) (y4_1) hI hX  l55 (Int.le_trans u55 (by decide : (4:Int) ≤ 5)) l4_1 u4_1 c4_0 c4_1 (by omega) (fun P Z hL hZ hO => (by
                                                            obtain ⟨h1, h2, h3⟩ := j4_1 P Z hL hZ hO
                                                            have g45 : gi4 45 = gi 45 := t_F_nc (t_F_X hX) rfl (by decide)
                                                            have g58 : gi4 58 = gi 58 := t_F_nc (t_F_X hX) rfl (by decide)
                                                            have hL2 := hL.fr (congrFun (t_F_nc (t_F_X hX) rfl (by decide)) 0) (congrFun (t_F_nc (t_F_X hX) rfl (by decide)) 0) (t_F_nc (t_F_X hX) rfl (by decide)) (t_F_nc (t_F_X hX) rfl (by decide)) (t_F_nc (t_F_X hX) rfl (by decide)) (t_F_nc (t_F_X hX) rfl (by decide)) (t_F_nc (t_F_X hX) rfl (by decide)) (t_F_nc (t_F_X hX) rfl (by decide)) (t_F_nc (t_F_X hX) rfl (by decide))
                                                            have hZ2 := hZ.eq (fun j _ _ => congrFun g45 j) g58
                                                            have hc := t_clamp (i := y4_3) (by omega)
                                                            obtain ⟨a1, -, -, -⟩ := hL2.2.1 y4_3.toNatClampNeg (by omega)
                                                            have hw := congrArg Int32.toInt e44
                                                            have em : (gi4 45 5).toInt = (gi 45 5).toInt := congrArg Int32.toInt (congrFun g45 5)
                                                            have e1 : (z55.toInt + 1).toNat = y4_3.toNatClampNeg := by omega
                                                            have e2 : (y4_3.toInt + 1).toNat = y4_3.toNatClampNeg + 1 := by omega
                                                            have e3 : (P 0 0 - 1 - z55.toInt).toNat = (P 0 0 - 1 - y4_3.toInt).toNat + 1 := by omega
                                                            have hk : s_cu (s_wS P (gi 45 5).toInt Z) (y4_3.toNatClampNeg + 1) = s_cu (s_wS P (gi 45 5).toInt Z) y4_3.toNatClampNeg + s_wS P (gi 45 5).toInt Z y4_3.toNatClampNeg := rfl
                                                            rw [e2] at h2 h3
                                                            rw [e1, e3]
                                                            have hs := hZ2.2.2 y4_3.toNatClampNeg (by omega)
                                                            have hws := congrArg Int32.toInt e48
                                                            have hf : s_wS P (gi 45 5).toInt Z y4_3.toNatClampNeg = 0 := if_neg (fun hh => by have := hh.1; omega)
                                                            refine ⟨by omega, ?_, by omega⟩
                                                            rw [s_nx_n (by omega)]; exact h2)) rfl
      · have r56 : (gi 45 5).toInt < w44.toInt := Int32.lt_iff_toInt_lt.mp (t_nle h45)
        have l57 : 1 ≤ w44.toInt := t_ltl (t_nle h45) l1 rfl
        refine ev_loc f_X2_gatherFacts (nx := 37) rfl rfl rfl rfl ?_
        refine ev_getR f_X2_gatherFacts (nx := 40) rfl (hI.wf.s rfl) rfl rfl (hI.wf.r rfl) rfl rfl ?_
        refine ev_getR f_X2_gatherFacts (nx := 43) rfl (hI.wf.s rfl) rfl rfl (hI.wf.r rfl) rfl rfl ?_
        refine ev_loc f_X2_gatherFacts (nx := 44) rfl rfl rfl rfl ?_
        refine ev_ialdT f_X2_gatherFacts (nx := 45) rfl (hI.wf.s rfl) l43 (by decide) u4_3 (by decide) rfl (fun w58 e58 => ?_)
        rw [e58.trans e44.symm]
        refine ev_loc f_X2_gatherFacts (nx := 46) rfl rfl rfl rfl ?_
        refine ev_gvI f_X2_gatherFacts (nx := 49) (w := (gi 45 5)) rfl (hI.wf.s rfl) rfl rfl c4_0 rfl ?_
        refine ev_subR f_X2_gatherFacts (nx := 50) (l := (-300)) (u := 2147483647) rfl l57 (t_hi w44) l1 u1 rfl rfl (by decide) (by decide) rfl (fun z59 e59 l59 u59 => ?_)
        refine ev_loc f_X2_gatherFacts (nx := 51) (lo' := [(2, .int z59), (3, .int y4_3), (1, .int y4_1), (0, .ref 45)]) rfl rfl rfl rfl ?_
        refine ev_jmp f_X2_gatherFacts (nx := 66) rfl rfl rfl ?_
        refine ev_incR f_X2_gatherFacts (nx := 69) (c := (-1)) (l := (-1)) (u := 4) rfl rfl (by decide) (by decide) l43 u4_3 rfl rfl (by decide) (by decide) rfl (fun z60 e60 l60 u60 => ?_)
        refine ev_jmp f_X2_gatherFacts (nx := 16) rfl rfl rfl ?_
        refine ev_sub (lo := [(3, .int z60), (2, .int z59), (1, .int y4_1), (0, .ref 45)]) rfl (t_sc rfl (t_sc rfl (t_sc rfl (t_sc rfl t_sn)))) ?_
        exact ih4 _ (by omega) gi4 gl4 gr4 (z60) (z59) (y4_1) hI hX  l60 (Int.le_trans u60 (by decide : (4:Int) ≤ 5)) l4_1 u4_1 c4_0 c4_1 (by omega) (fun P Z hL hZ hO => (by
                                                            obtain ⟨h1, h2, h3⟩ := j4_1 P Z hL hZ hO
                                                            have g45 : gi4 45 = gi 45 := t_F_nc (t_F_X hX) rfl (by decide)
                                                            have g58 : gi4 58 = gi 58 := t_F_nc (t_F_X hX) rfl (by decide)
                                                            have hL2 := hL.fr (congrFun (t_F_nc (t_F_X hX) rfl (by decide)) 0) (congrFun (t_F_nc (t_F_X hX) rfl (by decide)) 0) (t_F_nc (t_F_X hX) rfl (by decide)) (t_F_nc (t_F_X hX) rfl (by decide)) (t_F_nc (t_F_X hX) rfl (by decide)) (t_F_nc (t_F_X hX) rfl (by decide)) (t_F_nc (t_F_X hX) rfl (by decide)) (t_F_nc (t_F_X hX) rfl (by decide)) (t_F_nc (t_F_X hX) rfl (by decide))
                                                            have hZ2 := hZ.eq (fun j _ _ => congrFun g45 j) g58
                                                            have hc := t_clamp (i := y4_3) (by omega)
                                                            obtain ⟨a1, -, -, -⟩ := hL2.2.1 y4_3.toNatClampNeg (by omega)
                                                            have hw := congrArg Int32.toInt e44
                                                            have em : (gi4 45 5).toInt = (gi 45 5).toInt := congrArg Int32.toInt (congrFun g45 5)
                                                            have e1 : (z60.toInt + 1).toNat = y4_3.toNatClampNeg := by omega
                                                            have e2 : (y4_3.toInt + 1).toNat = y4_3.toNatClampNeg + 1 := by omega
                                                            have e3 : (P 0 0 - 1 - z60.toInt).toNat = (P 0 0 - 1 - y4_3.toInt).toNat + 1 := by omega
                                                            have hk : s_cu (s_wS P (gi 45 5).toInt Z) (y4_3.toNatClampNeg + 1) = s_cu (s_wS P (gi 45 5).toInt Z) y4_3.toNatClampNeg + s_wS P (gi 45 5).toInt Z y4_3.toNatClampNeg := rfl
                                                            rw [e2] at h2 h3
                                                            rw [e1, e3]
                                                            have hf : s_wS P (gi 45 5).toInt Z y4_3.toNatClampNeg = 0 := if_neg (fun hh => by have := hh.2; omega)
                                                            refine ⟨by omega, ?_, by omega⟩
                                                            rw [s_nx_s (by omega)]; omega)) rfl
  refine ev_sub (lo := [(3, .int z3), (2, .int 300), (1, .int 0), (0, .ref 45)]) rfl (t_sc rfl (t_sc rfl (t_sc rfl (t_sc rfl t_sn)))) ?_
  exact L4 _ gi gl gr (z3) (300) (0) hI hX  l3 u3 (by decide : (0:Int) ≤ (0:Int32).toInt) (Int.le_trans (by decide : (0:Int32).toInt ≤ (0:Int)) (by decide : (0:Int) ≤ 6)) rfl rfl (by have kf61 : (0 : Int32).toInt = 0 := (by decide); omega) (fun P Z hL hZ hO => (by
                                                            have hm := hL.1.1.1
                                                            have k0 : (0 : Int32).toInt = 0 := rfl
                                                            have k3 : (300 : Int32).toInt = 300 := rfl
                                                            refine ⟨by omega, ?_, ?_⟩
                                                            · rw [show (P 0 0 - 1 - z3.toInt).toNat = 0 by omega]; exact k3
                                                            · rw [show (z3.toInt + 1).toNat = (P 0 0).toNat by omega]; omega)) rfl
