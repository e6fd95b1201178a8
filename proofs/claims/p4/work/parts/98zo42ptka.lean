/-! ===== printed by riv.py: keep, waits of the class ===== -/
noncomputable def wl_k_keep : List (Nat × Nat) := [(0, 0), (45, 4), (45, 5), (45, 6), (45, 7), (45, 8), (45, 9), (45, 10), (45, 11), (45, 12), (45, 13), (45, 14), (45, 15), (46, 0), (47, 9999), (48, 9999), (49, 9999), (50, 9999), (51, 9999), (52, 0), (53, 9999), (54, 9999), (55, 9999), (56, 9999), (57, 9999), (58, 9999), (59, 9999), (60, 9999)]
noncomputable def Q_k_keep (gi : Nat → Nat → Int32) (gl : Nat → Nat → Int64) (gr : Nat → Nat → Value) (ar1 : Int32) : Int32 → (Nat → Nat → Int32) → (Nat → Nat → Int64) → (Nat → Nat → Value) → Prop := fun (v : Int32) (gi2 : Nat → Nat → Int32) (gl2 : Nat → Nat → Int64) (gr2 : Nat → Nat → Value) => ∀ (u : Nat) (D : s_D), gr 0 6 = .ref u → t_VL gr u → t_CV gi gl u D → t_Cb D → (u = 3 ∨ 102 ≤ u) → (∀ s : Nat, (s : Int) < D 1 → 0 ≤ D (56 + 5 * s) ∧ D (56 + 5 * s) ≤ 1) → s_DB D → D 4 ≤ 20 → D 5 ≤ 20 → (((-1 ≤ ar1.toInt ∧ ar1.toInt ≤ 9999) ∧ gr 0 7 ≠ .null) → ∀ (u2 : Nat) (R : List (List Int × Int)), gr 0 7 = .ref u2 → 102 ≤ u2 → t_UK gi u2 R → s_gd R → v = Int32.ofInt (s_day D R ar1.toInt 5)) ∧ (¬ ((-1 ≤ ar1.toInt ∧ ar1.toInt ≤ 9999) ∧ gr 0 7 ≠ .null) → v.toInt = -1)
theorem c_k_keep {X : x_Ext} {d : Nat} {sh : List (Nat ⊕ (Nat × Nat))} {gi : Nat → Nat → Int32} {gl : Nat → Nat → Int64} {gr : Nat → Nat → Value} (hI : t_I sh gi gr) (ar1 : Int32) : x_Me X (d + 6) n_X11_keep [.ref 0, .int ar1] (sh, gi, gl, gr) (t_PI wl_k_keep sh gi gl gr (-2147483648) 2147483647 (Q_k_keep gi gl gr ar1)) := by
  have hX : t_X wl_k_keep sh gi gl gr gi gl gr := t_X.rf
  refine me_i f_X11_keep (hI.wf.s rfl) rfl rfl rfl ?_
  refine ev_loc f_X11_keep (nx := 1) rfl rfl rfl rfl ?_
  refine ev_ic f_X11_keep (nx := 2) (v := -1) rfl (by decide) rfl ?_
  refine ev_if f_X11_keep (t1 := 12) (t2 := 5) rfl rfl rfl (fun h1 => ?_) (fun h1 => ?_)
  · have u2 : ar1.toInt ≤ (-2) := t_ltu h1 (by decide : ((-1):Int32).toInt ≤ ((-1):Int)) rfl
    refine ev_loc f_X11_keep (nx := 13) rfl rfl rfl rfl ?_
    refine ev_ic f_X11_keep (nx := 14) (v := 1) rfl (by decide) rfl ?_
    refine ev_inV2 f_X11_keep (nx := 17) (lo2 := [(0, .ref 0), (1, .int 1)]) rfl rfl rfl rfl f_X11_refuse (hI.wf.s rfl) rfl rfl rfl rfl rfl ?_
    refine ev_loc f_X11_refuse (nx := 1) rfl rfl rfl rfl ?_
    refine ev_loc f_X11_refuse (nx := 2) rfl rfl rfl rfl ?_
    refine ev_putIT f_X11_refuse (nx := 5) rfl (hI.wf.s rfl) rfl rfl rfl (hI.put0 (hI.wf.s rfl) rfl rfl) (hX.upI rfl) (fun g3 e3 hI hX => ?_)
    refine ev_ic f_X11_refuse (nx := 6) (v := -1) rfl (by decide) rfl ?_
    refine ev_retK1 f_X11_refuse rfl rfl rfl ?_
    exact ev_ret f_X11_keep rfl rfl rfl ⟨_, _, _, rfl, hI, hX, ⟨_, rfl, (Int.le_trans (by decide : ((-2147483648):Int) ≤ (-1)) (by decide : ((-1):Int) ≤ ((-1):Int32).toInt)), (Int.le_trans (by decide : ((-1):Int32).toInt ≤ ((-1):Int)) (by decide : ((-1):Int) ≤ 2147483647)), (show ∀ (u : Nat) (D : s_D), gr 0 6 = .ref u → t_VL gr u → t_CV gi gl u D → t_Cb D → (u = 3 ∨ 102 ≤ u) → (∀ s : Nat, (s : Int) < D 1 → 0 ≤ D (56 + 5 * s) ∧ D (56 + 5 * s) ≤ 1) → s_DB D → D 4 ≤ 20 → D 5 ≤ 20 → (((-1 ≤ ar1.toInt ∧ ar1.toInt ≤ 9999) ∧ gr 0 7 ≠ .null) → ∀ (u2 : Nat) (R : List (List Int × Int)), gr 0 7 = .ref u2 → 102 ≤ u2 → t_UK gi u2 R → s_gd R → ((-1) : Int32) = Int32.ofInt (s_day D R ar1.toInt 5)) ∧ (¬ ((-1 ≤ ar1.toInt ∧ ar1.toInt ≤ 9999) ∧ gr 0 7 ≠ .null) → ((-1) : Int) = -1) from (fun u D hu hl hc hb hv hsl hd h4 h5 => ⟨fun h => absurd h.1 (by omega), fun _ => rfl⟩))⟩⟩
  · have l4 : (-1) ≤ ar1.toInt := t_lel (t_nlt h1) (by decide : ((-1):Int) ≤ ((-1):Int32).toInt)
    refine ev_loc f_X11_keep (nx := 6) rfl rfl rfl rfl ?_
    refine ev_sp f_X11_keep (nx := 9) (v := 9999) rfl (by decide) rfl ?_
    refine ev_if f_X11_keep (t1 := 18) (t2 := 12) rfl rfl rfl (fun h5 => ?_) (fun h5 => ?_)
    · have u6 : ar1.toInt ≤ 9999 := t_leu h5 (by decide : (9999:Int32).toInt ≤ (9999:Int))
      refine ev_loc f_X11_keep (nx := 19) rfl rfl rfl rfl ?_
      rcases hI.2.2.2.1.2.1 with e7 | ⟨a7, e7, p7⟩
      · refine ev_getR f_X11_keep (nx := 22) rfl (hI.wf.s rfl) rfl rfl e7 rfl rfl ?_
        refine ev_jmp f_X11_keep (nx := 25) rfl rfl rfl ?_
        refine ev_loc f_X11_keep (nx := 26) rfl rfl rfl rfl ?_
        refine ev_bp f_X11_keep (nx := 28) (v := 6) rfl (by decide) rfl ?_
        refine ev_inV2 f_X11_keep (nx := 31) (lo2 := [(0, .ref 0), (1, .int 6)]) rfl rfl rfl rfl f_X11_refuse (hI.wf.s rfl) rfl rfl rfl rfl rfl ?_
        refine ev_loc f_X11_refuse (nx := 1) rfl rfl rfl rfl ?_
        refine ev_loc f_X11_refuse (nx := 2) rfl rfl rfl rfl ?_
        refine ev_putIT f_X11_refuse (nx := 5) rfl (hI.wf.s rfl) rfl rfl rfl (hI.put0 (hI.wf.s rfl) rfl rfl) (hX.upI rfl) (fun g8 e8 hI hX => ?_)
        refine ev_ic f_X11_refuse (nx := 6) (v := -1) rfl (by decide) rfl ?_
        refine ev_retK1 f_X11_refuse rfl rfl rfl ?_
        exact ev_ret f_X11_keep rfl rfl rfl ⟨_, _, _, rfl, hI, hX, ⟨_, rfl, (Int.le_trans (by decide : ((-2147483648):Int) ≤ (-1)) (by decide : ((-1):Int) ≤ ((-1):Int32).toInt)), (Int.le_trans (by decide : ((-1):Int32).toInt ≤ ((-1):Int)) (by decide : ((-1):Int) ≤ 2147483647)), (show ∀ (u : Nat) (D : s_D), gr 0 6 = .ref u → t_VL gr u → t_CV gi gl u D → t_Cb D → (u = 3 ∨ 102 ≤ u) → (∀ s : Nat, (s : Int) < D 1 → 0 ≤ D (56 + 5 * s) ∧ D (56 + 5 * s) ≤ 1) → s_DB D → D 4 ≤ 20 → D 5 ≤ 20 → (((-1 ≤ ar1.toInt ∧ ar1.toInt ≤ 9999) ∧ gr 0 7 ≠ .null) → ∀ (u2 : Nat) (R : List (List Int × Int)), gr 0 7 = .ref u2 → 102 ≤ u2 → t_UK gi u2 R → s_gd R → ((-1) : Int32) = Int32.ofInt (s_day D R ar1.toInt 5)) ∧ (¬ ((-1 ≤ ar1.toInt ∧ ar1.toInt ≤ 9999) ∧ gr 0 7 ≠ .null) → ((-1) : Int) = -1) from (fun u D hu hl hc hb hv hsl hd h4 h5 => ⟨fun h => absurd ((hX.1 0 7 rfl).2.2.symm.trans e7) h.2, fun _ => rfl⟩))⟩⟩
      · refine ev_getR f_X11_keep (nx := 22) rfl (hI.wf.s rfl) rfl rfl e7 rfl rfl ?_
        refine ev_jmp f_X11_keep (nx := 32) rfl rfl rfl ?_
        refine ev_loc f_X11_keep (nx := 33) rfl rfl rfl rfl ?_
        refine ev_getR f_X11_keep (nx := 36) rfl (hI.wf.s rfl) rfl rfl (hI.wf.r rfl) rfl rfl ?_
        refine ev_loc f_X11_keep (nx := 37) rfl rfl rfl rfl ?_
        obtain ⟨a9, e9, p9⟩ := hI.2.2.2.1.1
        refine ev_getR f_X11_keep (nx := 40) rfl (hI.wf.s rfl) rfl rfl e9 rfl rfl ?_
        refine ev_loc f_X11_keep (nx := 41) rfl rfl rfl rfl ?_
        refine ev_getR f_X11_keep (nx := 44) (v := .ref a7) rfl (hI.wf.s rfl) rfl rfl e7 rfl rfl ?_
        refine ev_loc f_X11_keep (nx := 45) rfl rfl rfl rfl ?_
        refine ev_qN f_X11_keep (nx := 48) (r := []) rfl rfl rfl rfl rfl rfl rfl (c_k_spendDay hI (a9) p9 (a7) p7 (ar1)) rfl hX rfl (fun gi10 gl10 gr10 hI hX hC10 q10 => ?_)
        have q10 : (∀ (D : s_D) (R : List (List Int × Int)), t_VL gr a9 → t_CV gi gl a9 D → (a9 = 3 ∨ 102 ≤ a9) → t_Cb D → (∀ s : Nat, (s : Int) < D 1 → 0 ≤ D (56 + 5 * s) ∧ D (56 + 5 * s) ≤ 1) → s_DB D → D 4 ≤ 20 → D 5 ≤ 20 → (-1 ≤ ar1.toInt ∧ ar1.toInt ≤ 9999) → t_UK gi a7 R → s_gd R → 102 ≤ a7 → ∃ Z, t_KL (s_PY D ar1.toInt) gi10 ∧ t_CZ ((s_PY D ar1.toInt) 0 0) Z gi10 ∧ Z 5 = (s_dy (s_PY D ar1.toInt) (fun F => s_ac F R) 301 0 (fun _ => (0 : Int))) 5 ∧ Z 6 = (s_dy (s_PY D ar1.toInt) (fun F => s_ac F R) 301 0 (fun _ => (0 : Int))) 6 ∧ s_lf (s_PY D ar1.toInt) Z = s_lf (s_PY D ar1.toInt) (s_dy (s_PY D ar1.toInt) (fun F => s_ac F R) 301 0 (fun _ => (0 : Int)))) := q10
        replace p7 := p7.ext hC10.2
        replace p9 := p9.ext hC10.2
        refine ev_loc f_X11_keep (nx := 49) rfl rfl rfl rfl ?_
        refine ev_getR f_X11_keep (nx := 52) rfl (hI.wf.s rfl) rfl rfl (hI.wf.r rfl) rfl rfl ?_
        refine ev_c0 f_X11_keep (nx := 55) (r := []) rfl rfl rfl rfl rfl rfl rfl (c_tellDay hI ) rfl hX rfl (fun gi11 gl11 gr11 hI hX hC11 => ?_)
        replace p7 := p7.ext hC11.2
        replace p9 := p9.ext hC11.2
        refine ev_loc f_X11_keep (nx := 56) rfl rfl rfl rfl ?_
        refine ev_loc f_X11_keep (nx := 57) rfl rfl rfl rfl ?_
        refine ev_getR f_X11_keep (nx := 60) rfl (hI.wf.s rfl) rfl rfl (hI.wf.r rfl) rfl rfl ?_
        refine ev_getI f_X11_keep (nx := 63) rfl (hI.wf.s rfl) rfl rfl rfl ?_
        refine ev_inV2 f_X11_keep (nx := 66) (lo2 := [(0, .ref 0), (1, .int (gi11 45 11))]) rfl rfl rfl rfl f_X11_answer (hI.wf.s rfl) rfl rfl rfl rfl rfl ?_
        refine ev_loc f_X11_answer (nx := 1) rfl rfl rfl rfl ?_
        refine ev_ic f_X11_answer (nx := 2) (v := 0) rfl (by decide) rfl ?_
        refine ev_putIT f_X11_answer (nx := 5) rfl (hI.wf.s rfl) rfl rfl rfl (hI.put0 (hI.wf.s rfl) rfl rfl) (hX.upI rfl) (fun g12 e12 hI hX => ?_)
        refine ev_loc f_X11_answer (nx := 6) rfl rfl rfl rfl ?_
        refine ev_retK1 f_X11_answer rfl rfl rfl ?_
        exact ev_ret f_X11_keep rfl rfl rfl ⟨_, _, _, rfl, hI, hX, ⟨_, rfl, (t_lo (gi11 45 11)), (t_hi (gi11 45 11)), (show ∀ (u : Nat) (D : s_D), gr 0 6 = .ref u → t_VL gr u → t_CV gi gl u D → t_Cb D → (u = 3 ∨ 102 ≤ u) → (∀ s : Nat, (s : Int) < D 1 → 0 ≤ D (56 + 5 * s) ∧ D (56 + 5 * s) ≤ 1) → s_DB D → D 4 ≤ 20 → D 5 ≤ 20 → (((-1 ≤ ar1.toInt ∧ ar1.toInt ≤ 9999) ∧ gr 0 7 ≠ .null) → ∀ (u2 : Nat) (R : List (List Int × Int)), gr 0 7 = .ref u2 → 102 ≤ u2 → t_UK gi u2 R → s_gd R → (gi11 45 11) = Int32.ofInt (s_day D R ar1.toInt 5)) ∧ (¬ ((-1 ≤ ar1.toInt ∧ ar1.toInt ≤ 9999) ∧ gr 0 7 ≠ .null) → (gi11 45 11).toInt = -1) from (fun u D hu hl hc hb hv hsl hd h4 h5 => ⟨fun _ u2 R hu7 h2 hU hg => (by
                                                            have ha0 : a9 = u := Value.ref.inj (e9.symm.trans hu)
                                                            have hr7 : a7 = u2 := Value.ref.inj (((hC11.1 0 7 rfl).2.2.trans ((hC10.1 0 7 rfl).2.2.trans e7)).symm.trans ((hX.1 0 7 rfl).2.2.trans hu7))
                                                            subst ha0
                                                            subst hr7
                                                            obtain ⟨Z, hL, hZ, e5, e6, e7⟩ := q10 D R hl hc hv hb hsl hd h4 h5 ⟨by omega, by omega⟩ hU hg h2
                                                            have fc := t_F_X hC11
                                                            exact ((fc 45 11 (by decide) rfl).1.trans hZ.2.1.1).trans (congrArg Int32.ofInt e5)), fun h => absurd (show _ from ⟨⟨by omega, by omega⟩, (fun hh => (by cases ((hX.1 0 7 rfl).2.2.trans hh).symm.trans ((hC11.1 0 7 rfl).2.2.trans ((hC10.1 0 7 rfl).2.2.trans e7))))⟩) h⟩))⟩⟩
    · have l13 : 10000 ≤ ar1.toInt := t_ltl (t_nle h5) (by decide : (9999:Int) ≤ (9999:Int32).toInt) rfl
      refine ev_loc f_X11_keep (nx := 13) rfl rfl rfl rfl ?_
      refine ev_ic f_X11_keep (nx := 14) (v := 1) rfl (by decide) rfl ?_
      refine ev_inV2 f_X11_keep (nx := 17) (lo2 := [(0, .ref 0), (1, .int 1)]) rfl rfl rfl rfl f_X11_refuse (hI.wf.s rfl) rfl rfl rfl rfl rfl ?_
      refine ev_loc f_X11_refuse (nx := 1) rfl rfl rfl rfl ?_
      refine ev_loc f_X11_refuse (nx := 2) rfl rfl rfl rfl ?_
      refine ev_putIT f_X11_refuse (nx := 5) rfl (hI.wf.s rfl) rfl rfl rfl (hI.put0 (hI.wf.s rfl) rfl rfl) (hX.upI rfl) (fun g14 e14 hI hX => ?_)
      refine ev_ic f_X11_refuse (nx := 6) (v := -1) rfl (by decide) rfl ?_
      refine ev_retK1 f_X11_refuse rfl rfl rfl ?_
      exact ev_ret f_X11_keep rfl rfl rfl ⟨_, _, _, rfl, hI, hX, ⟨_, rfl, (Int.le_trans (by decide : ((-2147483648):Int) ≤ (-1)) (by decide : ((-1):Int) ≤ ((-1):Int32).toInt)), (Int.le_trans (by decide : ((-1):Int32).toInt ≤ ((-1):Int)) (by decide : ((-1):Int) ≤ 2147483647)), (show ∀ (u : Nat) (D : s_D), gr 0 6 = .ref u → t_VL gr u → t_CV gi gl u D → t_Cb D → (u = 3 ∨ 102 ≤ u) → (∀ s : Nat, (s : Int) < D 1 → 0 ≤ D (56 + 5 * s) ∧ D (56 + 5 * s) ≤ 1) → s_DB D → D 4 ≤ 20 → D 5 ≤ 20 → (((-1 ≤ ar1.toInt ∧ ar1.toInt ≤ 9999) ∧ gr 0 7 ≠ .null) → ∀ (u2 : Nat) (R : List (List Int × Int)), gr 0 7 = .ref u2 → 102 ≤ u2 → t_UK gi u2 R → s_gd R → ((-1) : Int32) = Int32.ofInt (s_day D R ar1.toInt 5)) ∧ (¬ ((-1 ≤ ar1.toInt ∧ ar1.toInt ≤ 9999) ∧ gr 0 7 ≠ .null) → ((-1) : Int) = -1) from (fun u D hu hl hc hb hv hsl hd h4 h5 => ⟨fun h => absurd h.1 (by omega), fun _ => rfl⟩))⟩⟩
noncomputable def wl_k_waits : List (Nat × Nat) := [(0, 0), (45, 4), (45, 5), (45, 6), (45, 7), (45, 8), (45, 9), (45, 10), (45, 11), (45, 12), (45, 13), (45, 14), (46, 0), (47, 9999), (48, 9999), (49, 9999), (50, 9999), (51, 9999), (52, 0), (53, 9999), (54, 9999), (55, 9999), (56, 9999), (57, 9999), (58, 9999), (59, 9999)]
noncomputable def Q_k_waits (gi : Nat → Nat → Int32) (gl : Nat → Nat → Int64) (gr : Nat → Nat → Value) (ar1 : Int32) (ar2 : Int32) : Int32 → (Nat → Nat → Int32) → (Nat → Nat → Int64) → (Nat → Nat → Value) → Prop := fun (v : Int32) (gi2 : Nat → Nat → Int32) (gl2 : Nat → Nat → Int64) (gr2 : Nat → Nat → Value) => ∀ (u : Nat) (D : s_D), gr 0 6 = .ref u → t_VL gr u → t_CV gi gl u D → t_Cb D → (u = 3 ∨ 102 ≤ u) → (∀ s : Nat, (s : Int) < D 1 → 0 ≤ D (56 + 5 * s) ∧ D (56 + 5 * s) ≤ 1) → s_DB D → D 4 ≤ 20 → D 5 ≤ 20 → (((0 ≤ ar1.toInt ∧ ar1.toInt ≤ 9999 ∧ 1 ≤ ar2.toInt ∧ ar2.toInt ≤ 20 ∧ ar1.toInt + ar2.toInt ≤ 10000) ∧ gr 0 7 ≠ .null) → ∀ (u2 : Nat) (R : List (List Int × Int)), gr 0 7 = .ref u2 → 102 ≤ u2 → t_UK gi u2 R → s_gd R → v = Int32.ofInt (s_wsm D R ar1.toInt ar2.toNatClampNeg)) ∧ (¬ ((0 ≤ ar1.toInt ∧ ar1.toInt ≤ 9999 ∧ 1 ≤ ar2.toInt ∧ ar2.toInt ≤ 20 ∧ ar1.toInt + ar2.toInt ≤ 10000) ∧ gr 0 7 ≠ .null) → v.toInt = -1)
theorem c_k_waits {X : x_Ext} {d : Nat} {sh : List (Nat ⊕ (Nat × Nat))} {gi : Nat → Nat → Int32} {gl : Nat → Nat → Int64} {gr : Nat → Nat → Value} (hI : t_I sh gi gr) (ar1 : Int32) (ar2 : Int32) : x_Me X (d + 6) n_X11_waits [.ref 0, .int ar1, .int ar2] (sh, gi, gl, gr) (t_PI wl_k_waits sh gi gl gr (-2147483648) 2147483647 (Q_k_waits gi gl gr ar1 ar2)) := by
  have hX : t_X wl_k_waits sh gi gl gr gi gl gr := t_X.rf
  refine me_i f_X11_waits (hI.wf.s rfl) rfl rfl rfl ?_
  refine ev_loc f_X11_waits (nx := 1) rfl rfl rfl rfl ?_
  refine ev_loc f_X11_waits (nx := 2) rfl rfl rfl rfl ?_
  refine ev_loc f_X11_waits (nx := 3) rfl rfl rfl rfl ?_
  refine ev_inV3 f_X11_waits (nx := 6) (lo2 := [(0, .ref 0), (1, .int ar1), (2, .int ar2)]) rfl rfl rfl rfl f_X11_wrongSeeds (hI.wf.s rfl) rfl rfl rfl rfl rfl ?_
  refine ev_loc f_X11_wrongSeeds (nx := 1) rfl rfl rfl rfl ?_
  refine ev_if f_X11_wrongSeeds (t1 := 33) (t2 := 4) rfl rfl rfl (fun h1 => ?_) (fun h1 => ?_)
  · have u2 : ar1.toInt ≤ (-1) := t_ltu h1 (by decide : (0:Int32).toInt ≤ (0:Int)) rfl
    refine ev_ic f_X11_wrongSeeds (nx := 34) (v := 1) rfl (by decide) rfl ?_
    refine ev_retK1 f_X11_wrongSeeds rfl rfl rfl ?_
    refine ev_loc f_X11_waits (nx := 7) (lo' := [(3, .int 1), (0, .ref 0), (1, .int ar1), (2, .int ar2)]) rfl rfl rfl rfl ?_
    refine ev_loc f_X11_waits (nx := 8) rfl rfl rfl rfl ?_
    refine ev_f f_X11_waits (t1 := 17) (t2 := 11) rfl rfl rfl (by decide) ?_
    refine ev_loc f_X11_waits (nx := 12) rfl rfl rfl rfl ?_
    refine ev_loc f_X11_waits (nx := 13) rfl rfl rfl rfl ?_
    refine ev_inV2 f_X11_waits (nx := 16) (lo2 := [(0, .ref 0), (1, .int 1)]) rfl rfl rfl rfl f_X11_refuse (hI.wf.s rfl) rfl rfl rfl rfl rfl ?_
    refine ev_loc f_X11_refuse (nx := 1) rfl rfl rfl rfl ?_
    refine ev_loc f_X11_refuse (nx := 2) rfl rfl rfl rfl ?_
    refine ev_putIT f_X11_refuse (nx := 5) rfl (hI.wf.s rfl) rfl rfl rfl (hI.put0 (hI.wf.s rfl) rfl rfl) (hX.upI rfl) (fun g3 e3 hI hX => ?_)
    refine ev_ic f_X11_refuse (nx := 6) (v := -1) rfl (by decide) rfl ?_
    refine ev_retK1 f_X11_refuse rfl rfl rfl ?_
    exact ev_ret f_X11_waits rfl rfl rfl ⟨_, _, _, rfl, hI, hX, ⟨_, rfl, (Int.le_trans (by decide : ((-2147483648):Int) ≤ (-1)) (by decide : ((-1):Int) ≤ ((-1):Int32).toInt)), (Int.le_trans (by decide : ((-1):Int32).toInt ≤ ((-1):Int)) (by decide : ((-1):Int) ≤ 2147483647)), (show ∀ (u : Nat) (D : s_D), gr 0 6 = .ref u → t_VL gr u → t_CV gi gl u D → t_Cb D → (u = 3 ∨ 102 ≤ u) → (∀ s : Nat, (s : Int) < D 1 → 0 ≤ D (56 + 5 * s) ∧ D (56 + 5 * s) ≤ 1) → s_DB D → D 4 ≤ 20 → D 5 ≤ 20 → (((0 ≤ ar1.toInt ∧ ar1.toInt ≤ 9999 ∧ 1 ≤ ar2.toInt ∧ ar2.toInt ≤ 20 ∧ ar1.toInt + ar2.toInt ≤ 10000) ∧ gr 0 7 ≠ .null) → ∀ (u2 : Nat) (R : List (List Int × Int)), gr 0 7 = .ref u2 → 102 ≤ u2 → t_UK gi u2 R → s_gd R → ((-1) : Int32) = Int32.ofInt (s_wsm D R ar1.toInt ar2.toNatClampNeg)) ∧ (¬ ((0 ≤ ar1.toInt ∧ ar1.toInt ≤ 9999 ∧ 1 ≤ ar2.toInt ∧ ar2.toInt ≤ 20 ∧ ar1.toInt + ar2.toInt ≤ 10000) ∧ gr 0 7 ≠ .null) → ((-1) : Int) = -1) from (fun u D hu hl hc hb hv hsl hd h4 h5 => ⟨fun h => absurd h.1 (by omega), fun _ => rfl⟩))⟩⟩
  · have l4 : 0 ≤ ar1.toInt := t_lel (t_nlt h1) (by decide : (0:Int) ≤ (0:Int32).toInt)
    refine ev_loc f_X11_wrongSeeds (nx := 5) rfl rfl rfl rfl ?_
    refine ev_sp f_X11_wrongSeeds (nx := 8) (v := 9999) rfl (by decide) rfl ?_
    refine ev_if f_X11_wrongSeeds (t1 := 33) (t2 := 11) rfl rfl rfl (fun h5 => ?_) (fun h5 => ?_)
    · have l6 : 10000 ≤ ar1.toInt := t_ltl h5 (by decide : (9999:Int) ≤ (9999:Int32).toInt) rfl
      refine ev_ic f_X11_wrongSeeds (nx := 34) (v := 1) rfl (by decide) rfl ?_
      refine ev_retK1 f_X11_wrongSeeds rfl rfl rfl ?_
      refine ev_loc f_X11_waits (nx := 7) (lo' := [(3, .int 1), (0, .ref 0), (1, .int ar1), (2, .int ar2)]) rfl rfl rfl rfl ?_
      refine ev_loc f_X11_waits (nx := 8) rfl rfl rfl rfl ?_
      refine ev_f f_X11_waits (t1 := 17) (t2 := 11) rfl rfl rfl (by decide) ?_
      refine ev_loc f_X11_waits (nx := 12) rfl rfl rfl rfl ?_
      refine ev_loc f_X11_waits (nx := 13) rfl rfl rfl rfl ?_
      refine ev_inV2 f_X11_waits (nx := 16) (lo2 := [(0, .ref 0), (1, .int 1)]) rfl rfl rfl rfl f_X11_refuse (hI.wf.s rfl) rfl rfl rfl rfl rfl ?_
      refine ev_loc f_X11_refuse (nx := 1) rfl rfl rfl rfl ?_
      refine ev_loc f_X11_refuse (nx := 2) rfl rfl rfl rfl ?_
      refine ev_putIT f_X11_refuse (nx := 5) rfl (hI.wf.s rfl) rfl rfl rfl (hI.put0 (hI.wf.s rfl) rfl rfl) (hX.upI rfl) (fun g7 e7 hI hX => ?_)
      refine ev_ic f_X11_refuse (nx := 6) (v := -1) rfl (by decide) rfl ?_
      refine ev_retK1 f_X11_refuse rfl rfl rfl ?_
      exact ev_ret f_X11_waits rfl rfl rfl ⟨_, _, _, rfl, hI, hX, ⟨_, rfl, (Int.le_trans (by decide : ((-2147483648):Int) ≤ (-1)) (by decide : ((-1):Int) ≤ ((-1):Int32).toInt)), (Int.le_trans (by decide : ((-1):Int32).toInt ≤ ((-1):Int)) (by decide : ((-1):Int) ≤ 2147483647)), (show ∀ (u : Nat) (D : s_D), gr 0 6 = .ref u → t_VL gr u → t_CV gi gl u D → t_Cb D → (u = 3 ∨ 102 ≤ u) → (∀ s : Nat, (s : Int) < D 1 → 0 ≤ D (56 + 5 * s) ∧ D (56 + 5 * s) ≤ 1) → s_DB D → D 4 ≤ 20 → D 5 ≤ 20 → (((0 ≤ ar1.toInt ∧ ar1.toInt ≤ 9999 ∧ 1 ≤ ar2.toInt ∧ ar2.toInt ≤ 20 ∧ ar1.toInt + ar2.toInt ≤ 10000) ∧ gr 0 7 ≠ .null) → ∀ (u2 : Nat) (R : List (List Int × Int)), gr 0 7 = .ref u2 → 102 ≤ u2 → t_UK gi u2 R → s_gd R → ((-1) : Int32) = Int32.ofInt (s_wsm D R ar1.toInt ar2.toNatClampNeg)) ∧ (¬ ((0 ≤ ar1.toInt ∧ ar1.toInt ≤ 9999 ∧ 1 ≤ ar2.toInt ∧ ar2.toInt ≤ 20 ∧ ar1.toInt + ar2.toInt ≤ 10000) ∧ gr 0 7 ≠ .null) → ((-1) : Int) = -1) from (fun u D hu hl hc hb hv hsl hd h4 h5 => ⟨fun h => absurd h.1 (by omega), fun _ => rfl⟩))⟩⟩
    · have u8 : ar1.toInt ≤ 9999 := t_leu (t_nlt h5) (by decide : (9999:Int32).toInt ≤ (9999:Int))
      refine ev_loc f_X11_wrongSeeds (nx := 12) rfl rfl rfl rfl ?_
      refine ev_ic f_X11_wrongSeeds (nx := 13) (v := 1) rfl (by decide) rfl ?_
      refine ev_if f_X11_wrongSeeds (t1 := 33) (t2 := 16) rfl rfl rfl (fun h9 => ?_) (fun h9 => ?_)
      · have u10 : ar2.toInt ≤ 0 := t_ltu h9 (by decide : (1:Int32).toInt ≤ (1:Int)) rfl
        refine ev_ic f_X11_wrongSeeds (nx := 34) (v := 1) rfl (by decide) rfl ?_
        refine ev_retK1 f_X11_wrongSeeds rfl rfl rfl ?_
        refine ev_loc f_X11_waits (nx := 7) (lo' := [(3, .int 1), (0, .ref 0), (1, .int ar1), (2, .int ar2)]) rfl rfl rfl rfl ?_
        refine ev_loc f_X11_waits (nx := 8) rfl rfl rfl rfl ?_
        refine ev_f f_X11_waits (t1 := 17) (t2 := 11) rfl rfl rfl (by decide) ?_
        refine ev_loc f_X11_waits (nx := 12) rfl rfl rfl rfl ?_
        refine ev_loc f_X11_waits (nx := 13) rfl rfl rfl rfl ?_
        refine ev_inV2 f_X11_waits (nx := 16) (lo2 := [(0, .ref 0), (1, .int 1)]) rfl rfl rfl rfl f_X11_refuse (hI.wf.s rfl) rfl rfl rfl rfl rfl ?_
        refine ev_loc f_X11_refuse (nx := 1) rfl rfl rfl rfl ?_
        refine ev_loc f_X11_refuse (nx := 2) rfl rfl rfl rfl ?_
        refine ev_putIT f_X11_refuse (nx := 5) rfl (hI.wf.s rfl) rfl rfl rfl (hI.put0 (hI.wf.s rfl) rfl rfl) (hX.upI rfl) (fun g11 e11 hI hX => ?_)
        refine ev_ic f_X11_refuse (nx := 6) (v := -1) rfl (by decide) rfl ?_
        refine ev_retK1 f_X11_refuse rfl rfl rfl ?_
        exact ev_ret f_X11_waits rfl rfl rfl ⟨_, _, _, rfl, hI, hX, ⟨_, rfl, (Int.le_trans (by decide : ((-2147483648):Int) ≤ (-1)) (by decide : ((-1):Int) ≤ ((-1):Int32).toInt)), (Int.le_trans (by decide : ((-1):Int32).toInt ≤ ((-1):Int)) (by decide : ((-1):Int) ≤ 2147483647)), (show ∀ (u : Nat) (D : s_D), gr 0 6 = .ref u → t_VL gr u → t_CV gi gl u D → t_Cb D → (u = 3 ∨ 102 ≤ u) → (∀ s : Nat, (s : Int) < D 1 → 0 ≤ D (56 + 5 * s) ∧ D (56 + 5 * s) ≤ 1) → s_DB D → D 4 ≤ 20 → D 5 ≤ 20 → (((0 ≤ ar1.toInt ∧ ar1.toInt ≤ 9999 ∧ 1 ≤ ar2.toInt ∧ ar2.toInt ≤ 20 ∧ ar1.toInt + ar2.toInt ≤ 10000) ∧ gr 0 7 ≠ .null) → ∀ (u2 : Nat) (R : List (List Int × Int)), gr 0 7 = .ref u2 → 102 ≤ u2 → t_UK gi u2 R → s_gd R → ((-1) : Int32) = Int32.ofInt (s_wsm D R ar1.toInt ar2.toNatClampNeg)) ∧ (¬ ((0 ≤ ar1.toInt ∧ ar1.toInt ≤ 9999 ∧ 1 ≤ ar2.toInt ∧ ar2.toInt ≤ 20 ∧ ar1.toInt + ar2.toInt ≤ 10000) ∧ gr 0 7 ≠ .null) → ((-1) : Int) = -1) from (fun u D hu hl hc hb hv hsl hd h4 h5 => ⟨fun h => absurd h.1 (by omega), fun _ => rfl⟩))⟩⟩
      · have l12 : 1 ≤ ar2.toInt := t_lel (t_nlt h9) (by decide : (1:Int) ≤ (1:Int32).toInt)
        refine ev_loc f_X11_wrongSeeds (nx := 17) rfl rfl rfl rfl ?_
        refine ev_bp f_X11_wrongSeeds (nx := 19) (v := 20) rfl (by decide) rfl ?_
        refine ev_if f_X11_wrongSeeds (t1 := 33) (t2 := 22) rfl rfl rfl (fun h13 => ?_) (fun h13 => ?_)
        · have l14 : 21 ≤ ar2.toInt := t_ltl h13 (by decide : (20:Int) ≤ (20:Int32).toInt) rfl
          refine ev_ic f_X11_wrongSeeds (nx := 34) (v := 1) rfl (by decide) rfl ?_
          refine ev_retK1 f_X11_wrongSeeds rfl rfl rfl ?_
          refine ev_loc f_X11_waits (nx := 7) (lo' := [(3, .int 1), (0, .ref 0), (1, .int ar1), (2, .int ar2)]) rfl rfl rfl rfl ?_
          refine ev_loc f_X11_waits (nx := 8) rfl rfl rfl rfl ?_
          refine ev_f f_X11_waits (t1 := 17) (t2 := 11) rfl rfl rfl (by decide) ?_
          refine ev_loc f_X11_waits (nx := 12) rfl rfl rfl rfl ?_
          refine ev_loc f_X11_waits (nx := 13) rfl rfl rfl rfl ?_
          refine ev_inV2 f_X11_waits (nx := 16) (lo2 := [(0, .ref 0), (1, .int 1)]) rfl rfl rfl rfl f_X11_refuse (hI.wf.s rfl) rfl rfl rfl rfl rfl ?_
          refine ev_loc f_X11_refuse (nx := 1) rfl rfl rfl rfl ?_
          refine ev_loc f_X11_refuse (nx := 2) rfl rfl rfl rfl ?_
          refine ev_putIT f_X11_refuse (nx := 5) rfl (hI.wf.s rfl) rfl rfl rfl (hI.put0 (hI.wf.s rfl) rfl rfl) (hX.upI rfl) (fun g15 e15 hI hX => ?_)
          refine ev_ic f_X11_refuse (nx := 6) (v := -1) rfl (by decide) rfl ?_
          refine ev_retK1 f_X11_refuse rfl rfl rfl ?_
          exact ev_ret f_X11_waits rfl rfl rfl ⟨_, _, _, rfl, hI, hX, ⟨_, rfl, (Int.le_trans (by decide : ((-2147483648):Int) ≤ (-1)) (by decide : ((-1):Int) ≤ ((-1):Int32).toInt)), (Int.le_trans (by decide : ((-1):Int32).toInt ≤ ((-1):Int)) (by decide : ((-1):Int) ≤ 2147483647)), (show ∀ (u : Nat) (D : s_D), gr 0 6 = .ref u → t_VL gr u → t_CV gi gl u D → t_Cb D → (u = 3 ∨ 102 ≤ u) → (∀ s : Nat, (s : Int) < D 1 → 0 ≤ D (56 + 5 * s) ∧ D (56 + 5 * s) ≤ 1) → s_DB D → D 4 ≤ 20 → D 5 ≤ 20 → (((0 ≤ ar1.toInt ∧ ar1.toInt ≤ 9999 ∧ 1 ≤ ar2.toInt ∧ ar2.toInt ≤ 20 ∧ ar1.toInt + ar2.toInt ≤ 10000) ∧ gr 0 7 ≠ .null) → ∀ (u2 : Nat) (R : List (List Int × Int)), gr 0 7 = .ref u2 → 102 ≤ u2 → t_UK gi u2 R → s_gd R → ((-1) : Int32) = Int32.ofInt (s_wsm D R ar1.toInt ar2.toNatClampNeg)) ∧ (¬ ((0 ≤ ar1.toInt ∧ ar1.toInt ≤ 9999 ∧ 1 ≤ ar2.toInt ∧ ar2.toInt ≤ 20 ∧ ar1.toInt + ar2.toInt ≤ 10000) ∧ gr 0 7 ≠ .null) → ((-1) : Int) = -1) from (fun u D hu hl hc hb hv hsl hd h4 h5 => ⟨fun h => absurd h.1 (by omega), fun _ => rfl⟩))⟩⟩
        · have u16 : ar2.toInt ≤ 20 := t_leu (t_nlt h13) (by decide : (20:Int32).toInt ≤ (20:Int))
          refine ev_loc f_X11_wrongSeeds (nx := 23) rfl rfl rfl rfl ?_
          refine ev_loc f_X11_wrongSeeds (nx := 24) rfl rfl rfl rfl ?_
          refine ev_addR f_X11_wrongSeeds (nx := 25) (l := 1) (u := 10019) rfl l4 u8 l12 u16 rfl rfl (by decide) (by decide) rfl (fun z17 e17 l17 u17 => ?_)
          refine ev_ic f_X11_wrongSeeds (nx := 26) (v := 1) rfl (by decide) rfl ?_
          refine ev_subC f_X11_wrongSeeds (nx := 27) (c := 1) (l := 0) (u := 10018) rfl (by decide) l17 u17 rfl rfl (by decide) (by decide) rfl (fun z18 e18 l18 u18 => ?_)
          refine ev_sp f_X11_wrongSeeds (nx := 30) (v := 9999) rfl (by decide) rfl ?_
          refine ev_if f_X11_wrongSeeds (t1 := 35) (t2 := 33) rfl rfl rfl (fun h19 => ?_) (fun h19 => ?_)
          · have u20 : z18.toInt ≤ 9999 := t_leu h19 (by decide : (9999:Int32).toInt ≤ (9999:Int))
            refine ev_loc f_X11_wrongSeeds (nx := 36) rfl rfl rfl rfl ?_
            rcases hI.2.2.2.1.2.1 with e21 | ⟨a21, e21, p21⟩
            · refine ev_getR f_X11_wrongSeeds (nx := 39) rfl (hI.wf.s rfl) rfl rfl e21 rfl rfl ?_
              refine ev_jmp f_X11_wrongSeeds (nx := 42) rfl rfl rfl ?_
              refine ev_bp f_X11_wrongSeeds (nx := 44) (v := 6) rfl (by decide) rfl ?_
              refine ev_jmp f_X11_wrongSeeds (nx := 48) rfl rfl rfl ?_
              refine ev_retK1 f_X11_wrongSeeds rfl rfl rfl ?_
              refine ev_loc f_X11_waits (nx := 7) (lo' := [(3, .int 6), (0, .ref 0), (1, .int ar1), (2, .int ar2)]) rfl rfl rfl rfl ?_
              refine ev_loc f_X11_waits (nx := 8) rfl rfl rfl rfl ?_
              refine ev_f f_X11_waits (t1 := 17) (t2 := 11) rfl rfl rfl (by decide) ?_
              refine ev_loc f_X11_waits (nx := 12) rfl rfl rfl rfl ?_
              refine ev_loc f_X11_waits (nx := 13) rfl rfl rfl rfl ?_
              refine ev_inV2 f_X11_waits (nx := 16) (lo2 := [(0, .ref 0), (1, .int 6)]) rfl rfl rfl rfl f_X11_refuse (hI.wf.s rfl) rfl rfl rfl rfl rfl ?_
              refine ev_loc f_X11_refuse (nx := 1) rfl rfl rfl rfl ?_
              refine ev_loc f_X11_refuse (nx := 2) rfl rfl rfl rfl ?_
              refine ev_putIT f_X11_refuse (nx := 5) rfl (hI.wf.s rfl) rfl rfl rfl (hI.put0 (hI.wf.s rfl) rfl rfl) (hX.upI rfl) (fun g22 e22 hI hX => ?_)
              refine ev_ic f_X11_refuse (nx := 6) (v := -1) rfl (by decide) rfl ?_
              refine ev_retK1 f_X11_refuse rfl rfl rfl ?_
              exact ev_ret f_X11_waits rfl rfl rfl ⟨_, _, _, rfl, hI, hX, ⟨_, rfl, (Int.le_trans (by decide : ((-2147483648):Int) ≤ (-1)) (by decide : ((-1):Int) ≤ ((-1):Int32).toInt)), (Int.le_trans (by decide : ((-1):Int32).toInt ≤ ((-1):Int)) (by decide : ((-1):Int) ≤ 2147483647)), (show ∀ (u : Nat) (D : s_D), gr 0 6 = .ref u → t_VL gr u → t_CV gi gl u D → t_Cb D → (u = 3 ∨ 102 ≤ u) → (∀ s : Nat, (s : Int) < D 1 → 0 ≤ D (56 + 5 * s) ∧ D (56 + 5 * s) ≤ 1) → s_DB D → D 4 ≤ 20 → D 5 ≤ 20 → (((0 ≤ ar1.toInt ∧ ar1.toInt ≤ 9999 ∧ 1 ≤ ar2.toInt ∧ ar2.toInt ≤ 20 ∧ ar1.toInt + ar2.toInt ≤ 10000) ∧ gr 0 7 ≠ .null) → ∀ (u2 : Nat) (R : List (List Int × Int)), gr 0 7 = .ref u2 → 102 ≤ u2 → t_UK gi u2 R → s_gd R → ((-1) : Int32) = Int32.ofInt (s_wsm D R ar1.toInt ar2.toNatClampNeg)) ∧ (¬ ((0 ≤ ar1.toInt ∧ ar1.toInt ≤ 9999 ∧ 1 ≤ ar2.toInt ∧ ar2.toInt ≤ 20 ∧ ar1.toInt + ar2.toInt ≤ 10000) ∧ gr 0 7 ≠ .null) → ((-1) : Int) = -1) from (fun u D hu hl hc hb hv hsl hd h4 h5 => ⟨fun h => absurd ((hX.1 0 7 rfl).2.2.symm.trans e21) h.2, fun _ => rfl⟩))⟩⟩
            · refine ev_getR f_X11_wrongSeeds (nx := 39) rfl (hI.wf.s rfl) rfl rfl e21 rfl rfl ?_
              refine ev_jmp f_X11_wrongSeeds (nx := 47) rfl rfl rfl ?_
              refine ev_ic f_X11_wrongSeeds (nx := 48) (v := 0) rfl (by decide) rfl ?_
              refine ev_retK1 f_X11_wrongSeeds rfl rfl rfl ?_
              refine ev_loc f_X11_waits (nx := 7) (lo' := [(3, .int 0), (0, .ref 0), (1, .int ar1), (2, .int ar2)]) rfl rfl rfl rfl ?_
              refine ev_loc f_X11_waits (nx := 8) rfl rfl rfl rfl ?_
              refine ev_t f_X11_waits (t1 := 17) (t2 := 11) rfl rfl rfl (by decide) ?_
              refine ev_ic f_X11_waits (nx := 18) (v := 0) rfl (by decide) rfl ?_
              refine ev_loc f_X11_waits (nx := 20) (lo' := [(4, .int 0), (3, .int 0), (0, .ref 0), (1, .int ar1), (2, .int ar2)]) rfl rfl rfl rfl ?_
              refine ev_ic f_X11_waits (nx := 21) (v := 0) rfl (by decide) rfl ?_
              refine ev_loc f_X11_waits (nx := 23) (lo' := [(5, .int 0), (4, .int 0), (3, .int 0), (0, .ref 0), (1, .int ar1), (2, .int ar2)]) rfl rfl rfl rfl ?_
              have L23 : ∀ (m23 : Nat) (gi23 : Nat → Nat → Int32) (gl23 : Nat → Nat → Int64) (gr23 : Nat → Nat → Value) (y23_5 : Int32) (y23_4 : Int32), t_I sh gi23 gr23 → t_X wl_k_waits sh gi gl gr gi23 gl23 gr23 → t_Ru sh gr23 a21 → 0 ≤ y23_5.toInt → y23_5.toInt ≤ 20 → gr23 0 7 = .ref a21 → y23_5.toInt ≤ ar2.toInt → (∀ (u : Nat) (D : s_D), gr 0 6 = .ref u → t_VL gr u → t_CV gi gl u D → t_Cb D → (u = 3 ∨ 102 ≤ u) → (∀ s : Nat, (s : Int) < D 1 → 0 ≤ D (56 + 5 * s) ∧ D (56 + 5 * s) ≤ 1) → s_DB D → D 4 ≤ 20 → D 5 ≤ 20 → ∀ (u2 : Nat) (R : List (List Int × Int)), gr 0 7 = .ref u2 → 102 ≤ u2 → t_UK gi u2 R → s_gd R → y23_4 = Int32.ofInt (s_wsm D R ar1.toInt y23_5.toNatClampNeg)) → (20 - y23_5.toInt).toNat = m23 → x_Ev X (d + 6) n_X11_waits 23 [(5, .int y23_5), (4, .int y23_4), (3, .int 0), (0, .ref 0), (1, .int ar1), (2, .int ar2)] [] (sh, gi23, gl23, gr23) (t_PI wl_k_waits sh gi gl gr (-2147483648) 2147483647 (Q_k_waits gi gl gr ar1 ar2)) := by
                intro m23
                induction m23 using Nat.strongRecOn with
                | _ m23 ih23 =>
                intro gi23 gl23 gr23 y23_5 y23_4 hI hX p21 l23_5 u23_5 c23_0 j23_0 j23_1 hm23
                refine ev_loc f_X11_waits (nx := 25) rfl rfl rfl rfl ?_
                have hXw23 := hX
                refine ev_loc f_X11_waits (nx := 26) rfl rfl rfl rfl ?_
                refine ev_if f_X11_waits (t1 := 66) (t2 := 29) rfl rfl rfl (fun h24 => ?_) (fun h24 => ?_)
                · have r25 : ar2.toInt ≤ y23_5.toInt := Int32.le_iff_toInt_le.mp h24
                  have l26 : 1 ≤ y23_5.toInt := t_lel h24 l12
                  refine ev_loc f_X11_waits (nx := 67) rfl rfl rfl rfl ?_
                  refine ev_loc f_X11_waits (nx := 69) rfl rfl rfl rfl ?_
                  refine ev_inV2 f_X11_waits (nx := 72) (lo2 := [(0, .ref 0), (1, .int y23_4)]) rfl rfl rfl rfl f_X11_answer (hI.wf.s rfl) rfl rfl rfl rfl rfl ?_
                  refine ev_loc f_X11_answer (nx := 1) rfl rfl rfl rfl ?_
                  refine ev_ic f_X11_answer (nx := 2) (v := 0) rfl (by decide) rfl ?_
                  refine ev_putIT f_X11_answer (nx := 5) rfl (hI.wf.s rfl) rfl rfl rfl (hI.put0 (hI.wf.s rfl) rfl rfl) (hX.upI rfl) (fun g27 e27 hI hX => ?_)
                  refine ev_loc f_X11_answer (nx := 6) rfl rfl rfl rfl ?_
                  refine ev_retK1 f_X11_answer rfl rfl rfl ?_
                  exact ev_ret f_X11_waits rfl rfl rfl ⟨_, _, _, rfl, hI, hX, ⟨_, rfl, (t_lo y23_4), (t_hi y23_4), (show ∀ (u : Nat) (D : s_D), gr 0 6 = .ref u → t_VL gr u → t_CV gi gl u D → t_Cb D → (u = 3 ∨ 102 ≤ u) → (∀ s : Nat, (s : Int) < D 1 → 0 ≤ D (56 + 5 * s) ∧ D (56 + 5 * s) ≤ 1) → s_DB D → D 4 ≤ 20 → D 5 ≤ 20 → (((0 ≤ ar1.toInt ∧ ar1.toInt ≤ 9999 ∧ 1 ≤ ar2.toInt ∧ ar2.toInt ≤ 20 ∧ ar1.toInt + ar2.toInt ≤ 10000) ∧ gr 0 7 ≠ .null) → ∀ (u2 : Nat) (R : List (List Int × Int)), gr 0 7 = .ref u2 → 102 ≤ u2 → t_UK gi u2 R → s_gd R → y23_4 = Int32.ofInt (s_wsm D R ar1.toInt ar2.toNatClampNeg)) ∧ (¬ ((0 ≤ ar1.toInt ∧ ar1.toInt ≤ 9999 ∧ 1 ≤ ar2.toInt ∧ ar2.toInt ≤ 20 ∧ ar1.toInt + ar2.toInt ≤ 10000) ∧ gr 0 7 ≠ .null) → y23_4.toInt = -1) from (fun u D hu hl hc hb hv hsl hd h4 h5 => ⟨fun _ u2 R hu7 h2 hU hg => (by
                                                            have cy := t_clamp (i := y23_5) (by omega)
                                                            have h := j23_1 u D hu hl hc hb hv hsl hd h4 h5 u2 R hu7 h2 hU hg
                                                            rw [show y23_5.toNatClampNeg = ar2.toNatClampNeg by have := t_clamp (i := ar2) (by omega); omega] at h
                                                            exact h), fun h => absurd (show _ from ⟨⟨by omega, by omega, by omega, by omega, by omega⟩, (fun hh => (by cases ((hX.1 0 7 rfl).2.2.trans hh).symm.trans c23_0))⟩) h⟩))⟩⟩
                · have r28 : y23_5.toInt < ar2.toInt := Int32.lt_iff_toInt_lt.mp (t_nle h24)
                  have u29 : y23_5.toInt ≤ 19 := t_ltu (t_nle h24) u16 rfl
                  refine ev_loc f_X11_waits (nx := 30) rfl rfl rfl rfl ?_
                  refine ev_getR f_X11_waits (nx := 33) rfl (hI.wf.s rfl) rfl rfl (hI.wf.r rfl) rfl rfl ?_
                  refine ev_loc f_X11_waits (nx := 34) rfl rfl rfl rfl ?_
                  obtain ⟨a30, e30, p30⟩ := hI.2.2.2.1.1
                  refine ev_getR f_X11_waits (nx := 37) rfl (hI.wf.s rfl) rfl rfl e30 rfl rfl ?_
                  refine ev_loc f_X11_waits (nx := 38) rfl rfl rfl rfl ?_
                  refine ev_getR f_X11_waits (nx := 41) (v := .ref a21) rfl (hI.wf.s rfl) rfl rfl c23_0 rfl rfl ?_
                  refine ev_loc f_X11_waits (nx := 42) rfl rfl rfl rfl ?_
                  refine ev_loc f_X11_waits (nx := 44) rfl rfl rfl rfl ?_
                  refine ev_addR f_X11_waits (nx := 45) (l := 0) (u := 10018) rfl l4 u8 l23_5 u29 rfl rfl (by decide) (by decide) rfl (fun z31 e31 l31 u31 => ?_)
                  refine ev_qN f_X11_waits (nx := 48) (r := []) rfl rfl rfl rfl rfl rfl rfl (c_k_spendDay hI (a30) p30 (a21) p21 (z31)) rfl hX rfl (fun gi32 gl32 gr32 hI hX hC32 q32 => ?_)
                  have q32 : (∀ (D : s_D) (R : List (List Int × Int)), t_VL gr23 a30 → t_CV gi23 gl23 a30 D → (a30 = 3 ∨ 102 ≤ a30) → t_Cb D → (∀ s : Nat, (s : Int) < D 1 → 0 ≤ D (56 + 5 * s) ∧ D (56 + 5 * s) ≤ 1) → s_DB D → D 4 ≤ 20 → D 5 ≤ 20 → (-1 ≤ z31.toInt ∧ z31.toInt ≤ 9999) → t_UK gi23 a21 R → s_gd R → 102 ≤ a21 → ∃ Z, t_KL (s_PY D z31.toInt) gi32 ∧ t_CZ ((s_PY D z31.toInt) 0 0) Z gi32 ∧ Z 5 = (s_dy (s_PY D z31.toInt) (fun F => s_ac F R) 301 0 (fun _ => (0 : Int))) 5 ∧ Z 6 = (s_dy (s_PY D z31.toInt) (fun F => s_ac F R) 301 0 (fun _ => (0 : Int))) 6 ∧ s_lf (s_PY D z31.toInt) Z = s_lf (s_PY D z31.toInt) (s_dy (s_PY D z31.toInt) (fun F => s_ac F R) 301 0 (fun _ => (0 : Int)))) := q32
                  replace p21 := p21.ext hC32.2
                  replace p30 := p30.ext hC32.2
                  refine ev_loc f_X11_waits (nx := 50) rfl rfl rfl rfl ?_
                  refine ev_loc f_X11_waits (nx := 51) rfl rfl rfl rfl ?_
                  refine ev_getR f_X11_waits (nx := 54) rfl (hI.wf.s rfl) rfl rfl (hI.wf.r rfl) rfl rfl ?_
                  refine ev_getI f_X11_waits (nx := 57) rfl (hI.wf.s rfl) rfl rfl rfl ?_
                  refine ev_anyIE f_X11_waits (nx := 58) rfl rfl rfl rfl (fun z33 e33 => ?_)
                  refine ev_loc f_X11_waits (nx := 60) (lo' := [(4, .int z33), (5, .int y23_5), (3, .int 0), (0, .ref 0), (1, .int ar1), (2, .int ar2)]) rfl rfl rfl rfl ?_
                  refine ev_incR f_X11_waits (nx := 63) (c := 1) (l := 1) (u := 20) rfl rfl (by decide) (by decide) l23_5 u29 rfl rfl (by decide) (by decide) rfl (fun z34 e34 l34 u34 => ?_)
                  refine ev_jmp f_X11_waits (nx := 23) rfl rfl rfl ?_
                  refine ev_sub (lo := [(5, .int z34), (4, .int z33), (3, .int 0), (0, .ref 0), (1, .int ar1), (2, .int ar2)]) rfl (t_sc rfl (t_sc rfl (t_sc rfl (t_sc rfl (t_sc rfl (t_sc rfl t_sn)))))) ?_
                  exact ih23 _ (by omega) gi32 gl32 gr32 (z34) (z33) hI hX p21 (Int.le_trans (by decide : (0:Int) ≤ 1) l34) u34 ((hC32.1 0 7 rfl).2.2.trans c23_0) (by omega) (fun u D hu hl hc hb hv hsl hd h4 h5 u2 R hu7 h2 hU hg => (by
                                                            have ha0 : a30 = u := Value.ref.inj (e30.symm.trans ((hXw23.1 0 6 rfl).2.2.trans hu))
                                                            have hr7 : a21 = u2 := Value.ref.inj (((hC32.1 0 7 rfl).2.2.trans c23_0).symm.trans ((hX.1 0 7 rfl).2.2.trans hu7))
                                                            have hK := t_nd_fr hXw23 rfl
                                                            have hl2 := hl.fr (fun K k1 k2 => hK K (by omega))
                                                            have hc2 := hc.fr (fun K k1 k2 => hK K (by omega))
                                                            have hU2 := hU.eq (fun K a _ => (hK K (Or.inr (by omega))).1)
                                                            subst ha0
                                                            subst hr7
                                                            have cy := t_clamp (i := y23_5) (by omega)
                                                            have hsd : z31.toInt = ar1.toInt + (y23_5.toNatClampNeg : Int) := by omega
                                                            have hq := q32 D R hl2 hc2 hv hb hsl hd h4 h5 ⟨by omega, by omega⟩ hU2 hg h2
                                                            rw [hsd] at hq
                                                            obtain ⟨Z, hL, hZ, e5, e6, e7⟩ := hq
                                                            have ex : z34.toNatClampNeg = y23_5.toNatClampNeg + 1 := by have := t_clamp (i := z34) (by omega); omega
                                                            rw [ex]
                                                            exact t_oi_add e33 (j23_1 _ D hu hl hc hb hv hsl hd h4 h5 _ R hu7 h2 hU hg) (hZ.2.1.1.trans (congrArg Int32.ofInt e5)))) rfl
              refine ev_sub (lo := [(5, .int 0), (4, .int 0), (3, .int 0), (0, .ref 0), (1, .int ar1), (2, .int ar2)]) rfl (t_sc rfl (t_sc rfl (t_sc rfl (t_sc rfl (t_sc rfl (t_sc rfl t_sn)))))) ?_
              exact L23 _ gi gl gr (0) (0) hI hX p21 (by decide : (0:Int) ≤ (0:Int32).toInt) (Int.le_trans (by decide : (0:Int32).toInt ≤ (0:Int)) (by decide : (0:Int) ≤ 20)) e21 (by have kf35 : (0 : Int32).toInt = 0 := (by decide); omega) (fun u D hu hl hc hb hv hsl hd h4 h5 u2 R hu7 h2 hU hg => rfl) rfl
          · have l36 : 10000 ≤ z18.toInt := t_ltl (t_nle h19) (by decide : (9999:Int) ≤ (9999:Int32).toInt) rfl
            refine ev_ic f_X11_wrongSeeds (nx := 34) (v := 1) rfl (by decide) rfl ?_
            refine ev_retK1 f_X11_wrongSeeds rfl rfl rfl ?_
            refine ev_loc f_X11_waits (nx := 7) (lo' := [(3, .int 1), (0, .ref 0), (1, .int ar1), (2, .int ar2)]) rfl rfl rfl rfl ?_
            refine ev_loc f_X11_waits (nx := 8) rfl rfl rfl rfl ?_
            refine ev_f f_X11_waits (t1 := 17) (t2 := 11) rfl rfl rfl (by decide) ?_
            refine ev_loc f_X11_waits (nx := 12) rfl rfl rfl rfl ?_
            refine ev_loc f_X11_waits (nx := 13) rfl rfl rfl rfl ?_
            refine ev_inV2 f_X11_waits (nx := 16) (lo2 := [(0, .ref 0), (1, .int 1)]) rfl rfl rfl rfl f_X11_refuse (hI.wf.s rfl) rfl rfl rfl rfl rfl ?_
            refine ev_loc f_X11_refuse (nx := 1) rfl rfl rfl rfl ?_
            refine ev_loc f_X11_refuse (nx := 2) rfl rfl rfl rfl ?_
            refine ev_putIT f_X11_refuse (nx := 5) rfl (hI.wf.s rfl) rfl rfl rfl (hI.put0 (hI.wf.s rfl) rfl rfl) (hX.upI rfl) (fun g37 e37 hI hX => ?_)
            refine ev_ic f_X11_refuse (nx := 6) (v := -1) rfl (by decide) rfl ?_
            refine ev_retK1 f_X11_refuse rfl rfl rfl ?_
            exact ev_ret f_X11_waits rfl rfl rfl ⟨_, _, _, rfl, hI, hX, ⟨_, rfl, (Int.le_trans (by decide : ((-2147483648):Int) ≤ (-1)) (by decide : ((-1):Int) ≤ ((-1):Int32).toInt)), (Int.le_trans (by decide : ((-1):Int32).toInt ≤ ((-1):Int)) (by decide : ((-1):Int) ≤ 2147483647)), (show ∀ (u : Nat) (D : s_D), gr 0 6 = .ref u → t_VL gr u → t_CV gi gl u D → t_Cb D → (u = 3 ∨ 102 ≤ u) → (∀ s : Nat, (s : Int) < D 1 → 0 ≤ D (56 + 5 * s) ∧ D (56 + 5 * s) ≤ 1) → s_DB D → D 4 ≤ 20 → D 5 ≤ 20 → (((0 ≤ ar1.toInt ∧ ar1.toInt ≤ 9999 ∧ 1 ≤ ar2.toInt ∧ ar2.toInt ≤ 20 ∧ ar1.toInt + ar2.toInt ≤ 10000) ∧ gr 0 7 ≠ .null) → ∀ (u2 : Nat) (R : List (List Int × Int)), gr 0 7 = .ref u2 → 102 ≤ u2 → t_UK gi u2 R → s_gd R → ((-1) : Int32) = Int32.ofInt (s_wsm D R ar1.toInt ar2.toNatClampNeg)) ∧ (¬ ((0 ≤ ar1.toInt ∧ ar1.toInt ≤ 9999 ∧ 1 ≤ ar2.toInt ∧ ar2.toInt ≤ 20 ∧ ar1.toInt + ar2.toInt ≤ 10000) ∧ gr 0 7 ≠ .null) → ((-1) : Int) = -1) from (fun u D hu hl hc hb hv hsl hd h4 h5 => ⟨fun h => absurd h.1 (by omega), fun _ => rfl⟩))⟩⟩
