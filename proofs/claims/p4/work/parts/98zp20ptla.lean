/-! ===== printed by riv.py: odds of the class ===== -/
noncomputable def wl_k_odds : List (Nat × Nat) := [(0, 0), (0, 1), (0, 2), (45, 4), (45, 5), (45, 6), (45, 7), (45, 8), (45, 9), (45, 10), (45, 11), (45, 12), (45, 13), (45, 14), (46, 0), (47, 9999), (48, 9999), (49, 9999), (50, 9999), (51, 9999), (52, 0), (53, 9999), (54, 9999), (55, 9999), (56, 9999), (57, 9999), (58, 9999), (59, 9999)]
noncomputable def Q_k_odds (gi : Nat → Nat → Int32) (gl : Nat → Nat → Int64) (gr : Nat → Nat → Value) (ar1 : Int32) (ar2 : Int32) : Int32 → (Nat → Nat → Int32) → (Nat → Nat → Int64) → (Nat → Nat → Value) → Prop := fun (v : Int32) (gi2 : Nat → Nat → Int32) (gl2 : Nat → Nat → Int64) (gr2 : Nat → Nat → Value) => ∀ (u : Nat) (D : s_D), gr 0 6 = .ref u → t_VL gr u → t_CV gi gl u D → t_Cb D → (u = 3 ∨ 102 ≤ u) → (∀ s : Nat, (s : Int) < D 1 → 0 ≤ D (56 + 5 * s) ∧ D (56 + 5 * s) ≤ 1) → s_DB D → D 4 ≤ 20 → D 5 ≤ 20 → (((0 ≤ ar1.toInt ∧ ar1.toInt ≤ 9999 ∧ 1 ≤ ar2.toInt ∧ ar2.toInt ≤ 20 ∧ ar1.toInt + ar2.toInt ≤ 10000) ∧ gr 0 7 ≠ .null) → ∀ (u2 : Nat) (R : List (List Int × Int)), gr 0 7 = .ref u2 → 102 ≤ u2 → t_UK gi u2 R → s_gd R → (gl2 0 1).toInt = (s_gds D R ar1.toInt ar2.toNatClampNeg) / s_gc ar2.toInt (s_gds D R ar1.toInt ar2.toNatClampNeg) ∧ (gl2 0 2).toInt = ar2.toInt / s_gc ar2.toInt (s_gds D R ar1.toInt ar2.toNatClampNeg)) ∧ (¬ ((0 ≤ ar1.toInt ∧ ar1.toInt ≤ 9999 ∧ 1 ≤ ar2.toInt ∧ ar2.toInt ≤ 20 ∧ ar1.toInt + ar2.toInt ≤ 10000) ∧ gr 0 7 ≠ .null) → gl2 0 1 = gl 0 1 ∧ gl2 0 2 = gl 0 2)
theorem c_k_odds {X : x_Ext} {d : Nat} {sh : List (Nat ⊕ (Nat × Nat))} {gi : Nat → Nat → Int32} {gl : Nat → Nat → Int64} {gr : Nat → Nat → Value} (hI : t_I sh gi gr) (ar1 : Int32) (ar2 : Int32) : x_Me X (d + 6) n_X11_odds [.ref 0, .int ar1, .int ar2] (sh, gi, gl, gr) (t_PI wl_k_odds sh gi gl gr 0 1 (Q_k_odds gi gl gr ar1 ar2)) := by
  have hX : t_X wl_k_odds sh gi gl gr gi gl gr := t_X.rf
  refine me_i f_X11_odds (hI.wf.s rfl) rfl rfl rfl ?_
  refine ev_loc f_X11_odds (nx := 1) rfl rfl rfl rfl ?_
  refine ev_loc f_X11_odds (nx := 2) rfl rfl rfl rfl ?_
  refine ev_loc f_X11_odds (nx := 3) rfl rfl rfl rfl ?_
  refine ev_inV3 f_X11_odds (nx := 6) (lo2 := [(0, .ref 0), (1, .int ar1), (2, .int ar2)]) rfl rfl rfl rfl f_X11_wrongSeeds (hI.wf.s rfl) rfl rfl rfl rfl rfl ?_
  refine ev_loc f_X11_wrongSeeds (nx := 1) rfl rfl rfl rfl ?_
  refine ev_if f_X11_wrongSeeds (t1 := 33) (t2 := 4) rfl rfl rfl (fun h1 => ?_) (fun h1 => ?_)
  · have u2 : ar1.toInt ≤ (-1) := t_ltu h1 (by decide : (0:Int32).toInt ≤ (0:Int)) rfl
    refine ev_ic f_X11_wrongSeeds (nx := 34) (v := 1) rfl (by decide) rfl ?_
    refine ev_retK1 f_X11_wrongSeeds rfl rfl rfl ?_
    refine ev_loc f_X11_odds (nx := 7) (lo' := [(3, .int 1), (0, .ref 0), (1, .int ar1), (2, .int ar2)]) rfl rfl rfl rfl ?_
    refine ev_loc f_X11_odds (nx := 8) rfl rfl rfl rfl ?_
    refine ev_f f_X11_odds (t1 := 17) (t2 := 11) rfl rfl rfl (by decide) ?_
    refine ev_loc f_X11_odds (nx := 12) rfl rfl rfl rfl ?_
    refine ev_loc f_X11_odds (nx := 13) rfl rfl rfl rfl ?_
    refine ev_inV2 f_X11_odds (nx := 16) (lo2 := [(0, .ref 0), (1, .int 1)]) rfl rfl rfl rfl f_X11_deny (hI.wf.s rfl) rfl rfl rfl rfl rfl ?_
    refine ev_loc f_X11_deny (nx := 1) rfl rfl rfl rfl ?_
    refine ev_loc f_X11_deny (nx := 2) rfl rfl rfl rfl ?_
    refine ev_putIT f_X11_deny (nx := 5) rfl (hI.wf.s rfl) rfl rfl rfl (hI.put0 (hI.wf.s rfl) rfl rfl) (hX.upI rfl) (fun g3 e3 hI hX => ?_)
    refine ev_ic f_X11_deny (nx := 6) (v := 0) rfl (by decide) rfl ?_
    refine ev_retK1 f_X11_deny rfl rfl rfl ?_
    exact ev_ret f_X11_odds rfl rfl rfl ⟨_, _, _, rfl, hI, hX, ⟨_, rfl, (by decide : (0:Int) ≤ (0:Int32).toInt), (Int.le_trans (by decide : (0:Int32).toInt ≤ (0:Int)) (by decide : (0:Int) ≤ 1)), (show ∀ (u : Nat) (D : s_D), gr 0 6 = .ref u → t_VL gr u → t_CV gi gl u D → t_Cb D → (u = 3 ∨ 102 ≤ u) → (∀ s : Nat, (s : Int) < D 1 → 0 ≤ D (56 + 5 * s) ∧ D (56 + 5 * s) ≤ 1) → s_DB D → D 4 ≤ 20 → D 5 ≤ 20 → (((0 ≤ ar1.toInt ∧ ar1.toInt ≤ 9999 ∧ 1 ≤ ar2.toInt ∧ ar2.toInt ≤ 20 ∧ ar1.toInt + ar2.toInt ≤ 10000) ∧ gr 0 7 ≠ .null) → ∀ (u2 : Nat) (R : List (List Int × Int)), gr 0 7 = .ref u2 → 102 ≤ u2 → t_UK gi u2 R → s_gd R → (gl 0 1).toInt = (s_gds D R ar1.toInt ar2.toNatClampNeg) / s_gc ar2.toInt (s_gds D R ar1.toInt ar2.toNatClampNeg) ∧ (gl 0 2).toInt = ar2.toInt / s_gc ar2.toInt (s_gds D R ar1.toInt ar2.toNatClampNeg)) ∧ (¬ ((0 ≤ ar1.toInt ∧ ar1.toInt ≤ 9999 ∧ 1 ≤ ar2.toInt ∧ ar2.toInt ≤ 20 ∧ ar1.toInt + ar2.toInt ≤ 10000) ∧ gr 0 7 ≠ .null) → gl 0 1 = gl 0 1 ∧ gl 0 2 = gl 0 2) from (fun u D hu hl hc hb hv hsl hd h4 h5 => ⟨fun h => absurd h.1 (by omega), fun _ => ⟨rfl, rfl⟩⟩))⟩⟩
  · have l4 : 0 ≤ ar1.toInt := t_lel (t_nlt h1) (by decide : (0:Int) ≤ (0:Int32).toInt)
    refine ev_loc f_X11_wrongSeeds (nx := 5) rfl rfl rfl rfl ?_
    refine ev_sp f_X11_wrongSeeds (nx := 8) (v := 9999) rfl (by decide) rfl ?_
    refine ev_if f_X11_wrongSeeds (t1 := 33) (t2 := 11) rfl rfl rfl (fun h5 => ?_) (fun h5 => ?_)
    · have l6 : 10000 ≤ ar1.toInt := t_ltl h5 (by decide : (9999:Int) ≤ (9999:Int32).toInt) rfl
      refine ev_ic f_X11_wrongSeeds (nx := 34) (v := 1) rfl (by decide) rfl ?_
      refine ev_retK1 f_X11_wrongSeeds rfl rfl rfl ?_
      refine ev_loc f_X11_odds (nx := 7) (lo' := [(3, .int 1), (0, .ref 0), (1, .int ar1), (2, .int ar2)]) rfl rfl rfl rfl ?_
      refine ev_loc f_X11_odds (nx := 8) rfl rfl rfl rfl ?_
      refine ev_f f_X11_odds (t1 := 17) (t2 := 11) rfl rfl rfl (by decide) ?_
      refine ev_loc f_X11_odds (nx := 12) rfl rfl rfl rfl ?_
      refine ev_loc f_X11_odds (nx := 13) rfl rfl rfl rfl ?_
      refine ev_inV2 f_X11_odds (nx := 16) (lo2 := [(0, .ref 0), (1, .int 1)]) rfl rfl rfl rfl f_X11_deny (hI.wf.s rfl) rfl rfl rfl rfl rfl ?_
      refine ev_loc f_X11_deny (nx := 1) rfl rfl rfl rfl ?_
      refine ev_loc f_X11_deny (nx := 2) rfl rfl rfl rfl ?_
      refine ev_putIT f_X11_deny (nx := 5) rfl (hI.wf.s rfl) rfl rfl rfl (hI.put0 (hI.wf.s rfl) rfl rfl) (hX.upI rfl) (fun g7 e7 hI hX => ?_)
      refine ev_ic f_X11_deny (nx := 6) (v := 0) rfl (by decide) rfl ?_
      refine ev_retK1 f_X11_deny rfl rfl rfl ?_
      exact ev_ret f_X11_odds rfl rfl rfl ⟨_, _, _, rfl, hI, hX, ⟨_, rfl, (by decide : (0:Int) ≤ (0:Int32).toInt), (Int.le_trans (by decide : (0:Int32).toInt ≤ (0:Int)) (by decide : (0:Int) ≤ 1)), (show ∀ (u : Nat) (D : s_D), gr 0 6 = .ref u → t_VL gr u → t_CV gi gl u D → t_Cb D → (u = 3 ∨ 102 ≤ u) → (∀ s : Nat, (s : Int) < D 1 → 0 ≤ D (56 + 5 * s) ∧ D (56 + 5 * s) ≤ 1) → s_DB D → D 4 ≤ 20 → D 5 ≤ 20 → (((0 ≤ ar1.toInt ∧ ar1.toInt ≤ 9999 ∧ 1 ≤ ar2.toInt ∧ ar2.toInt ≤ 20 ∧ ar1.toInt + ar2.toInt ≤ 10000) ∧ gr 0 7 ≠ .null) → ∀ (u2 : Nat) (R : List (List Int × Int)), gr 0 7 = .ref u2 → 102 ≤ u2 → t_UK gi u2 R → s_gd R → (gl 0 1).toInt = (s_gds D R ar1.toInt ar2.toNatClampNeg) / s_gc ar2.toInt (s_gds D R ar1.toInt ar2.toNatClampNeg) ∧ (gl 0 2).toInt = ar2.toInt / s_gc ar2.toInt (s_gds D R ar1.toInt ar2.toNatClampNeg)) ∧ (¬ ((0 ≤ ar1.toInt ∧ ar1.toInt ≤ 9999 ∧ 1 ≤ ar2.toInt ∧ ar2.toInt ≤ 20 ∧ ar1.toInt + ar2.toInt ≤ 10000) ∧ gr 0 7 ≠ .null) → gl 0 1 = gl 0 1 ∧ gl 0 2 = gl 0 2) from (fun u D hu hl hc hb hv hsl hd h4 h5 => ⟨fun h => absurd h.1 (by omega), fun _ => ⟨rfl, rfl⟩⟩))⟩⟩
    · have u8 : ar1.toInt ≤ 9999 := t_leu (t_nlt h5) (by decide : (9999:Int32).toInt ≤ (9999:Int))
      refine ev_loc f_X11_wrongSeeds (nx := 12) rfl rfl rfl rfl ?_
      refine ev_ic f_X11_wrongSeeds (nx := 13) (v := 1) rfl (by decide) rfl ?_
      refine ev_if f_X11_wrongSeeds (t1 := 33) (t2 := 16) rfl rfl rfl (fun h9 => ?_) (fun h9 => ?_)
      · have u10 : ar2.toInt ≤ 0 := t_ltu h9 (by decide : (1:Int32).toInt ≤ (1:Int)) rfl
        refine ev_ic f_X11_wrongSeeds (nx := 34) (v := 1) rfl (by decide) rfl ?_
        refine ev_retK1 f_X11_wrongSeeds rfl rfl rfl ?_
        refine ev_loc f_X11_odds (nx := 7) (lo' := [(3, .int 1), (0, .ref 0), (1, .int ar1), (2, .int ar2)]) rfl rfl rfl rfl ?_
        refine ev_loc f_X11_odds (nx := 8) rfl rfl rfl rfl ?_
        refine ev_f f_X11_odds (t1 := 17) (t2 := 11) rfl rfl rfl (by decide) ?_
        refine ev_loc f_X11_odds (nx := 12) rfl rfl rfl rfl ?_
        refine ev_loc f_X11_odds (nx := 13) rfl rfl rfl rfl ?_
        refine ev_inV2 f_X11_odds (nx := 16) (lo2 := [(0, .ref 0), (1, .int 1)]) rfl rfl rfl rfl f_X11_deny (hI.wf.s rfl) rfl rfl rfl rfl rfl ?_
        refine ev_loc f_X11_deny (nx := 1) rfl rfl rfl rfl ?_
        refine ev_loc f_X11_deny (nx := 2) rfl rfl rfl rfl ?_
        refine ev_putIT f_X11_deny (nx := 5) rfl (hI.wf.s rfl) rfl rfl rfl (hI.put0 (hI.wf.s rfl) rfl rfl) (hX.upI rfl) (fun g11 e11 hI hX => ?_)
        refine ev_ic f_X11_deny (nx := 6) (v := 0) rfl (by decide) rfl ?_
        refine ev_retK1 f_X11_deny rfl rfl rfl ?_
        exact ev_ret f_X11_odds rfl rfl rfl ⟨_, _, _, rfl, hI, hX, ⟨_, rfl, (by decide : (0:Int) ≤ (0:Int32).toInt), (Int.le_trans (by decide : (0:Int32).toInt ≤ (0:Int)) (by decide : (0:Int) ≤ 1)), (show ∀ (u : Nat) (D : s_D), gr 0 6 = .ref u → t_VL gr u → t_CV gi gl u D → t_Cb D → (u = 3 ∨ 102 ≤ u) → (∀ s : Nat, (s : Int) < D 1 → 0 ≤ D (56 + 5 * s) ∧ D (56 + 5 * s) ≤ 1) → s_DB D → D 4 ≤ 20 → D 5 ≤ 20 → (((0 ≤ ar1.toInt ∧ ar1.toInt ≤ 9999 ∧ 1 ≤ ar2.toInt ∧ ar2.toInt ≤ 20 ∧ ar1.toInt + ar2.toInt ≤ 10000) ∧ gr 0 7 ≠ .null) → ∀ (u2 : Nat) (R : List (List Int × Int)), gr 0 7 = .ref u2 → 102 ≤ u2 → t_UK gi u2 R → s_gd R → (gl 0 1).toInt = (s_gds D R ar1.toInt ar2.toNatClampNeg) / s_gc ar2.toInt (s_gds D R ar1.toInt ar2.toNatClampNeg) ∧ (gl 0 2).toInt = ar2.toInt / s_gc ar2.toInt (s_gds D R ar1.toInt ar2.toNatClampNeg)) ∧ (¬ ((0 ≤ ar1.toInt ∧ ar1.toInt ≤ 9999 ∧ 1 ≤ ar2.toInt ∧ ar2.toInt ≤ 20 ∧ ar1.toInt + ar2.toInt ≤ 10000) ∧ gr 0 7 ≠ .null) → gl 0 1 = gl 0 1 ∧ gl 0 2 = gl 0 2) from (fun u D hu hl hc hb hv hsl hd h4 h5 => ⟨fun h => absurd h.1 (by omega), fun _ => ⟨rfl, rfl⟩⟩))⟩⟩
      · have l12 : 1 ≤ ar2.toInt := t_lel (t_nlt h9) (by decide : (1:Int) ≤ (1:Int32).toInt)
        refine ev_loc f_X11_wrongSeeds (nx := 17) rfl rfl rfl rfl ?_
        refine ev_bp f_X11_wrongSeeds (nx := 19) (v := 20) rfl (by decide) rfl ?_
        refine ev_if f_X11_wrongSeeds (t1 := 33) (t2 := 22) rfl rfl rfl (fun h13 => ?_) (fun h13 => ?_)
        · have l14 : 21 ≤ ar2.toInt := t_ltl h13 (by decide : (20:Int) ≤ (20:Int32).toInt) rfl
          refine ev_ic f_X11_wrongSeeds (nx := 34) (v := 1) rfl (by decide) rfl ?_
          refine ev_retK1 f_X11_wrongSeeds rfl rfl rfl ?_
          refine ev_loc f_X11_odds (nx := 7) (lo' := [(3, .int 1), (0, .ref 0), (1, .int ar1), (2, .int ar2)]) rfl rfl rfl rfl ?_
          refine ev_loc f_X11_odds (nx := 8) rfl rfl rfl rfl ?_
          refine ev_f f_X11_odds (t1 := 17) (t2 := 11) rfl rfl rfl (by decide) ?_
          refine ev_loc f_X11_odds (nx := 12) rfl rfl rfl rfl ?_
          refine ev_loc f_X11_odds (nx := 13) rfl rfl rfl rfl ?_
          refine ev_inV2 f_X11_odds (nx := 16) (lo2 := [(0, .ref 0), (1, .int 1)]) rfl rfl rfl rfl f_X11_deny (hI.wf.s rfl) rfl rfl rfl rfl rfl ?_
          refine ev_loc f_X11_deny (nx := 1) rfl rfl rfl rfl ?_
          refine ev_loc f_X11_deny (nx := 2) rfl rfl rfl rfl ?_
          refine ev_putIT f_X11_deny (nx := 5) rfl (hI.wf.s rfl) rfl rfl rfl (hI.put0 (hI.wf.s rfl) rfl rfl) (hX.upI rfl) (fun g15 e15 hI hX => ?_)
          refine ev_ic f_X11_deny (nx := 6) (v := 0) rfl (by decide) rfl ?_
          refine ev_retK1 f_X11_deny rfl rfl rfl ?_
          exact ev_ret f_X11_odds rfl rfl rfl ⟨_, _, _, rfl, hI, hX, ⟨_, rfl, (by decide : (0:Int) ≤ (0:Int32).toInt), (Int.le_trans (by decide : (0:Int32).toInt ≤ (0:Int)) (by decide : (0:Int) ≤ 1)), (show ∀ (u : Nat) (D : s_D), gr 0 6 = .ref u → t_VL gr u → t_CV gi gl u D → t_Cb D → (u = 3 ∨ 102 ≤ u) → (∀ s : Nat, (s : Int) < D 1 → 0 ≤ D (56 + 5 * s) ∧ D (56 + 5 * s) ≤ 1) → s_DB D → D 4 ≤ 20 → D 5 ≤ 20 → (((0 ≤ ar1.toInt ∧ ar1.toInt ≤ 9999 ∧ 1 ≤ ar2.toInt ∧ ar2.toInt ≤ 20 ∧ ar1.toInt + ar2.toInt ≤ 10000) ∧ gr 0 7 ≠ .null) → ∀ (u2 : Nat) (R : List (List Int × Int)), gr 0 7 = .ref u2 → 102 ≤ u2 → t_UK gi u2 R → s_gd R → (gl 0 1).toInt = (s_gds D R ar1.toInt ar2.toNatClampNeg) / s_gc ar2.toInt (s_gds D R ar1.toInt ar2.toNatClampNeg) ∧ (gl 0 2).toInt = ar2.toInt / s_gc ar2.toInt (s_gds D R ar1.toInt ar2.toNatClampNeg)) ∧ (¬ ((0 ≤ ar1.toInt ∧ ar1.toInt ≤ 9999 ∧ 1 ≤ ar2.toInt ∧ ar2.toInt ≤ 20 ∧ ar1.toInt + ar2.toInt ≤ 10000) ∧ gr 0 7 ≠ .null) → gl 0 1 = gl 0 1 ∧ gl 0 2 = gl 0 2) from (fun u D hu hl hc hb hv hsl hd h4 h5 => ⟨fun h => absurd h.1 (by omega), fun _ => ⟨rfl, rfl⟩⟩))⟩⟩
        · have u16 : ar2.toInt ≤ 20 := t_leu (t_nlt h13) (by decide : (20:Int32).toInt ≤ (20:Int))
          refine ev_loc f_X11_wrongSeeds (nx := 23) rfl rfl rfl rfl ?_
          refine ev_loc f_X11_wrongSeeds (nx := 24) rfl rfl rfl rfl ?_
          refine ev_addR f_X11_wrongSeeds (nx := 25) (l := 1) (u := 10019) rfl l4 u8 l12 u16 rfl rfl (by decide) (by decide) rfl (fun z17 e17 l17 u17 => ?_)
          refine ev_ic f_X11_wrongSeeds (nx := 26) (v := 1) rfl (by decide) rfl ?_
          refine ev_subC f_X11_wrongSeeds (nx := 27) (c := 1) (l := 0) (u := 10018) rfl (by decide) l17 u17 rfl rfl (by decide) (by decide) rfl (fun z18 e18 l18 u18 => ?_)
          refine ev_sp f_X11_wrongSeeds (nx := 30) (v := 9999) rfl (by decide) rfl ?_
          refine ev_if f_X11_wrongSeeds (t1 := 35) (t2 := 33) rfl rfl rfl (fun h19 => ?_) (fun h19 => ?_)
          · have u20 : z18.toInt ≤ 9999 := t_leu h19 (by decide : (9999:Int32).toInt ≤ (9999:Int))
            refine ev_loc f_X11_wrongSeeds (nx := 36) rfl rfl rfl rfl ?_
            rcases hI.2.2.2.1.2.1 with e21 | ⟨a21, e21, p21⟩
            · refine ev_getR f_X11_wrongSeeds (nx := 39) rfl (hI.wf.s rfl) rfl rfl e21 rfl rfl ?_
              refine ev_jmp f_X11_wrongSeeds (nx := 42) rfl rfl rfl ?_
              refine ev_bp f_X11_wrongSeeds (nx := 44) (v := 6) rfl (by decide) rfl ?_
              refine ev_jmp f_X11_wrongSeeds (nx := 48) rfl rfl rfl ?_
              refine ev_retK1 f_X11_wrongSeeds rfl rfl rfl ?_
              refine ev_loc f_X11_odds (nx := 7) (lo' := [(3, .int 6), (0, .ref 0), (1, .int ar1), (2, .int ar2)]) rfl rfl rfl rfl ?_
              refine ev_loc f_X11_odds (nx := 8) rfl rfl rfl rfl ?_
              refine ev_f f_X11_odds (t1 := 17) (t2 := 11) rfl rfl rfl (by decide) ?_
              refine ev_loc f_X11_odds (nx := 12) rfl rfl rfl rfl ?_
              refine ev_loc f_X11_odds (nx := 13) rfl rfl rfl rfl ?_
              refine ev_inV2 f_X11_odds (nx := 16) (lo2 := [(0, .ref 0), (1, .int 6)]) rfl rfl rfl rfl f_X11_deny (hI.wf.s rfl) rfl rfl rfl rfl rfl ?_
              refine ev_loc f_X11_deny (nx := 1) rfl rfl rfl rfl ?_
              refine ev_loc f_X11_deny (nx := 2) rfl rfl rfl rfl ?_
              refine ev_putIT f_X11_deny (nx := 5) rfl (hI.wf.s rfl) rfl rfl rfl (hI.put0 (hI.wf.s rfl) rfl rfl) (hX.upI rfl) (fun g22 e22 hI hX => ?_)
              refine ev_ic f_X11_deny (nx := 6) (v := 0) rfl (by decide) rfl ?_
              refine ev_retK1 f_X11_deny rfl rfl rfl ?_
              exact ev_ret f_X11_odds rfl rfl rfl ⟨_, _, _, rfl, hI, hX, ⟨_, rfl, (by decide : (0:Int) ≤ (0:Int32).toInt), (Int.le_trans (by decide : (0:Int32).toInt ≤ (0:Int)) (by decide : (0:Int) ≤ 1)), (show ∀ (u : Nat) (D : s_D), gr 0 6 = .ref u → t_VL gr u → t_CV gi gl u D → t_Cb D → (u = 3 ∨ 102 ≤ u) → (∀ s : Nat, (s : Int) < D 1 → 0 ≤ D (56 + 5 * s) ∧ D (56 + 5 * s) ≤ 1) → s_DB D → D 4 ≤ 20 → D 5 ≤ 20 → (((0 ≤ ar1.toInt ∧ ar1.toInt ≤ 9999 ∧ 1 ≤ ar2.toInt ∧ ar2.toInt ≤ 20 ∧ ar1.toInt + ar2.toInt ≤ 10000) ∧ gr 0 7 ≠ .null) → ∀ (u2 : Nat) (R : List (List Int × Int)), gr 0 7 = .ref u2 → 102 ≤ u2 → t_UK gi u2 R → s_gd R → (gl 0 1).toInt = (s_gds D R ar1.toInt ar2.toNatClampNeg) / s_gc ar2.toInt (s_gds D R ar1.toInt ar2.toNatClampNeg) ∧ (gl 0 2).toInt = ar2.toInt / s_gc ar2.toInt (s_gds D R ar1.toInt ar2.toNatClampNeg)) ∧ (¬ ((0 ≤ ar1.toInt ∧ ar1.toInt ≤ 9999 ∧ 1 ≤ ar2.toInt ∧ ar2.toInt ≤ 20 ∧ ar1.toInt + ar2.toInt ≤ 10000) ∧ gr 0 7 ≠ .null) → gl 0 1 = gl 0 1 ∧ gl 0 2 = gl 0 2) from (fun u D hu hl hc hb hv hsl hd h4 h5 => ⟨fun h => absurd ((hX.1 0 7 rfl).2.2.symm.trans e21) h.2, fun _ => ⟨rfl, rfl⟩⟩))⟩⟩
            · refine ev_getR f_X11_wrongSeeds (nx := 39) rfl (hI.wf.s rfl) rfl rfl e21 rfl rfl ?_
              refine ev_jmp f_X11_wrongSeeds (nx := 47) rfl rfl rfl ?_
              refine ev_ic f_X11_wrongSeeds (nx := 48) (v := 0) rfl (by decide) rfl ?_
              refine ev_retK1 f_X11_wrongSeeds rfl rfl rfl ?_
              refine ev_loc f_X11_odds (nx := 7) (lo' := [(3, .int 0), (0, .ref 0), (1, .int ar1), (2, .int ar2)]) rfl rfl rfl rfl ?_
              refine ev_loc f_X11_odds (nx := 8) rfl rfl rfl rfl ?_
              refine ev_t f_X11_odds (t1 := 17) (t2 := 11) rfl rfl rfl (by decide) ?_
              refine ev_ic f_X11_odds (nx := 18) (v := 0) rfl (by decide) rfl ?_
              refine ev_loc f_X11_odds (nx := 20) (lo' := [(4, .int 0), (3, .int 0), (0, .ref 0), (1, .int ar1), (2, .int ar2)]) rfl rfl rfl rfl ?_
              refine ev_ic f_X11_odds (nx := 21) (v := 0) rfl (by decide) rfl ?_
              refine ev_loc f_X11_odds (nx := 23) (lo' := [(5, .int 0), (4, .int 0), (3, .int 0), (0, .ref 0), (1, .int ar1), (2, .int ar2)]) rfl rfl rfl rfl ?_
              have L23 : ∀ (m23 : Nat) (gi23 : Nat → Nat → Int32) (gl23 : Nat → Nat → Int64) (gr23 : Nat → Nat → Value) (y23_5 : Int32) (y23_4 : Int32), t_I sh gi23 gr23 → t_X wl_k_odds sh gi gl gr gi23 gl23 gr23 → t_Ru sh gr23 a21 → 0 ≤ y23_5.toInt → y23_5.toInt ≤ 20 → 0 ≤ y23_4.toInt → y23_4.toInt ≤ 20 → gr23 0 7 = .ref a21 → y23_4.toInt ≤ y23_5.toInt → (∀ (u : Nat) (D : s_D), gr 0 6 = .ref u → t_VL gr u → t_CV gi gl u D → t_Cb D → (u = 3 ∨ 102 ≤ u) → (∀ s : Nat, (s : Int) < D 1 → 0 ≤ D (56 + 5 * s) ∧ D (56 + 5 * s) ≤ 1) → s_DB D → D 4 ≤ 20 → D 5 ≤ 20 → ∀ (u2 : Nat) (R : List (List Int × Int)), gr 0 7 = .ref u2 → 102 ≤ u2 → t_UK gi u2 R → s_gd R → y23_4.toInt = s_gds D R ar1.toInt y23_5.toNatClampNeg) → y23_5.toInt ≤ ar2.toInt → (20 - y23_5.toInt).toNat = m23 → x_Ev X (d + 6) n_X11_odds 23 [(5, .int y23_5), (4, .int y23_4), (3, .int 0), (0, .ref 0), (1, .int ar1), (2, .int ar2)] [] (sh, gi23, gl23, gr23) (t_PI wl_k_odds sh gi gl gr 0 1 (Q_k_odds gi gl gr ar1 ar2)) := by
                intro m23
                induction m23 using Nat.strongRecOn with
                | _ m23 ih23 =>
                intro gi23 gl23 gr23 y23_5 y23_4 hI hX p21 l23_5 u23_5 l23_4 u23_4 c23_0 j23_0 j23_1 j23_2 hm23
                refine ev_loc f_X11_odds (nx := 25) rfl rfl rfl rfl ?_
                have hXw23 := hX
                refine ev_loc f_X11_odds (nx := 26) rfl rfl rfl rfl ?_
                refine ev_if f_X11_odds (t1 := 77) (t2 := 29) rfl rfl rfl (fun h24 => ?_) (fun h24 => ?_)
                · have r25 : ar2.toInt ≤ y23_5.toInt := Int32.le_iff_toInt_le.mp h24
                  have l26 : 1 ≤ y23_5.toInt := t_lel h24 l12
                  refine ev_loc f_X11_odds (nx := 78) rfl rfl rfl rfl ?_
                  refine ev_loc f_X11_odds (nx := 80) rfl rfl rfl rfl ?_
                  refine ev_loc f_X11_odds (nx := 81) rfl rfl rfl rfl ?_
                  refine ev_qN f_X11_odds (nx := 84) (r := []) rfl rfl rfl rfl rfl rfl rfl (c_q_tellFraction hI (y23_4) (ar2)) rfl hX rfl (fun gi27 gl27 gr27 hI hX hC27 q27 => ?_)
                  have q27 : (0 ≤ y23_4.toInt → y23_4.toInt ≤ ar2.toInt → 1 ≤ ar2.toInt → ar2.toInt ≤ 500 → (gl27 0 1).toInt = y23_4.toInt / s_gc ar2.toInt y23_4.toInt ∧ (gl27 0 2).toInt = ar2.toInt / s_gc ar2.toInt y23_4.toInt) := q27
                  replace p21 := p21.ext hC27.2
                  refine ev_loc f_X11_odds (nx := 85) rfl rfl rfl rfl ?_
                  refine ev_inV1 f_X11_odds (nx := 88) (lo2 := [(0, .ref 0)]) rfl rfl rfl rfl f_X11_grant (hI.wf.s rfl) rfl rfl rfl rfl rfl ?_
                  refine ev_loc f_X11_grant (nx := 1) rfl rfl rfl rfl ?_
                  refine ev_ic f_X11_grant (nx := 2) (v := 0) rfl (by decide) rfl ?_
                  refine ev_putIT f_X11_grant (nx := 5) rfl (hI.wf.s rfl) rfl rfl rfl (hI.put0 (hI.wf.s rfl) rfl rfl) (hX.upI rfl) (fun g28 e28 hI hX => ?_)
                  refine ev_ic f_X11_grant (nx := 6) (v := 1) rfl (by decide) rfl ?_
                  refine ev_retK1 f_X11_grant rfl rfl rfl ?_
                  exact ev_ret f_X11_odds rfl rfl rfl ⟨_, _, _, rfl, hI, hX, ⟨_, rfl, (Int.le_trans (by decide : (0:Int) ≤ 1) (by decide : (1:Int) ≤ (1:Int32).toInt)), (by decide : (1:Int32).toInt ≤ (1:Int)), (show ∀ (u : Nat) (D : s_D), gr 0 6 = .ref u → t_VL gr u → t_CV gi gl u D → t_Cb D → (u = 3 ∨ 102 ≤ u) → (∀ s : Nat, (s : Int) < D 1 → 0 ≤ D (56 + 5 * s) ∧ D (56 + 5 * s) ≤ 1) → s_DB D → D 4 ≤ 20 → D 5 ≤ 20 → (((0 ≤ ar1.toInt ∧ ar1.toInt ≤ 9999 ∧ 1 ≤ ar2.toInt ∧ ar2.toInt ≤ 20 ∧ ar1.toInt + ar2.toInt ≤ 10000) ∧ gr 0 7 ≠ .null) → ∀ (u2 : Nat) (R : List (List Int × Int)), gr 0 7 = .ref u2 → 102 ≤ u2 → t_UK gi u2 R → s_gd R → (gl27 0 1).toInt = (s_gds D R ar1.toInt ar2.toNatClampNeg) / s_gc ar2.toInt (s_gds D R ar1.toInt ar2.toNatClampNeg) ∧ (gl27 0 2).toInt = ar2.toInt / s_gc ar2.toInt (s_gds D R ar1.toInt ar2.toNatClampNeg)) ∧ (¬ ((0 ≤ ar1.toInt ∧ ar1.toInt ≤ 9999 ∧ 1 ≤ ar2.toInt ∧ ar2.toInt ≤ 20 ∧ ar1.toInt + ar2.toInt ≤ 10000) ∧ gr 0 7 ≠ .null) → gl27 0 1 = gl 0 1 ∧ gl27 0 2 = gl 0 2) from (fun u D hu hl hc hb hv hsl hd h4 h5 => ⟨fun _ u2 R hu7 h2 hU hg => (by
                                                            have cy := t_clamp (i := y23_5) (by omega)
                                                            have h := j23_1 u D hu hl hc hb hv hsl hd h4 h5 u2 R hu7 h2 hU hg
                                                            rw [show y23_5.toNatClampNeg = ar2.toNatClampNeg by have := t_clamp (i := ar2) (by omega); omega] at h
                                                            have hq := q27 (by omega) (by omega) (by omega) (by omega)
                                                            rw [h] at hq
                                                            exact hq), fun h => absurd (show _ from ⟨⟨by omega, by omega, by omega, by omega, by omega⟩, (fun hh => (by cases ((hX.1 0 7 rfl).2.2.trans hh).symm.trans ((hC27.1 0 7 rfl).2.2.trans c23_0)))⟩) h⟩))⟩⟩
                · have r29 : y23_5.toInt < ar2.toInt := Int32.lt_iff_toInt_lt.mp (t_nle h24)
                  have u30 : y23_5.toInt ≤ 19 := t_ltu (t_nle h24) u16 rfl
                  refine ev_loc f_X11_odds (nx := 30) rfl rfl rfl rfl ?_
                  refine ev_getR f_X11_odds (nx := 33) rfl (hI.wf.s rfl) rfl rfl (hI.wf.r rfl) rfl rfl ?_
                  refine ev_loc f_X11_odds (nx := 34) rfl rfl rfl rfl ?_
                  obtain ⟨a31, e31, p31⟩ := hI.2.2.2.1.1
                  refine ev_getR f_X11_odds (nx := 37) rfl (hI.wf.s rfl) rfl rfl e31 rfl rfl ?_
                  refine ev_loc f_X11_odds (nx := 38) rfl rfl rfl rfl ?_
                  refine ev_getR f_X11_odds (nx := 41) (v := .ref a21) rfl (hI.wf.s rfl) rfl rfl c23_0 rfl rfl ?_
                  refine ev_loc f_X11_odds (nx := 42) rfl rfl rfl rfl ?_
                  refine ev_loc f_X11_odds (nx := 44) rfl rfl rfl rfl ?_
                  refine ev_addR f_X11_odds (nx := 45) (l := 0) (u := 10018) rfl l4 u8 l23_5 u30 rfl rfl (by decide) (by decide) rfl (fun z32 e32 l32 u32 => ?_)
                  refine ev_qN f_X11_odds (nx := 48) (r := []) rfl rfl rfl rfl rfl rfl rfl (c_k_spendDay hI (a31) p31 (a21) p21 (z32)) rfl hX rfl (fun gi33 gl33 gr33 hI hX hC33 q33 => ?_)
                  have q33 : (∀ (D : s_D) (R : List (List Int × Int)), t_VL gr23 a31 → t_CV gi23 gl23 a31 D → (a31 = 3 ∨ 102 ≤ a31) → t_Cb D → (∀ s : Nat, (s : Int) < D 1 → 0 ≤ D (56 + 5 * s) ∧ D (56 + 5 * s) ≤ 1) → s_DB D → D 4 ≤ 20 → D 5 ≤ 20 → (-1 ≤ z32.toInt ∧ z32.toInt ≤ 9999) → t_UK gi23 a21 R → s_gd R → 102 ≤ a21 → ∃ Z, t_KL (s_PY D z32.toInt) gi33 ∧ t_CZ ((s_PY D z32.toInt) 0 0) Z gi33 ∧ Z 5 = (s_dy (s_PY D z32.toInt) (fun F => s_ac F R) 301 0 (fun _ => (0 : Int))) 5 ∧ Z 6 = (s_dy (s_PY D z32.toInt) (fun F => s_ac F R) 301 0 (fun _ => (0 : Int))) 6 ∧ s_lf (s_PY D z32.toInt) Z = s_lf (s_PY D z32.toInt) (s_dy (s_PY D z32.toInt) (fun F => s_ac F R) 301 0 (fun _ => (0 : Int)))) := q33
                  replace p21 := p21.ext hC33.2
                  replace p31 := p31.ext hC33.2
                  refine ev_loc f_X11_odds (nx := 49) rfl rfl rfl rfl ?_
                  refine ev_getR f_X11_odds (nx := 52) rfl (hI.wf.s rfl) rfl rfl (hI.wf.r rfl) rfl rfl ?_
                  refine ev_getI f_X11_odds (nx := 55) rfl (hI.wf.s rfl) rfl rfl rfl ?_
                  refine ev_if f_X11_odds (t1 := 58) (t2 := 71) rfl rfl rfl (fun h34 => ?_) (fun h34 => ?_)
                  · have u35 : (gi33 45 12).toInt ≤ 0 := t_equ h34 (by decide : (0:Int32).toInt ≤ (0:Int))
                    have l36 : 0 ≤ (gi33 45 12).toInt := t_eql h34 (by decide : (0:Int) ≤ (0:Int32).toInt)
                    refine ev_loc f_X11_odds (nx := 59) rfl rfl rfl rfl ?_
                    refine ev_getR f_X11_odds (nx := 62) rfl (hI.wf.s rfl) rfl rfl (hI.wf.r rfl) rfl rfl ?_
                    refine ev_qI f_X11_odds (nx := 65) (r := []) rfl rfl rfl rfl rfl rfl rfl (c_k_left hI ) rfl hX rfl (fun w37 gi37 gl37 gr37 l37 u37 hI hX hC37 q37 => ?_)
                    have q37 : (∀ (P : Nat → Nat → Int) (Z : Nat → Int), t_KL P gi33 → t_CZ (P 0 0) Z gi33 → w37.toInt = s_lf P Z) := q37
                    replace p21 := p21.ext hC37.2
                    replace p31 := p31.ext hC37.2
                    refine ev_if f_X11_odds (t1 := 68) (t2 := 71) rfl rfl rfl (fun h38 => ?_) (fun h38 => ?_)
                    · have u39 : w37.toInt ≤ 0 := t_equ h38 (by decide : (0:Int32).toInt ≤ (0:Int))
                      have l40 : 0 ≤ w37.toInt := t_eql h38 (by decide : (0:Int) ≤ (0:Int32).toInt)
                      refine ev_incR f_X11_odds (nx := 71) (c := 1) (l := 1) (u := 21) rfl rfl (by decide) (by decide) l23_4 u23_4 rfl rfl (by decide) (by decide) rfl (fun z41 e41 l41 u41 => ?_)
                      refine ev_incR f_X11_odds (nx := 74) (c := 1) (l := 1) (u := 20) rfl rfl (by decide) (by decide) l23_5 u30 rfl rfl (by decide) (by decide) rfl (fun z42 e42 l42 u42 => ?_)
                      refine ev_jmp f_X11_odds (nx := 23) rfl rfl rfl ?_
                      refine ev_sub (lo := [(5, .int z42), (4, .int z41), (3, .int 0), (0, .ref 0), (1, .int ar1), (2, .int ar2)]) rfl (t_sc rfl (t_sc rfl (t_sc rfl (t_sc rfl (t_sc rfl (t_sc rfl t_sn)))))) ?_
                      exact ih23 _ (by omega) gi37 gl37 gr37 (z42) (z41) hI hX p21 (Int.le_trans (by decide : (0:Int) ≤ 1) l42) u42 (Int.le_trans (by decide : (0:Int) ≤ 1) l41) (by omega : z41.toInt ≤ (20:Int)) ((hC37.1 0 7 rfl).2.2.trans ((hC33.1 0 7 rfl).2.2.trans c23_0)) (by omega) (fun u D hu hl hc hb hv hsl hd h4 h5 u2 R hu7 h2 hU hg => (by
                                                            have ha0 : a31 = u := Value.ref.inj (e31.symm.trans ((hXw23.1 0 6 rfl).2.2.trans hu))
                                                            have hr7 : a21 = u2 := Value.ref.inj (((hC37.1 0 7 rfl).2.2.trans ((hC33.1 0 7 rfl).2.2.trans c23_0)).symm.trans ((hX.1 0 7 rfl).2.2.trans hu7))
                                                            have hK := t_nd_fr hXw23 rfl
                                                            have hl2 := hl.fr (fun K k1 k2 => hK K (by omega))
                                                            have hc2 := hc.fr (fun K k1 k2 => hK K (by omega))
                                                            have hU2 := hU.eq (fun K a _ => (hK K (Or.inr (by omega))).1)
                                                            subst ha0
                                                            subst hr7
                                                            have cy := t_clamp (i := y23_5) (by omega)
                                                            have hsd : z32.toInt = ar1.toInt + (y23_5.toNatClampNeg : Int) := by omega
                                                            have hq := q33 D R hl2 hc2 hv hb hsl hd h4 h5 ⟨by omega, by omega⟩ hU2 hg h2
                                                            rw [hsd] at hq
                                                            obtain ⟨Z, hL, hZ, e5, e6, e7⟩ := hq
                                                            have ex : z42.toNatClampNeg = y23_5.toNatClampNeg + 1 := by have := t_clamp (i := z42) (by omega); omega
                                                            have h12 : gi33 45 12 = Int32.ofInt ((s_day D R (ar1.toInt + (y23_5.toNatClampNeg : Int))) 6) := hZ.2.1.2.trans (congrArg Int32.ofInt e6)
                                                            have z0 : (0 : Int32).toInt = 0 := rfl
                                                            have g1 := j23_1 _ D hu hl hc hb hv hsl hd h4 h5 _ R hu7 h2 hU hg
                                                            have hlf : w37.toInt = s_lf (s_PY D (ar1.toInt + (y23_5.toNatClampNeg : Int))) Z := q37 (s_PY D (ar1.toInt + (y23_5.toNatClampNeg : Int))) Z hL hZ
                                                            have e7b : s_lf (s_PY D (ar1.toInt + (y23_5.toNatClampNeg : Int))) Z = s_lf (s_PY D (ar1.toInt + (y23_5.toNatClampNeg : Int))) (s_day D R (ar1.toInt + (y23_5.toNatClampNeg : Int))) := e7
                                                            have h9 : s_gd1 (s_PY D (ar1.toInt + (y23_5.toNatClampNeg : Int))) (s_day D R (ar1.toInt + (y23_5.toNatClampNeg : Int))) = 1 := if_pos ⟨h12.symm.trans (Int32.toInt_inj.mp ((show (gi33 45 12).toInt = 0 by omega).trans rfl)), by omega⟩
                                                            rw [ex]
                                                            show _ = s_gds D R ar1.toInt y23_5.toNatClampNeg + s_gd1 (s_PY D (ar1.toInt + (y23_5.toNatClampNeg : Int))) (s_day D R (ar1.toInt + (y23_5.toNatClampNeg : Int)))
                                                            omega)) (by omega) rfl
                    · have r43 : w37.toInt ≠ 0 := fun e => h38 (Int32.toInt_inj.mp (e.trans (by decide : (0:Int) = (0 : Int32).toInt)))
                      refine ev_incR f_X11_odds (nx := 74) (c := 1) (l := 1) (u := 20) rfl rfl (by decide) (by decide) l23_5 u30 rfl rfl (by decide) (by decide) rfl (fun z44 e44 l44 u44 => ?_)
                      refine ev_jmp f_X11_odds (nx := 23) rfl rfl rfl ?_
                      refine ev_sub (lo := [(5, .int z44), (4, .int y23_4), (3, .int 0), (0, .ref 0), (1, .int ar1), (2, .int ar2)]) rfl (t_sc rfl (t_sc rfl (t_sc rfl (t_sc rfl (t_sc rfl (t_sc rfl t_sn)))))) ?_
                      exact ih23 _ (by omega) gi37 gl37 gr37 (z44) (y23_4) hI hX p21 (Int.le_trans (by decide : (0:Int) ≤ 1) l44) u44 l23_4 u23_4 ((hC37.1 0 7 rfl).2.2.trans ((hC33.1 0 7 rfl).2.2.trans c23_0)) (by omega) (fun u D hu hl hc hb hv hsl hd h4 h5 u2 R hu7 h2 hU hg => (by
                                                            have ha0 : a31 = u := Value.ref.inj (e31.symm.trans ((hXw23.1 0 6 rfl).2.2.trans hu))
                                                            have hr7 : a21 = u2 := Value.ref.inj (((hC37.1 0 7 rfl).2.2.trans ((hC33.1 0 7 rfl).2.2.trans c23_0)).symm.trans ((hX.1 0 7 rfl).2.2.trans hu7))
                                                            have hK := t_nd_fr hXw23 rfl
                                                            have hl2 := hl.fr (fun K k1 k2 => hK K (by omega))
                                                            have hc2 := hc.fr (fun K k1 k2 => hK K (by omega))
                                                            have hU2 := hU.eq (fun K a _ => (hK K (Or.inr (by omega))).1)
                                                            subst ha0
                                                            subst hr7
                                                            have cy := t_clamp (i := y23_5) (by omega)
                                                            have hsd : z32.toInt = ar1.toInt + (y23_5.toNatClampNeg : Int) := by omega
                                                            have hq := q33 D R hl2 hc2 hv hb hsl hd h4 h5 ⟨by omega, by omega⟩ hU2 hg h2
                                                            rw [hsd] at hq
                                                            obtain ⟨Z, hL, hZ, e5, e6, e7⟩ := hq
                                                            have ex : z44.toNatClampNeg = y23_5.toNatClampNeg + 1 := by have := t_clamp (i := z44) (by omega); omega
                                                            have h12 : gi33 45 12 = Int32.ofInt ((s_day D R (ar1.toInt + (y23_5.toNatClampNeg : Int))) 6) := hZ.2.1.2.trans (congrArg Int32.ofInt e6)
                                                            have z0 : (0 : Int32).toInt = 0 := rfl
                                                            have g1 := j23_1 _ D hu hl hc hb hv hsl hd h4 h5 _ R hu7 h2 hU hg
                                                            have hlf : w37.toInt = s_lf (s_PY D (ar1.toInt + (y23_5.toNatClampNeg : Int))) Z := q37 (s_PY D (ar1.toInt + (y23_5.toNatClampNeg : Int))) Z hL hZ
                                                            have e7b : s_lf (s_PY D (ar1.toInt + (y23_5.toNatClampNeg : Int))) Z = s_lf (s_PY D (ar1.toInt + (y23_5.toNatClampNeg : Int))) (s_day D R (ar1.toInt + (y23_5.toNatClampNeg : Int))) := e7
                                                            have h9 : s_gd1 (s_PY D (ar1.toInt + (y23_5.toNatClampNeg : Int))) (s_day D R (ar1.toInt + (y23_5.toNatClampNeg : Int))) = 0 := if_neg (fun hh => by have k9 := hh.2; omega)
                                                            rw [ex]
                                                            show _ = s_gds D R ar1.toInt y23_5.toNatClampNeg + s_gd1 (s_PY D (ar1.toInt + (y23_5.toNatClampNeg : Int))) (s_day D R (ar1.toInt + (y23_5.toNatClampNeg : Int)))
                                                            omega)) (by omega) rfl
                  · have r45 : (gi33 45 12).toInt ≠ 0 := fun e => h34 (Int32.toInt_inj.mp (e.trans (by decide : (0:Int) = (0 : Int32).toInt)))
                    refine ev_incR f_X11_odds (nx := 74) (c := 1) (l := 1) (u := 20) rfl rfl (by decide) (by decide) l23_5 u30 rfl rfl (by decide) (by decide) rfl (fun z46 e46 l46 u46 => ?_)
                    refine ev_jmp f_X11_odds (nx := 23) rfl rfl rfl ?_
                    refine ev_sub (lo := [(5, .int z46), (4, .int y23_4), (3, .int 0), (0, .ref 0), (1, .int ar1), (2, .int ar2)]) rfl (t_sc rfl (t_sc rfl (t_sc rfl (t_sc rfl (t_sc rfl (t_sc rfl t_sn)))))) ?_
                    exact ih23 _ (by omega) gi33 gl33 gr33 (z46) (y23_4) hI hX p21 (Int.le_trans (by decide : (0:Int) ≤ 1) l46) u46 l23_4 u23_4 ((hC33.1 0 7 rfl).2.2.trans c23_0) (by omega) (fun u D hu hl hc hb hv hsl hd h4 h5 u2 R hu7 h2 hU hg => (by
                                                            have ha0 : a31 = u := Value.ref.inj (e31.symm.trans ((hXw23.1 0 6 rfl).2.2.trans hu))
                                                            have hr7 : a21 = u2 := Value.ref.inj (((hC33.1 0 7 rfl).2.2.trans c23_0).symm.trans ((hX.1 0 7 rfl).2.2.trans hu7))
                                                            have hK := t_nd_fr hXw23 rfl
                                                            have hl2 := hl.fr (fun K k1 k2 => hK K (by omega))
                                                            have hc2 := hc.fr (fun K k1 k2 => hK K (by omega))
                                                            have hU2 := hU.eq (fun K a _ => (hK K (Or.inr (by omega))).1)
                                                            subst ha0
                                                            subst hr7
                                                            have cy := t_clamp (i := y23_5) (by omega)
                                                            have hsd : z32.toInt = ar1.toInt + (y23_5.toNatClampNeg : Int) := by omega
                                                            have hq := q33 D R hl2 hc2 hv hb hsl hd h4 h5 ⟨by omega, by omega⟩ hU2 hg h2
                                                            rw [hsd] at hq
                                                            obtain ⟨Z, hL, hZ, e5, e6, e7⟩ := hq
                                                            have ex : z46.toNatClampNeg = y23_5.toNatClampNeg + 1 := by have := t_clamp (i := z46) (by omega); omega
                                                            have h12 : gi33 45 12 = Int32.ofInt ((s_day D R (ar1.toInt + (y23_5.toNatClampNeg : Int))) 6) := hZ.2.1.2.trans (congrArg Int32.ofInt e6)
                                                            have z0 : (0 : Int32).toInt = 0 := rfl
                                                            have g1 := j23_1 _ D hu hl hc hb hv hsl hd h4 h5 _ R hu7 h2 hU hg
                                                            have h9 : s_gd1 (s_PY D (ar1.toInt + (y23_5.toNatClampNeg : Int))) (s_day D R (ar1.toInt + (y23_5.toNatClampNeg : Int))) = 0 := if_neg (fun hh => by have k9 := congrArg Int32.toInt (h12.trans hh.1); omega)
                                                            rw [ex]
                                                            show _ = s_gds D R ar1.toInt y23_5.toNatClampNeg + s_gd1 (s_PY D (ar1.toInt + (y23_5.toNatClampNeg : Int))) (s_day D R (ar1.toInt + (y23_5.toNatClampNeg : Int)))
                                                            omega)) (by omega) rfl
              refine ev_sub (lo := [(5, .int 0), (4, .int 0), (3, .int 0), (0, .ref 0), (1, .int ar1), (2, .int ar2)]) rfl (t_sc rfl (t_sc rfl (t_sc rfl (t_sc rfl (t_sc rfl (t_sc rfl t_sn)))))) ?_
              exact L23 _ gi gl gr (0) (0) hI hX p21 (by decide : (0:Int) ≤ (0:Int32).toInt) (Int.le_trans (by decide : (0:Int32).toInt ≤ (0:Int)) (by decide : (0:Int) ≤ 20)) (by decide : (0:Int) ≤ (0:Int32).toInt) (Int.le_trans (by decide : (0:Int32).toInt ≤ (0:Int)) (by decide : (0:Int) ≤ 20)) e21 (by have kf47 : (0 : Int32).toInt = 0 := (by decide); omega) (fun u D hu hl hc hb hv hsl hd h4 h5 u2 R hu7 h2 hU hg => rfl) (by have kf48 : (0 : Int32).toInt = 0 := (by decide); omega) rfl
          · have l49 : 10000 ≤ z18.toInt := t_ltl (t_nle h19) (by decide : (9999:Int) ≤ (9999:Int32).toInt) rfl
            refine ev_ic f_X11_wrongSeeds (nx := 34) (v := 1) rfl (by decide) rfl ?_
            refine ev_retK1 f_X11_wrongSeeds rfl rfl rfl ?_
            refine ev_loc f_X11_odds (nx := 7) (lo' := [(3, .int 1), (0, .ref 0), (1, .int ar1), (2, .int ar2)]) rfl rfl rfl rfl ?_
            refine ev_loc f_X11_odds (nx := 8) rfl rfl rfl rfl ?_
            refine ev_f f_X11_odds (t1 := 17) (t2 := 11) rfl rfl rfl (by decide) ?_
            refine ev_loc f_X11_odds (nx := 12) rfl rfl rfl rfl ?_
            refine ev_loc f_X11_odds (nx := 13) rfl rfl rfl rfl ?_
            refine ev_inV2 f_X11_odds (nx := 16) (lo2 := [(0, .ref 0), (1, .int 1)]) rfl rfl rfl rfl f_X11_deny (hI.wf.s rfl) rfl rfl rfl rfl rfl ?_
            refine ev_loc f_X11_deny (nx := 1) rfl rfl rfl rfl ?_
            refine ev_loc f_X11_deny (nx := 2) rfl rfl rfl rfl ?_
            refine ev_putIT f_X11_deny (nx := 5) rfl (hI.wf.s rfl) rfl rfl rfl (hI.put0 (hI.wf.s rfl) rfl rfl) (hX.upI rfl) (fun g50 e50 hI hX => ?_)
            refine ev_ic f_X11_deny (nx := 6) (v := 0) rfl (by decide) rfl ?_
            refine ev_retK1 f_X11_deny rfl rfl rfl ?_
            exact ev_ret f_X11_odds rfl rfl rfl ⟨_, _, _, rfl, hI, hX, ⟨_, rfl, (by decide : (0:Int) ≤ (0:Int32).toInt), (Int.le_trans (by decide : (0:Int32).toInt ≤ (0:Int)) (by decide : (0:Int) ≤ 1)), (show ∀ (u : Nat) (D : s_D), gr 0 6 = .ref u → t_VL gr u → t_CV gi gl u D → t_Cb D → (u = 3 ∨ 102 ≤ u) → (∀ s : Nat, (s : Int) < D 1 → 0 ≤ D (56 + 5 * s) ∧ D (56 + 5 * s) ≤ 1) → s_DB D → D 4 ≤ 20 → D 5 ≤ 20 → (((0 ≤ ar1.toInt ∧ ar1.toInt ≤ 9999 ∧ 1 ≤ ar2.toInt ∧ ar2.toInt ≤ 20 ∧ ar1.toInt + ar2.toInt ≤ 10000) ∧ gr 0 7 ≠ .null) → ∀ (u2 : Nat) (R : List (List Int × Int)), gr 0 7 = .ref u2 → 102 ≤ u2 → t_UK gi u2 R → s_gd R → (gl 0 1).toInt = (s_gds D R ar1.toInt ar2.toNatClampNeg) / s_gc ar2.toInt (s_gds D R ar1.toInt ar2.toNatClampNeg) ∧ (gl 0 2).toInt = ar2.toInt / s_gc ar2.toInt (s_gds D R ar1.toInt ar2.toNatClampNeg)) ∧ (¬ ((0 ≤ ar1.toInt ∧ ar1.toInt ≤ 9999 ∧ 1 ≤ ar2.toInt ∧ ar2.toInt ≤ 20 ∧ ar1.toInt + ar2.toInt ≤ 10000) ∧ gr 0 7 ≠ .null) → gl 0 1 = gl 0 1 ∧ gl 0 2 = gl 0 2) from (fun u D hu hl hc hb hv hsl hd h4 h5 => ⟨fun h => absurd h.1 (by omega), fun _ => ⟨rfl, rfl⟩⟩))⟩⟩
