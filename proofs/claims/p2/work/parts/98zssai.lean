/-! ===== printed by riv.py: STATUS, the class ===== -/
noncomputable def wl_f_pour : List (Nat × Nat) := [(0, 0), (62, 9999), (64, 9999), (66, 9999), (68, 9999)]
noncomputable def Q_f_pour (gi : Nat → Nat → Int32) (gl : Nat → Nat → Int64) (gr : Nat → Nat → Value) (ar1 : Int32) (ar2 : Int32) (ar3 : Int32) (ar4 : Int32) (ar5 : Int32) : Int32 → (Nat → Nat → Int32) → (Nat → Nat → Int64) → (Nat → Nat → Value) → Prop := fun (v : Int32) (gi2 : Nat → Nat → Int32) (gl2 : Nat → Nat → Int64) (gr2 : Nat → Nat → Value) => (¬ ((0 ≤ ar1.toInt ∧ ar1.toInt ≤ 3) ∧ (0 ≤ ar3.toInt ∧ ar3.toInt ≤ 3) ∧ (0 ≤ ar2.toInt ∧ 0 ≤ ar4.toInt ∧ 0 ≤ ar5.toInt)) → (gi2 0 0).toInt = 1) ∧ (∀ A B R S : Nat, gr 1 ar1.toNatClampNeg = .ref A → gr 1 ar3.toNatClampNeg = .ref B → gr A 0 = .ref R → gr B 0 = .ref S → (0 ≤ ar1.toInt ∧ ar1.toInt ≤ 3) → (0 ≤ ar3.toInt ∧ ar3.toInt ≤ 3) → (0 ≤ ar2.toInt ∧ 0 ≤ ar4.toInt ∧ 0 ≤ ar5.toInt) → ((gi A 2).toInt = -1 ∨ (gi B 2).toInt = -1 → (gi2 0 0).toInt = 2) ∧ ((gi A 2).toInt ≠ -1 → (gi B 2).toInt ≠ -1 → ((gi A 1).toInt ≠ (gi B 1).toInt → (gi2 0 0).toInt = 8) ∧ ((gi A 1).toInt = (gi B 1).toInt → ((ar2.toInt + ar5.toInt ≤ (gi A 2).toInt ∧ ar4.toInt + ar5.toInt ≤ (gi B 2).toInt) → (gi2 0 0).toInt = 0) ∧ (¬ (ar2.toInt + ar5.toInt ≤ (gi A 2).toInt ∧ ar4.toInt + ar5.toInt ≤ (gi B 2).toInt) → (gi2 0 0).toInt = 3))))
theorem c_f_pour {X : x_Ext} {d : Nat} {sh : List (Nat ⊕ (Nat × Nat))} {gi : Nat → Nat → Int32} {gl : Nat → Nat → Int64} {gr : Nat → Nat → Value} (hI : t_I sh gi gr) (ar1 : Int32) (ar2 : Int32) (ar3 : Int32) (ar4 : Int32) (ar5 : Int32) : x_Me X (d + 2) n_X11_pour [.ref 0, .int ar1, .int ar2, .int ar3, .int ar4, .int ar5] (sh, gi, gl, gr) (t_PI wl_f_pour sh gi gl gr 0 1 (Q_f_pour gi gl gr ar1 ar2 ar3 ar4 ar5)) := by
  have hX : t_X wl_f_pour sh gi gl gr gi gl gr := t_X.rf
  refine me_i f_X11_pour (hI.wf.s rfl) rfl rfl rfl ?_
  refine ev_loc f_X11_pour (nx := 1) rfl rfl rfl rfl ?_
  refine ev_loc f_X11_pour (nx := 2) rfl rfl rfl rfl ?_
  refine ev_inV2 f_X11_pour (nx := 5) (lo2 := [(0, .ref 0), (1, .int ar1)]) rfl rfl rfl rfl f_X11_isTray (hI.wf.s rfl) rfl rfl rfl rfl rfl ?_
  refine ev_loc f_X11_isTray (nx := 1) rfl rfl rfl rfl ?_
  refine ev_if f_X11_isTray (t1 := 26) (t2 := 4) rfl rfl rfl (fun h2 => ?_) (fun h2 => ?_)
  · have u3 : ar1.toInt ≤ (-1) := t_ltu h2 (by decide : (0:Int32).toInt ≤ (0:Int)) rfl
    refine ev_ic f_X11_isTray (nx := 27) (v := 0) rfl (by decide) rfl ?_
    refine ev_retK1 f_X11_isTray rfl rfl rfl ?_
    refine ev_t f_X11_pour (t1 := 30) (t2 := 8) rfl rfl rfl (by decide) ?_
    refine ev_loc f_X11_pour (nx := 31) rfl rfl rfl rfl ?_
    refine ev_ic f_X11_pour (nx := 32) (v := 1) rfl (by decide) rfl ?_
    refine ev_inV2 f_X11_pour (nx := 35) (lo2 := [(0, .ref 0), (1, .int 1)]) rfl rfl rfl rfl f_X11_deny (hI.wf.s rfl) rfl rfl rfl rfl rfl ?_
    refine ev_loc f_X11_deny (nx := 1) rfl rfl rfl rfl ?_
    refine ev_loc f_X11_deny (nx := 2) rfl rfl rfl rfl ?_
    refine ev_putIT f_X11_deny (nx := 5) rfl (hI.wf.s rfl) rfl rfl rfl (hI.put0 (hI.wf.s rfl) rfl rfl) (hX.upI rfl) (fun g4 e4 hI hX => ?_)
    refine ev_ic f_X11_deny (nx := 6) (v := 0) rfl (by decide) rfl ?_
    refine ev_retK1 f_X11_deny rfl rfl rfl ?_
    exact ev_ret f_X11_pour rfl rfl rfl ⟨_, _, _, rfl, hI, hX, ⟨_, rfl, (by decide : (0:Int) ≤ (0:Int32).toInt), (Int.le_trans (by decide : (0:Int32).toInt ≤ (0:Int)) (by decide : (0:Int) ≤ 1)), (show (¬ ((0 ≤ ar1.toInt ∧ ar1.toInt ≤ 3) ∧ (0 ≤ ar3.toInt ∧ ar3.toInt ≤ 3) ∧ (0 ≤ ar2.toInt ∧ 0 ≤ ar4.toInt ∧ 0 ≤ ar5.toInt)) → (g4 0 0).toInt = 1) ∧ (∀ A B R S : Nat, gr 1 ar1.toNatClampNeg = .ref A → gr 1 ar3.toNatClampNeg = .ref B → gr A 0 = .ref R → gr B 0 = .ref S → (0 ≤ ar1.toInt ∧ ar1.toInt ≤ 3) → (0 ≤ ar3.toInt ∧ ar3.toInt ≤ 3) → (0 ≤ ar2.toInt ∧ 0 ≤ ar4.toInt ∧ 0 ≤ ar5.toInt) → ((gi A 2).toInt = -1 ∨ (gi B 2).toInt = -1 → (g4 0 0).toInt = 2) ∧ ((gi A 2).toInt ≠ -1 → (gi B 2).toInt ≠ -1 → ((gi A 1).toInt ≠ (gi B 1).toInt → (g4 0 0).toInt = 8) ∧ ((gi A 1).toInt = (gi B 1).toInt → ((ar2.toInt + ar5.toInt ≤ (gi A 2).toInt ∧ ar4.toInt + ar5.toInt ≤ (gi B 2).toInt) → (g4 0 0).toInt = 0) ∧ (¬ (ar2.toInt + ar5.toInt ≤ (gi A 2).toInt ∧ ar4.toInt + ar5.toInt ≤ (gi B 2).toInt) → (g4 0 0).toInt = 3)))) from (by have ffs : (g4 0 0).toInt = 1 := (congrArg Int32.toInt (by rw [e4]; exact x_up2_at _ _ _ _ : g4 0 0 = 1)).trans (by decide); refine ⟨fun h3 => by omega, fun A B R S hA hB hR hS hi1 hi3 hp => ?_⟩; refine ⟨fun h4 => ?_, fun h4 h5 => ⟨fun h6 => ?_, fun h6 => ⟨fun h7 => ?_, fun h7 => ?_⟩⟩⟩ <;> omega))⟩⟩
  · have l5 : 0 ≤ ar1.toInt := t_lel (t_nlt h2) (by decide : (0:Int) ≤ (0:Int32).toInt)
    refine ev_loc f_X11_isTray (nx := 5) rfl rfl rfl rfl ?_
    refine ev_loc f_X11_isTray (nx := 6) rfl rfl rfl rfl ?_
    refine ev_getR f_X11_isTray (nx := 9) rfl (hI.wf.s rfl) rfl rfl (hI.wf.r rfl) rfl rfl ?_
    refine ev_alenv f_X11_isTray (nx := 10) (w := 4) rfl (hI.wf.s rfl) rfl (by decide) rfl ?_
    refine ev_if f_X11_isTray (t1 := 26) (t2 := 13) rfl rfl rfl (fun h6 => ?_) (fun h6 => ?_)
    · have l7 : 4 ≤ ar1.toInt := t_lel h6 (by decide : (4:Int) ≤ (4:Int32).toInt)
      refine ev_ic f_X11_isTray (nx := 27) (v := 0) rfl (by decide) rfl ?_
      refine ev_retK1 f_X11_isTray rfl rfl rfl ?_
      refine ev_t f_X11_pour (t1 := 30) (t2 := 8) rfl rfl rfl (by decide) ?_
      refine ev_loc f_X11_pour (nx := 31) rfl rfl rfl rfl ?_
      refine ev_ic f_X11_pour (nx := 32) (v := 1) rfl (by decide) rfl ?_
      refine ev_inV2 f_X11_pour (nx := 35) (lo2 := [(0, .ref 0), (1, .int 1)]) rfl rfl rfl rfl f_X11_deny (hI.wf.s rfl) rfl rfl rfl rfl rfl ?_
      refine ev_loc f_X11_deny (nx := 1) rfl rfl rfl rfl ?_
      refine ev_loc f_X11_deny (nx := 2) rfl rfl rfl rfl ?_
      refine ev_putIT f_X11_deny (nx := 5) rfl (hI.wf.s rfl) rfl rfl rfl (hI.put0 (hI.wf.s rfl) rfl rfl) (hX.upI rfl) (fun g8 e8 hI hX => ?_)
      refine ev_ic f_X11_deny (nx := 6) (v := 0) rfl (by decide) rfl ?_
      refine ev_retK1 f_X11_deny rfl rfl rfl ?_
      exact ev_ret f_X11_pour rfl rfl rfl ⟨_, _, _, rfl, hI, hX, ⟨_, rfl, (by decide : (0:Int) ≤ (0:Int32).toInt), (Int.le_trans (by decide : (0:Int32).toInt ≤ (0:Int)) (by decide : (0:Int) ≤ 1)), (show (¬ ((0 ≤ ar1.toInt ∧ ar1.toInt ≤ 3) ∧ (0 ≤ ar3.toInt ∧ ar3.toInt ≤ 3) ∧ (0 ≤ ar2.toInt ∧ 0 ≤ ar4.toInt ∧ 0 ≤ ar5.toInt)) → (g8 0 0).toInt = 1) ∧ (∀ A B R S : Nat, gr 1 ar1.toNatClampNeg = .ref A → gr 1 ar3.toNatClampNeg = .ref B → gr A 0 = .ref R → gr B 0 = .ref S → (0 ≤ ar1.toInt ∧ ar1.toInt ≤ 3) → (0 ≤ ar3.toInt ∧ ar3.toInt ≤ 3) → (0 ≤ ar2.toInt ∧ 0 ≤ ar4.toInt ∧ 0 ≤ ar5.toInt) → ((gi A 2).toInt = -1 ∨ (gi B 2).toInt = -1 → (g8 0 0).toInt = 2) ∧ ((gi A 2).toInt ≠ -1 → (gi B 2).toInt ≠ -1 → ((gi A 1).toInt ≠ (gi B 1).toInt → (g8 0 0).toInt = 8) ∧ ((gi A 1).toInt = (gi B 1).toInt → ((ar2.toInt + ar5.toInt ≤ (gi A 2).toInt ∧ ar4.toInt + ar5.toInt ≤ (gi B 2).toInt) → (g8 0 0).toInt = 0) ∧ (¬ (ar2.toInt + ar5.toInt ≤ (gi A 2).toInt ∧ ar4.toInt + ar5.toInt ≤ (gi B 2).toInt) → (g8 0 0).toInt = 3)))) from (by have ffs : (g8 0 0).toInt = 1 := (congrArg Int32.toInt (by rw [e8]; exact x_up2_at _ _ _ _ : g8 0 0 = 1)).trans (by decide); refine ⟨fun h3 => by omega, fun A B R S hA hB hR hS hi1 hi3 hp => ?_⟩; refine ⟨fun h4 => ?_, fun h4 h5 => ⟨fun h6 => ?_, fun h6 => ⟨fun h7 => ?_, fun h7 => ?_⟩⟩⟩ <;> omega))⟩⟩
    · have u9 : ar1.toInt ≤ 3 := t_ltu (t_nle h6) (by decide : (4:Int32).toInt ≤ (4:Int)) rfl
      refine ev_loc f_X11_isTray (nx := 14) rfl rfl rfl rfl ?_
      refine ev_getR f_X11_isTray (nx := 17) rfl (hI.wf.s rfl) rfl rfl (hI.wf.r rfl) rfl rfl ?_
      refine ev_loc f_X11_isTray (nx := 18) rfl rfl rfl rfl ?_
      obtain ⟨a10, e10, p10⟩ := t_tray hI.wf l5 (by decide) u9 (by decide)
      refine ev_aald f_X11_isTray (nx := 19) rfl (hI.wf.s rfl) rfl (t_idx (n := 4) l5 (by decide) u9 (by decide)).1 (t_idx (n := 4) l5 (by decide) u9 (by decide)).2 e10 rfl rfl ?_
      refine ev_jmp f_X11_isTray (nx := 22) rfl rfl rfl ?_
      refine ev_ic f_X11_isTray (nx := 23) (v := 1) rfl (by decide) rfl ?_
      refine ev_jmp f_X11_isTray (nx := 27) rfl rfl rfl ?_
      refine ev_retK1 f_X11_isTray rfl rfl rfl ?_
      refine ev_f f_X11_pour (t1 := 30) (t2 := 8) rfl rfl rfl (by decide) ?_
      refine ev_loc f_X11_pour (nx := 9) rfl rfl rfl rfl ?_
      refine ev_loc f_X11_pour (nx := 10) rfl rfl rfl rfl ?_
      refine ev_inV2 f_X11_pour (nx := 13) (lo2 := [(0, .ref 0), (1, .int ar3)]) rfl rfl rfl rfl f_X11_isTray (hI.wf.s rfl) rfl rfl rfl rfl rfl ?_
      refine ev_loc f_X11_isTray (nx := 1) rfl rfl rfl rfl ?_
      refine ev_if f_X11_isTray (t1 := 26) (t2 := 4) rfl rfl rfl (fun h11 => ?_) (fun h11 => ?_)
      · have u12 : ar3.toInt ≤ (-1) := t_ltu h11 (by decide : (0:Int32).toInt ≤ (0:Int)) rfl
        refine ev_ic f_X11_isTray (nx := 27) (v := 0) rfl (by decide) rfl ?_
        refine ev_retK1 f_X11_isTray rfl rfl rfl ?_
        refine ev_t f_X11_pour (t1 := 30) (t2 := 16) rfl rfl rfl (by decide) ?_
        refine ev_loc f_X11_pour (nx := 31) rfl rfl rfl rfl ?_
        refine ev_ic f_X11_pour (nx := 32) (v := 1) rfl (by decide) rfl ?_
        refine ev_inV2 f_X11_pour (nx := 35) (lo2 := [(0, .ref 0), (1, .int 1)]) rfl rfl rfl rfl f_X11_deny (hI.wf.s rfl) rfl rfl rfl rfl rfl ?_
        refine ev_loc f_X11_deny (nx := 1) rfl rfl rfl rfl ?_
        refine ev_loc f_X11_deny (nx := 2) rfl rfl rfl rfl ?_
        refine ev_putIT f_X11_deny (nx := 5) rfl (hI.wf.s rfl) rfl rfl rfl (hI.put0 (hI.wf.s rfl) rfl rfl) (hX.upI rfl) (fun g13 e13 hI hX => ?_)
        refine ev_ic f_X11_deny (nx := 6) (v := 0) rfl (by decide) rfl ?_
        refine ev_retK1 f_X11_deny rfl rfl rfl ?_
        exact ev_ret f_X11_pour rfl rfl rfl ⟨_, _, _, rfl, hI, hX, ⟨_, rfl, (by decide : (0:Int) ≤ (0:Int32).toInt), (Int.le_trans (by decide : (0:Int32).toInt ≤ (0:Int)) (by decide : (0:Int) ≤ 1)), (show (¬ ((0 ≤ ar1.toInt ∧ ar1.toInt ≤ 3) ∧ (0 ≤ ar3.toInt ∧ ar3.toInt ≤ 3) ∧ (0 ≤ ar2.toInt ∧ 0 ≤ ar4.toInt ∧ 0 ≤ ar5.toInt)) → (g13 0 0).toInt = 1) ∧ (∀ A B R S : Nat, gr 1 ar1.toNatClampNeg = .ref A → gr 1 ar3.toNatClampNeg = .ref B → gr A 0 = .ref R → gr B 0 = .ref S → (0 ≤ ar1.toInt ∧ ar1.toInt ≤ 3) → (0 ≤ ar3.toInt ∧ ar3.toInt ≤ 3) → (0 ≤ ar2.toInt ∧ 0 ≤ ar4.toInt ∧ 0 ≤ ar5.toInt) → ((gi A 2).toInt = -1 ∨ (gi B 2).toInt = -1 → (g13 0 0).toInt = 2) ∧ ((gi A 2).toInt ≠ -1 → (gi B 2).toInt ≠ -1 → ((gi A 1).toInt ≠ (gi B 1).toInt → (g13 0 0).toInt = 8) ∧ ((gi A 1).toInt = (gi B 1).toInt → ((ar2.toInt + ar5.toInt ≤ (gi A 2).toInt ∧ ar4.toInt + ar5.toInt ≤ (gi B 2).toInt) → (g13 0 0).toInt = 0) ∧ (¬ (ar2.toInt + ar5.toInt ≤ (gi A 2).toInt ∧ ar4.toInt + ar5.toInt ≤ (gi B 2).toInt) → (g13 0 0).toInt = 3)))) from (by have ffs : (g13 0 0).toInt = 1 := (congrArg Int32.toInt (by rw [e13]; exact x_up2_at _ _ _ _ : g13 0 0 = 1)).trans (by decide); refine ⟨fun h3 => by omega, fun A B R S hA hB hR hS hi1 hi3 hp => ?_⟩; rw [e10] at hA; cases hA; refine ⟨fun h4 => ?_, fun h4 h5 => ⟨fun h6 => ?_, fun h6 => ⟨fun h7 => ?_, fun h7 => ?_⟩⟩⟩ <;> omega))⟩⟩
      · have l14 : 0 ≤ ar3.toInt := t_lel (t_nlt h11) (by decide : (0:Int) ≤ (0:Int32).toInt)
        refine ev_loc f_X11_isTray (nx := 5) rfl rfl rfl rfl ?_
        refine ev_loc f_X11_isTray (nx := 6) rfl rfl rfl rfl ?_
        refine ev_getR f_X11_isTray (nx := 9) rfl (hI.wf.s rfl) rfl rfl (hI.wf.r rfl) rfl rfl ?_
        refine ev_alenv f_X11_isTray (nx := 10) (w := 4) rfl (hI.wf.s rfl) rfl (by decide) rfl ?_
        refine ev_if f_X11_isTray (t1 := 26) (t2 := 13) rfl rfl rfl (fun h15 => ?_) (fun h15 => ?_)
        · have l16 : 4 ≤ ar3.toInt := t_lel h15 (by decide : (4:Int) ≤ (4:Int32).toInt)
          refine ev_ic f_X11_isTray (nx := 27) (v := 0) rfl (by decide) rfl ?_
          refine ev_retK1 f_X11_isTray rfl rfl rfl ?_
          refine ev_t f_X11_pour (t1 := 30) (t2 := 16) rfl rfl rfl (by decide) ?_
          refine ev_loc f_X11_pour (nx := 31) rfl rfl rfl rfl ?_
          refine ev_ic f_X11_pour (nx := 32) (v := 1) rfl (by decide) rfl ?_
          refine ev_inV2 f_X11_pour (nx := 35) (lo2 := [(0, .ref 0), (1, .int 1)]) rfl rfl rfl rfl f_X11_deny (hI.wf.s rfl) rfl rfl rfl rfl rfl ?_
          refine ev_loc f_X11_deny (nx := 1) rfl rfl rfl rfl ?_
          refine ev_loc f_X11_deny (nx := 2) rfl rfl rfl rfl ?_
          refine ev_putIT f_X11_deny (nx := 5) rfl (hI.wf.s rfl) rfl rfl rfl (hI.put0 (hI.wf.s rfl) rfl rfl) (hX.upI rfl) (fun g17 e17 hI hX => ?_)
          refine ev_ic f_X11_deny (nx := 6) (v := 0) rfl (by decide) rfl ?_
          refine ev_retK1 f_X11_deny rfl rfl rfl ?_
          exact ev_ret f_X11_pour rfl rfl rfl ⟨_, _, _, rfl, hI, hX, ⟨_, rfl, (by decide : (0:Int) ≤ (0:Int32).toInt), (Int.le_trans (by decide : (0:Int32).toInt ≤ (0:Int)) (by decide : (0:Int) ≤ 1)), (show (¬ ((0 ≤ ar1.toInt ∧ ar1.toInt ≤ 3) ∧ (0 ≤ ar3.toInt ∧ ar3.toInt ≤ 3) ∧ (0 ≤ ar2.toInt ∧ 0 ≤ ar4.toInt ∧ 0 ≤ ar5.toInt)) → (g17 0 0).toInt = 1) ∧ (∀ A B R S : Nat, gr 1 ar1.toNatClampNeg = .ref A → gr 1 ar3.toNatClampNeg = .ref B → gr A 0 = .ref R → gr B 0 = .ref S → (0 ≤ ar1.toInt ∧ ar1.toInt ≤ 3) → (0 ≤ ar3.toInt ∧ ar3.toInt ≤ 3) → (0 ≤ ar2.toInt ∧ 0 ≤ ar4.toInt ∧ 0 ≤ ar5.toInt) → ((gi A 2).toInt = -1 ∨ (gi B 2).toInt = -1 → (g17 0 0).toInt = 2) ∧ ((gi A 2).toInt ≠ -1 → (gi B 2).toInt ≠ -1 → ((gi A 1).toInt ≠ (gi B 1).toInt → (g17 0 0).toInt = 8) ∧ ((gi A 1).toInt = (gi B 1).toInt → ((ar2.toInt + ar5.toInt ≤ (gi A 2).toInt ∧ ar4.toInt + ar5.toInt ≤ (gi B 2).toInt) → (g17 0 0).toInt = 0) ∧ (¬ (ar2.toInt + ar5.toInt ≤ (gi A 2).toInt ∧ ar4.toInt + ar5.toInt ≤ (gi B 2).toInt) → (g17 0 0).toInt = 3)))) from (by have ffs : (g17 0 0).toInt = 1 := (congrArg Int32.toInt (by rw [e17]; exact x_up2_at _ _ _ _ : g17 0 0 = 1)).trans (by decide); refine ⟨fun h3 => by omega, fun A B R S hA hB hR hS hi1 hi3 hp => ?_⟩; rw [e10] at hA; cases hA; refine ⟨fun h4 => ?_, fun h4 h5 => ⟨fun h6 => ?_, fun h6 => ⟨fun h7 => ?_, fun h7 => ?_⟩⟩⟩ <;> omega))⟩⟩
        · have u18 : ar3.toInt ≤ 3 := t_ltu (t_nle h15) (by decide : (4:Int32).toInt ≤ (4:Int)) rfl
          refine ev_loc f_X11_isTray (nx := 14) rfl rfl rfl rfl ?_
          refine ev_getR f_X11_isTray (nx := 17) rfl (hI.wf.s rfl) rfl rfl (hI.wf.r rfl) rfl rfl ?_
          refine ev_loc f_X11_isTray (nx := 18) rfl rfl rfl rfl ?_
          obtain ⟨a19, e19, p19⟩ := t_tray hI.wf l14 (by decide) u18 (by decide)
          refine ev_aald f_X11_isTray (nx := 19) rfl (hI.wf.s rfl) rfl (t_idx (n := 4) l14 (by decide) u18 (by decide)).1 (t_idx (n := 4) l14 (by decide) u18 (by decide)).2 e19 rfl rfl ?_
          refine ev_jmp f_X11_isTray (nx := 22) rfl rfl rfl ?_
          refine ev_ic f_X11_isTray (nx := 23) (v := 1) rfl (by decide) rfl ?_
          refine ev_jmp f_X11_isTray (nx := 27) rfl rfl rfl ?_
          refine ev_retK1 f_X11_isTray rfl rfl rfl ?_
          refine ev_f f_X11_pour (t1 := 30) (t2 := 16) rfl rfl rfl (by decide) ?_
          refine ev_loc f_X11_pour (nx := 17) rfl rfl rfl rfl ?_
          refine ev_if f_X11_pour (t1 := 30) (t2 := 20) rfl rfl rfl (fun h20 => ?_) (fun h20 => ?_)
          · have u21 : ar2.toInt ≤ (-1) := t_ltu h20 (by decide : (0:Int32).toInt ≤ (0:Int)) rfl
            refine ev_loc f_X11_pour (nx := 31) rfl rfl rfl rfl ?_
            refine ev_ic f_X11_pour (nx := 32) (v := 1) rfl (by decide) rfl ?_
            refine ev_inV2 f_X11_pour (nx := 35) (lo2 := [(0, .ref 0), (1, .int 1)]) rfl rfl rfl rfl f_X11_deny (hI.wf.s rfl) rfl rfl rfl rfl rfl ?_
            refine ev_loc f_X11_deny (nx := 1) rfl rfl rfl rfl ?_
            refine ev_loc f_X11_deny (nx := 2) rfl rfl rfl rfl ?_
            refine ev_putIT f_X11_deny (nx := 5) rfl (hI.wf.s rfl) rfl rfl rfl (hI.put0 (hI.wf.s rfl) rfl rfl) (hX.upI rfl) (fun g22 e22 hI hX => ?_)
            refine ev_ic f_X11_deny (nx := 6) (v := 0) rfl (by decide) rfl ?_
            refine ev_retK1 f_X11_deny rfl rfl rfl ?_
            exact ev_ret f_X11_pour rfl rfl rfl ⟨_, _, _, rfl, hI, hX, ⟨_, rfl, (by decide : (0:Int) ≤ (0:Int32).toInt), (Int.le_trans (by decide : (0:Int32).toInt ≤ (0:Int)) (by decide : (0:Int) ≤ 1)), (show (¬ ((0 ≤ ar1.toInt ∧ ar1.toInt ≤ 3) ∧ (0 ≤ ar3.toInt ∧ ar3.toInt ≤ 3) ∧ (0 ≤ ar2.toInt ∧ 0 ≤ ar4.toInt ∧ 0 ≤ ar5.toInt)) → (g22 0 0).toInt = 1) ∧ (∀ A B R S : Nat, gr 1 ar1.toNatClampNeg = .ref A → gr 1 ar3.toNatClampNeg = .ref B → gr A 0 = .ref R → gr B 0 = .ref S → (0 ≤ ar1.toInt ∧ ar1.toInt ≤ 3) → (0 ≤ ar3.toInt ∧ ar3.toInt ≤ 3) → (0 ≤ ar2.toInt ∧ 0 ≤ ar4.toInt ∧ 0 ≤ ar5.toInt) → ((gi A 2).toInt = -1 ∨ (gi B 2).toInt = -1 → (g22 0 0).toInt = 2) ∧ ((gi A 2).toInt ≠ -1 → (gi B 2).toInt ≠ -1 → ((gi A 1).toInt ≠ (gi B 1).toInt → (g22 0 0).toInt = 8) ∧ ((gi A 1).toInt = (gi B 1).toInt → ((ar2.toInt + ar5.toInt ≤ (gi A 2).toInt ∧ ar4.toInt + ar5.toInt ≤ (gi B 2).toInt) → (g22 0 0).toInt = 0) ∧ (¬ (ar2.toInt + ar5.toInt ≤ (gi A 2).toInt ∧ ar4.toInt + ar5.toInt ≤ (gi B 2).toInt) → (g22 0 0).toInt = 3)))) from (by have ffs : (g22 0 0).toInt = 1 := (congrArg Int32.toInt (by rw [e22]; exact x_up2_at _ _ _ _ : g22 0 0 = 1)).trans (by decide); refine ⟨fun h3 => by omega, fun A B R S hA hB hR hS hi1 hi3 hp => ?_⟩; rw [e10] at hA; cases hA; rw [e19] at hB; cases hB; refine ⟨fun h4 => ?_, fun h4 h5 => ⟨fun h6 => ?_, fun h6 => ⟨fun h7 => ?_, fun h7 => ?_⟩⟩⟩ <;> omega))⟩⟩
          · have l23 : 0 ≤ ar2.toInt := t_lel (t_nlt h20) (by decide : (0:Int) ≤ (0:Int32).toInt)
            refine ev_loc f_X11_pour (nx := 22) rfl rfl rfl rfl ?_
            refine ev_if f_X11_pour (t1 := 30) (t2 := 25) rfl rfl rfl (fun h24 => ?_) (fun h24 => ?_)
            · have u25 : ar4.toInt ≤ (-1) := t_ltu h24 (by decide : (0:Int32).toInt ≤ (0:Int)) rfl
              refine ev_loc f_X11_pour (nx := 31) rfl rfl rfl rfl ?_
              refine ev_ic f_X11_pour (nx := 32) (v := 1) rfl (by decide) rfl ?_
              refine ev_inV2 f_X11_pour (nx := 35) (lo2 := [(0, .ref 0), (1, .int 1)]) rfl rfl rfl rfl f_X11_deny (hI.wf.s rfl) rfl rfl rfl rfl rfl ?_
              refine ev_loc f_X11_deny (nx := 1) rfl rfl rfl rfl ?_
              refine ev_loc f_X11_deny (nx := 2) rfl rfl rfl rfl ?_
              refine ev_putIT f_X11_deny (nx := 5) rfl (hI.wf.s rfl) rfl rfl rfl (hI.put0 (hI.wf.s rfl) rfl rfl) (hX.upI rfl) (fun g26 e26 hI hX => ?_)
              refine ev_ic f_X11_deny (nx := 6) (v := 0) rfl (by decide) rfl ?_
              refine ev_retK1 f_X11_deny rfl rfl rfl ?_
              exact ev_ret f_X11_pour rfl rfl rfl ⟨_, _, _, rfl, hI, hX, ⟨_, rfl, (by decide : (0:Int) ≤ (0:Int32).toInt), (Int.le_trans (by decide : (0:Int32).toInt ≤ (0:Int)) (by decide : (0:Int) ≤ 1)), (show (¬ ((0 ≤ ar1.toInt ∧ ar1.toInt ≤ 3) ∧ (0 ≤ ar3.toInt ∧ ar3.toInt ≤ 3) ∧ (0 ≤ ar2.toInt ∧ 0 ≤ ar4.toInt ∧ 0 ≤ ar5.toInt)) → (g26 0 0).toInt = 1) ∧ (∀ A B R S : Nat, gr 1 ar1.toNatClampNeg = .ref A → gr 1 ar3.toNatClampNeg = .ref B → gr A 0 = .ref R → gr B 0 = .ref S → (0 ≤ ar1.toInt ∧ ar1.toInt ≤ 3) → (0 ≤ ar3.toInt ∧ ar3.toInt ≤ 3) → (0 ≤ ar2.toInt ∧ 0 ≤ ar4.toInt ∧ 0 ≤ ar5.toInt) → ((gi A 2).toInt = -1 ∨ (gi B 2).toInt = -1 → (g26 0 0).toInt = 2) ∧ ((gi A 2).toInt ≠ -1 → (gi B 2).toInt ≠ -1 → ((gi A 1).toInt ≠ (gi B 1).toInt → (g26 0 0).toInt = 8) ∧ ((gi A 1).toInt = (gi B 1).toInt → ((ar2.toInt + ar5.toInt ≤ (gi A 2).toInt ∧ ar4.toInt + ar5.toInt ≤ (gi B 2).toInt) → (g26 0 0).toInt = 0) ∧ (¬ (ar2.toInt + ar5.toInt ≤ (gi A 2).toInt ∧ ar4.toInt + ar5.toInt ≤ (gi B 2).toInt) → (g26 0 0).toInt = 3)))) from (by have ffs : (g26 0 0).toInt = 1 := (congrArg Int32.toInt (by rw [e26]; exact x_up2_at _ _ _ _ : g26 0 0 = 1)).trans (by decide); refine ⟨fun h3 => by omega, fun A B R S hA hB hR hS hi1 hi3 hp => ?_⟩; rw [e10] at hA; cases hA; rw [e19] at hB; cases hB; refine ⟨fun h4 => ?_, fun h4 h5 => ⟨fun h6 => ?_, fun h6 => ⟨fun h7 => ?_, fun h7 => ?_⟩⟩⟩ <;> omega))⟩⟩
            · have l27 : 0 ≤ ar4.toInt := t_lel (t_nlt h24) (by decide : (0:Int) ≤ (0:Int32).toInt)
              refine ev_loc f_X11_pour (nx := 27) rfl rfl rfl rfl ?_
              refine ev_if f_X11_pour (t1 := 36) (t2 := 30) rfl rfl rfl (fun h28 => ?_) (fun h28 => ?_)
              · have l29 : 0 ≤ ar5.toInt := t_lel h28 (by decide : (0:Int) ≤ (0:Int32).toInt)
                refine ev_loc f_X11_pour (nx := 37) rfl rfl rfl rfl ?_
                refine ev_getR f_X11_pour (nx := 40) rfl (hI.wf.s rfl) rfl rfl (hI.wf.r rfl) rfl rfl ?_
                refine ev_loc f_X11_pour (nx := 41) rfl rfl rfl rfl ?_
                obtain ⟨a30, e30, p30⟩ := t_tray hI.wf l5 (by decide) u9 (by decide)
                refine ev_aald f_X11_pour (nx := 42) rfl (hI.wf.s rfl) rfl (t_idx (n := 4) l5 (by decide) u9 (by decide)).1 (t_idx (n := 4) l5 (by decide) u9 (by decide)).2 e30 rfl rfl ?_
                refine ev_loc f_X11_pour (nx := 44) (lo' := [(6, .ref a30), (0, .ref 0), (1, .int ar1), (2, .int ar2), (3, .int ar3), (4, .int ar4), (5, .int ar5)]) rfl rfl rfl rfl ?_
                refine ev_loc f_X11_pour (nx := 45) rfl rfl rfl rfl ?_
                refine ev_getR f_X11_pour (nx := 48) rfl (hI.wf.s rfl) rfl rfl (hI.wf.r rfl) rfl rfl ?_
                refine ev_loc f_X11_pour (nx := 49) rfl rfl rfl rfl ?_
                obtain ⟨a31, e31, p31⟩ := t_tray hI.wf l14 (by decide) u18 (by decide)
                refine ev_aald f_X11_pour (nx := 50) rfl (hI.wf.s rfl) rfl (t_idx (n := 4) l14 (by decide) u18 (by decide)).1 (t_idx (n := 4) l14 (by decide) u18 (by decide)).2 e31 rfl rfl ?_
                refine ev_loc f_X11_pour (nx := 52) (lo' := [(7, .ref a31), (6, .ref a30), (0, .ref 0), (1, .int ar1), (2, .int ar2), (3, .int ar3), (4, .int ar4), (5, .int ar5)]) rfl rfl rfl rfl ?_
                refine ev_loc f_X11_pour (nx := 54) rfl rfl rfl rfl ?_
                refine ev_inV1 f_X11_pour (nx := 57) (lo2 := [(0, .ref a30)]) rfl rfl rfl rfl f_X10_isMissing p30.1 rfl rfl rfl rfl rfl ?_
                refine ev_loc f_X10_isMissing (nx := 1) rfl rfl rfl rfl ?_
                refine ev_getI f_X10_isMissing (nx := 4) rfl p30.1 rfl rfl rfl ?_
                obtain ⟨l32, u32⟩ := hI.b p30.1 (t_bdK rfl : t_bd 9 2 = some ((-1), 60))
                refine ev_ic f_X10_isMissing (nx := 5) (v := -1) rfl (by decide) rfl ?_
                refine ev_if f_X10_isMissing (t1 := 8) (t2 := 12) rfl rfl rfl (fun h33 => ?_) (fun h33 => ?_)
                · have u34 : (gi a30 2).toInt ≤ (-1) := t_equ h33 (by decide : ((-1):Int32).toInt ≤ ((-1):Int))
                  refine ev_ic f_X10_isMissing (nx := 9) (v := 1) rfl (by decide) rfl ?_
                  refine ev_jmp f_X10_isMissing (nx := 13) rfl rfl rfl ?_
                  refine ev_retK1 f_X10_isMissing rfl rfl rfl ?_
                  refine ev_f f_X11_pour (t1 := 60) (t2 := 68) rfl rfl rfl (by decide) ?_
                  refine ev_loc f_X11_pour (nx := 69) rfl rfl rfl rfl ?_
                  refine ev_ic f_X11_pour (nx := 70) (v := 2) rfl (by decide) rfl ?_
                  refine ev_inV2 f_X11_pour (nx := 73) (lo2 := [(0, .ref 0), (1, .int 2)]) rfl rfl rfl rfl f_X11_deny (hI.wf.s rfl) rfl rfl rfl rfl rfl ?_
                  refine ev_loc f_X11_deny (nx := 1) rfl rfl rfl rfl ?_
                  refine ev_loc f_X11_deny (nx := 2) rfl rfl rfl rfl ?_
                  refine ev_putIT f_X11_deny (nx := 5) rfl (hI.wf.s rfl) rfl rfl rfl (hI.put0 (hI.wf.s rfl) rfl rfl) (hX.upI rfl) (fun g35 e35 hI hX => ?_)
                  refine ev_ic f_X11_deny (nx := 6) (v := 0) rfl (by decide) rfl ?_
                  refine ev_retK1 f_X11_deny rfl rfl rfl ?_
                  exact ev_ret f_X11_pour rfl rfl rfl ⟨_, _, _, rfl, hI, hX, ⟨_, rfl, (by decide : (0:Int) ≤ (0:Int32).toInt), (Int.le_trans (by decide : (0:Int32).toInt ≤ (0:Int)) (by decide : (0:Int) ≤ 1)), (show (¬ ((0 ≤ ar1.toInt ∧ ar1.toInt ≤ 3) ∧ (0 ≤ ar3.toInt ∧ ar3.toInt ≤ 3) ∧ (0 ≤ ar2.toInt ∧ 0 ≤ ar4.toInt ∧ 0 ≤ ar5.toInt)) → (g35 0 0).toInt = 1) ∧ (∀ A B R S : Nat, gr 1 ar1.toNatClampNeg = .ref A → gr 1 ar3.toNatClampNeg = .ref B → gr A 0 = .ref R → gr B 0 = .ref S → (0 ≤ ar1.toInt ∧ ar1.toInt ≤ 3) → (0 ≤ ar3.toInt ∧ ar3.toInt ≤ 3) → (0 ≤ ar2.toInt ∧ 0 ≤ ar4.toInt ∧ 0 ≤ ar5.toInt) → ((gi A 2).toInt = -1 ∨ (gi B 2).toInt = -1 → (g35 0 0).toInt = 2) ∧ ((gi A 2).toInt ≠ -1 → (gi B 2).toInt ≠ -1 → ((gi A 1).toInt ≠ (gi B 1).toInt → (g35 0 0).toInt = 8) ∧ ((gi A 1).toInt = (gi B 1).toInt → ((ar2.toInt + ar5.toInt ≤ (gi A 2).toInt ∧ ar4.toInt + ar5.toInt ≤ (gi B 2).toInt) → (g35 0 0).toInt = 0) ∧ (¬ (ar2.toInt + ar5.toInt ≤ (gi A 2).toInt ∧ ar4.toInt + ar5.toInt ≤ (gi B 2).toInt) → (g35 0 0).toInt = 3)))) from (by have ffs : (g35 0 0).toInt = 2 := (congrArg Int32.toInt (by rw [e35]; exact x_up2_at _ _ _ _ : g35 0 0 = 2)).trans (by decide); refine ⟨fun h3 => by omega, fun A B R S hA hB hR hS hi1 hi3 hp => ?_⟩; rw [e30] at hA; cases hA; have hh := e10.symm.trans e30; cases hh; rw [e31] at hB; cases hB; have hh := e19.symm.trans e31; cases hh; refine ⟨fun h4 => ?_, fun h4 h5 => ⟨fun h6 => ?_, fun h6 => ⟨fun h7 => ?_, fun h7 => ?_⟩⟩⟩ <;> omega))⟩⟩
                · have r36 : (gi a30 2).toInt ≠ (-1) := fun e => h33 (Int32.toInt_inj.mp (e.trans (by decide : ((-1):Int) = ((-1) : Int32).toInt)))
                  have l37 : 0 ≤ (gi a30 2).toInt := t_nel h33 l32 rfl rfl
                  refine ev_ic f_X10_isMissing (nx := 13) (v := 0) rfl (by decide) rfl ?_
                  refine ev_retK1 f_X10_isMissing rfl rfl rfl ?_
                  refine ev_t f_X11_pour (t1 := 60) (t2 := 68) rfl rfl rfl (by decide) ?_
                  refine ev_loc f_X11_pour (nx := 62) rfl rfl rfl rfl ?_
                  refine ev_inV1 f_X11_pour (nx := 65) (lo2 := [(0, .ref a31)]) rfl rfl rfl rfl f_X10_isMissing p31.1 rfl rfl rfl rfl rfl ?_
                  refine ev_loc f_X10_isMissing (nx := 1) rfl rfl rfl rfl ?_
                  refine ev_getI f_X10_isMissing (nx := 4) rfl p31.1 rfl rfl rfl ?_
                  obtain ⟨l38, u38⟩ := hI.b p31.1 (t_bdK rfl : t_bd 9 2 = some ((-1), 60))
                  refine ev_ic f_X10_isMissing (nx := 5) (v := -1) rfl (by decide) rfl ?_
                  refine ev_if f_X10_isMissing (t1 := 8) (t2 := 12) rfl rfl rfl (fun h39 => ?_) (fun h39 => ?_)
                  · have u40 : (gi a31 2).toInt ≤ (-1) := t_equ h39 (by decide : ((-1):Int32).toInt ≤ ((-1):Int))
                    refine ev_ic f_X10_isMissing (nx := 9) (v := 1) rfl (by decide) rfl ?_
                    refine ev_jmp f_X10_isMissing (nx := 13) rfl rfl rfl ?_
                    refine ev_retK1 f_X10_isMissing rfl rfl rfl ?_
                    refine ev_f f_X11_pour (t1 := 74) (t2 := 68) rfl rfl rfl (by decide) ?_
                    refine ev_loc f_X11_pour (nx := 69) rfl rfl rfl rfl ?_
                    refine ev_ic f_X11_pour (nx := 70) (v := 2) rfl (by decide) rfl ?_
                    refine ev_inV2 f_X11_pour (nx := 73) (lo2 := [(0, .ref 0), (1, .int 2)]) rfl rfl rfl rfl f_X11_deny (hI.wf.s rfl) rfl rfl rfl rfl rfl ?_
                    refine ev_loc f_X11_deny (nx := 1) rfl rfl rfl rfl ?_
                    refine ev_loc f_X11_deny (nx := 2) rfl rfl rfl rfl ?_
                    refine ev_putIT f_X11_deny (nx := 5) rfl (hI.wf.s rfl) rfl rfl rfl (hI.put0 (hI.wf.s rfl) rfl rfl) (hX.upI rfl) (fun g41 e41 hI hX => ?_)
                    refine ev_ic f_X11_deny (nx := 6) (v := 0) rfl (by decide) rfl ?_
                    refine ev_retK1 f_X11_deny rfl rfl rfl ?_
                    exact ev_ret f_X11_pour rfl rfl rfl ⟨_, _, _, rfl, hI, hX, ⟨_, rfl, (by decide : (0:Int) ≤ (0:Int32).toInt), (Int.le_trans (by decide : (0:Int32).toInt ≤ (0:Int)) (by decide : (0:Int) ≤ 1)), (show (¬ ((0 ≤ ar1.toInt ∧ ar1.toInt ≤ 3) ∧ (0 ≤ ar3.toInt ∧ ar3.toInt ≤ 3) ∧ (0 ≤ ar2.toInt ∧ 0 ≤ ar4.toInt ∧ 0 ≤ ar5.toInt)) → (g41 0 0).toInt = 1) ∧ (∀ A B R S : Nat, gr 1 ar1.toNatClampNeg = .ref A → gr 1 ar3.toNatClampNeg = .ref B → gr A 0 = .ref R → gr B 0 = .ref S → (0 ≤ ar1.toInt ∧ ar1.toInt ≤ 3) → (0 ≤ ar3.toInt ∧ ar3.toInt ≤ 3) → (0 ≤ ar2.toInt ∧ 0 ≤ ar4.toInt ∧ 0 ≤ ar5.toInt) → ((gi A 2).toInt = -1 ∨ (gi B 2).toInt = -1 → (g41 0 0).toInt = 2) ∧ ((gi A 2).toInt ≠ -1 → (gi B 2).toInt ≠ -1 → ((gi A 1).toInt ≠ (gi B 1).toInt → (g41 0 0).toInt = 8) ∧ ((gi A 1).toInt = (gi B 1).toInt → ((ar2.toInt + ar5.toInt ≤ (gi A 2).toInt ∧ ar4.toInt + ar5.toInt ≤ (gi B 2).toInt) → (g41 0 0).toInt = 0) ∧ (¬ (ar2.toInt + ar5.toInt ≤ (gi A 2).toInt ∧ ar4.toInt + ar5.toInt ≤ (gi B 2).toInt) → (g41 0 0).toInt = 3)))) from (by have ffs : (g41 0 0).toInt = 2 := (congrArg Int32.toInt (by rw [e41]; exact x_up2_at _ _ _ _ : g41 0 0 = 2)).trans (by decide); refine ⟨fun h3 => by omega, fun A B R S hA hB hR hS hi1 hi3 hp => ?_⟩; rw [e30] at hA; cases hA; have hh := e10.symm.trans e30; cases hh; rw [e31] at hB; cases hB; have hh := e19.symm.trans e31; cases hh; refine ⟨fun h4 => ?_, fun h4 h5 => ⟨fun h6 => ?_, fun h6 => ⟨fun h7 => ?_, fun h7 => ?_⟩⟩⟩ <;> omega))⟩⟩
                  · have r42 : (gi a31 2).toInt ≠ (-1) := fun e => h39 (Int32.toInt_inj.mp (e.trans (by decide : ((-1):Int) = ((-1) : Int32).toInt)))
                    have l43 : 0 ≤ (gi a31 2).toInt := t_nel h39 l38 rfl rfl
                    refine ev_ic f_X10_isMissing (nx := 13) (v := 0) rfl (by decide) rfl ?_
                    refine ev_retK1 f_X10_isMissing rfl rfl rfl ?_
                    refine ev_t f_X11_pour (t1 := 74) (t2 := 68) rfl rfl rfl (by decide) ?_
                    refine ev_loc f_X11_pour (nx := 76) rfl rfl rfl rfl ?_
                    refine ev_getI f_X11_pour (nx := 79) rfl p30.1 rfl rfl rfl ?_
                    refine ev_loc f_X11_pour (nx := 81) rfl rfl rfl rfl ?_
                    refine ev_getI f_X11_pour (nx := 84) rfl p31.1 rfl rfl rfl ?_
                    refine ev_if f_X11_pour (t1 := 94) (t2 := 87) rfl rfl rfl (fun h44 => ?_) (fun h44 => ?_)
                    · have r45 : (gi a30 1).toInt = (gi a31 1).toInt := t_eqi h44
                      refine ev_loc f_X11_pour (nx := 96) rfl rfl rfl rfl ?_
                      refine ev_loc f_X11_pour (nx := 97) rfl rfl rfl rfl ?_
                      refine ev_loc f_X11_pour (nx := 99) rfl rfl rfl rfl ?_
                      refine ev_inV3 f_X11_pour (nx := 102) (lo2 := [(0, .ref a30), (1, .int ar2), (2, .int ar5)]) rfl rfl rfl rfl f_X10_hasStretch p30.1 rfl rfl rfl rfl rfl ?_
                      refine ev_loc f_X10_hasStretch (nx := 1) rfl rfl rfl rfl ?_
                      refine ev_loc f_X10_hasStretch (nx := 2) rfl rfl rfl rfl ?_
                      refine ev_gvI f_X10_hasStretch (nx := 5) (w := (gi a30 2)) rfl p30.1 rfl rfl rfl rfl ?_
                      refine ev_if f_X10_hasStretch (t1 := 22) (t2 := 8) rfl rfl rfl (fun h46 => ?_) (fun h46 => ?_)
                      · have r47 : (gi a30 2).toInt < ar2.toInt := Int32.lt_iff_toInt_lt.mp h46
                        have l48 : 1 ≤ ar2.toInt := t_ltl h46 l37 rfl
                        refine ev_ic f_X10_hasStretch (nx := 23) (v := 0) rfl (by decide) rfl ?_
                        refine ev_retK1 f_X10_hasStretch rfl rfl rfl ?_
                        refine ev_t f_X11_pour (t1 := 117) (t2 := 105) rfl rfl rfl (by decide) ?_
                        refine ev_loc f_X11_pour (nx := 118) rfl rfl rfl rfl ?_
                        refine ev_ic f_X11_pour (nx := 119) (v := 3) rfl (by decide) rfl ?_
                        refine ev_inV2 f_X11_pour (nx := 122) (lo2 := [(0, .ref 0), (1, .int 3)]) rfl rfl rfl rfl f_X11_deny (hI.wf.s rfl) rfl rfl rfl rfl rfl ?_
                        refine ev_loc f_X11_deny (nx := 1) rfl rfl rfl rfl ?_
                        refine ev_loc f_X11_deny (nx := 2) rfl rfl rfl rfl ?_
                        refine ev_putIT f_X11_deny (nx := 5) rfl (hI.wf.s rfl) rfl rfl rfl (hI.put0 (hI.wf.s rfl) rfl rfl) (hX.upI rfl) (fun g49 e49 hI hX => ?_)
                        refine ev_ic f_X11_deny (nx := 6) (v := 0) rfl (by decide) rfl ?_
                        refine ev_retK1 f_X11_deny rfl rfl rfl ?_
                        exact ev_ret f_X11_pour rfl rfl rfl ⟨_, _, _, rfl, hI, hX, ⟨_, rfl, (by decide : (0:Int) ≤ (0:Int32).toInt), (Int.le_trans (by decide : (0:Int32).toInt ≤ (0:Int)) (by decide : (0:Int) ≤ 1)), (show (¬ ((0 ≤ ar1.toInt ∧ ar1.toInt ≤ 3) ∧ (0 ≤ ar3.toInt ∧ ar3.toInt ≤ 3) ∧ (0 ≤ ar2.toInt ∧ 0 ≤ ar4.toInt ∧ 0 ≤ ar5.toInt)) → (g49 0 0).toInt = 1) ∧ (∀ A B R S : Nat, gr 1 ar1.toNatClampNeg = .ref A → gr 1 ar3.toNatClampNeg = .ref B → gr A 0 = .ref R → gr B 0 = .ref S → (0 ≤ ar1.toInt ∧ ar1.toInt ≤ 3) → (0 ≤ ar3.toInt ∧ ar3.toInt ≤ 3) → (0 ≤ ar2.toInt ∧ 0 ≤ ar4.toInt ∧ 0 ≤ ar5.toInt) → ((gi A 2).toInt = -1 ∨ (gi B 2).toInt = -1 → (g49 0 0).toInt = 2) ∧ ((gi A 2).toInt ≠ -1 → (gi B 2).toInt ≠ -1 → ((gi A 1).toInt ≠ (gi B 1).toInt → (g49 0 0).toInt = 8) ∧ ((gi A 1).toInt = (gi B 1).toInt → ((ar2.toInt + ar5.toInt ≤ (gi A 2).toInt ∧ ar4.toInt + ar5.toInt ≤ (gi B 2).toInt) → (g49 0 0).toInt = 0) ∧ (¬ (ar2.toInt + ar5.toInt ≤ (gi A 2).toInt ∧ ar4.toInt + ar5.toInt ≤ (gi B 2).toInt) → (g49 0 0).toInt = 3)))) from (by have ffs : (g49 0 0).toInt = 3 := (congrArg Int32.toInt (by rw [e49]; exact x_up2_at _ _ _ _ : g49 0 0 = 3)).trans (by decide); refine ⟨fun h3 => by omega, fun A B R S hA hB hR hS hi1 hi3 hp => ?_⟩; rw [e30] at hA; cases hA; have hh := e10.symm.trans e30; cases hh; rw [e31] at hB; cases hB; have hh := e19.symm.trans e31; cases hh; refine ⟨fun h4 => ?_, fun h4 h5 => ⟨fun h6 => ?_, fun h6 => ⟨fun h7 => ?_, fun h7 => ?_⟩⟩⟩ <;> omega))⟩⟩
                      · have r50 : ar2.toInt ≤ (gi a30 2).toInt := Int32.le_iff_toInt_le.mp (t_nlt h46)
                        have u51 : ar2.toInt ≤ 60 := t_leu (t_nlt h46) u32
                        refine ev_loc f_X10_hasStretch (nx := 9) rfl rfl rfl rfl ?_
                        refine ev_loc f_X10_hasStretch (nx := 10) rfl rfl rfl rfl ?_
                        refine ev_gvI f_X10_hasStretch (nx := 13) (w := (gi a30 2)) rfl p30.1 rfl rfl rfl rfl ?_
                        refine ev_loc f_X10_hasStretch (nx := 14) rfl rfl rfl rfl ?_
                        refine ev_subR f_X10_hasStretch (nx := 15) (l := (-60)) (u := 60) rfl l37 u32 l23 u51 rfl rfl (by decide) (by decide) rfl (fun z52 e52 l52 u52 => ?_)
                        refine ev_if f_X10_hasStretch (t1 := 22) (t2 := 18) rfl rfl rfl (fun h53 => ?_) (fun h53 => ?_)
                        · have r54 : z52.toInt < ar5.toInt := Int32.lt_iff_toInt_lt.mp h53
                          refine ev_ic f_X10_hasStretch (nx := 23) (v := 0) rfl (by decide) rfl ?_
                          refine ev_retK1 f_X10_hasStretch rfl rfl rfl ?_
                          refine ev_t f_X11_pour (t1 := 117) (t2 := 105) rfl rfl rfl (by decide) ?_
                          refine ev_loc f_X11_pour (nx := 118) rfl rfl rfl rfl ?_
                          refine ev_ic f_X11_pour (nx := 119) (v := 3) rfl (by decide) rfl ?_
                          refine ev_inV2 f_X11_pour (nx := 122) (lo2 := [(0, .ref 0), (1, .int 3)]) rfl rfl rfl rfl f_X11_deny (hI.wf.s rfl) rfl rfl rfl rfl rfl ?_
                          refine ev_loc f_X11_deny (nx := 1) rfl rfl rfl rfl ?_
                          refine ev_loc f_X11_deny (nx := 2) rfl rfl rfl rfl ?_
                          refine ev_putIT f_X11_deny (nx := 5) rfl (hI.wf.s rfl) rfl rfl rfl (hI.put0 (hI.wf.s rfl) rfl rfl) (hX.upI rfl) (fun g55 e55 hI hX => ?_)
                          refine ev_ic f_X11_deny (nx := 6) (v := 0) rfl (by decide) rfl ?_
                          refine ev_retK1 f_X11_deny rfl rfl rfl ?_
                          exact ev_ret f_X11_pour rfl rfl rfl ⟨_, _, _, rfl, hI, hX, ⟨_, rfl, (by decide : (0:Int) ≤ (0:Int32).toInt), (Int.le_trans (by decide : (0:Int32).toInt ≤ (0:Int)) (by decide : (0:Int) ≤ 1)), (show (¬ ((0 ≤ ar1.toInt ∧ ar1.toInt ≤ 3) ∧ (0 ≤ ar3.toInt ∧ ar3.toInt ≤ 3) ∧ (0 ≤ ar2.toInt ∧ 0 ≤ ar4.toInt ∧ 0 ≤ ar5.toInt)) → (g55 0 0).toInt = 1) ∧ (∀ A B R S : Nat, gr 1 ar1.toNatClampNeg = .ref A → gr 1 ar3.toNatClampNeg = .ref B → gr A 0 = .ref R → gr B 0 = .ref S → (0 ≤ ar1.toInt ∧ ar1.toInt ≤ 3) → (0 ≤ ar3.toInt ∧ ar3.toInt ≤ 3) → (0 ≤ ar2.toInt ∧ 0 ≤ ar4.toInt ∧ 0 ≤ ar5.toInt) → ((gi A 2).toInt = -1 ∨ (gi B 2).toInt = -1 → (g55 0 0).toInt = 2) ∧ ((gi A 2).toInt ≠ -1 → (gi B 2).toInt ≠ -1 → ((gi A 1).toInt ≠ (gi B 1).toInt → (g55 0 0).toInt = 8) ∧ ((gi A 1).toInt = (gi B 1).toInt → ((ar2.toInt + ar5.toInt ≤ (gi A 2).toInt ∧ ar4.toInt + ar5.toInt ≤ (gi B 2).toInt) → (g55 0 0).toInt = 0) ∧ (¬ (ar2.toInt + ar5.toInt ≤ (gi A 2).toInt ∧ ar4.toInt + ar5.toInt ≤ (gi B 2).toInt) → (g55 0 0).toInt = 3)))) from (by have ffs : (g55 0 0).toInt = 3 := (congrArg Int32.toInt (by rw [e55]; exact x_up2_at _ _ _ _ : g55 0 0 = 3)).trans (by decide); refine ⟨fun h3 => by omega, fun A B R S hA hB hR hS hi1 hi3 hp => ?_⟩; rw [e30] at hA; cases hA; have hh := e10.symm.trans e30; cases hh; rw [e31] at hB; cases hB; have hh := e19.symm.trans e31; cases hh; refine ⟨fun h4 => ?_, fun h4 h5 => ⟨fun h6 => ?_, fun h6 => ⟨fun h7 => ?_, fun h7 => ?_⟩⟩⟩ <;> omega))⟩⟩
                        · have r56 : ar5.toInt ≤ z52.toInt := Int32.le_iff_toInt_le.mp (t_nlt h53)
                          have u57 : ar5.toInt ≤ 60 := t_leu (t_nlt h53) u52
                          have l58 : 0 ≤ z52.toInt := t_lel (t_nlt h53) l29
                          refine ev_ic f_X10_hasStretch (nx := 19) (v := 1) rfl (by decide) rfl ?_
                          refine ev_jmp f_X10_hasStretch (nx := 23) rfl rfl rfl ?_
                          refine ev_retK1 f_X10_hasStretch rfl rfl rfl ?_
                          refine ev_f f_X11_pour (t1 := 117) (t2 := 105) rfl rfl rfl (by decide) ?_
                          refine ev_loc f_X11_pour (nx := 107) rfl rfl rfl rfl ?_
                          refine ev_loc f_X11_pour (nx := 109) rfl rfl rfl rfl ?_
                          refine ev_loc f_X11_pour (nx := 111) rfl rfl rfl rfl ?_
                          refine ev_inV3 f_X11_pour (nx := 114) (lo2 := [(0, .ref a31), (1, .int ar4), (2, .int ar5)]) rfl rfl rfl rfl f_X10_hasStretch p31.1 rfl rfl rfl rfl rfl ?_
                          refine ev_loc f_X10_hasStretch (nx := 1) rfl rfl rfl rfl ?_
                          refine ev_loc f_X10_hasStretch (nx := 2) rfl rfl rfl rfl ?_
                          refine ev_gvI f_X10_hasStretch (nx := 5) (w := (gi a31 2)) rfl p31.1 rfl rfl rfl rfl ?_
                          refine ev_if f_X10_hasStretch (t1 := 22) (t2 := 8) rfl rfl rfl (fun h59 => ?_) (fun h59 => ?_)
                          · have r60 : (gi a31 2).toInt < ar4.toInt := Int32.lt_iff_toInt_lt.mp h59
                            have l61 : 1 ≤ ar4.toInt := t_ltl h59 l43 rfl
                            refine ev_ic f_X10_hasStretch (nx := 23) (v := 0) rfl (by decide) rfl ?_
                            refine ev_retK1 f_X10_hasStretch rfl rfl rfl ?_
                            refine ev_t f_X11_pour (t1 := 117) (t2 := 123) rfl rfl rfl (by decide) ?_
                            refine ev_loc f_X11_pour (nx := 118) rfl rfl rfl rfl ?_
                            refine ev_ic f_X11_pour (nx := 119) (v := 3) rfl (by decide) rfl ?_
                            refine ev_inV2 f_X11_pour (nx := 122) (lo2 := [(0, .ref 0), (1, .int 3)]) rfl rfl rfl rfl f_X11_deny (hI.wf.s rfl) rfl rfl rfl rfl rfl ?_
                            refine ev_loc f_X11_deny (nx := 1) rfl rfl rfl rfl ?_
                            refine ev_loc f_X11_deny (nx := 2) rfl rfl rfl rfl ?_
                            refine ev_putIT f_X11_deny (nx := 5) rfl (hI.wf.s rfl) rfl rfl rfl (hI.put0 (hI.wf.s rfl) rfl rfl) (hX.upI rfl) (fun g62 e62 hI hX => ?_)
                            refine ev_ic f_X11_deny (nx := 6) (v := 0) rfl (by decide) rfl ?_
                            refine ev_retK1 f_X11_deny rfl rfl rfl ?_
                            exact ev_ret f_X11_pour rfl rfl rfl ⟨_, _, _, rfl, hI, hX, ⟨_, rfl, (by decide : (0:Int) ≤ (0:Int32).toInt), (Int.le_trans (by decide : (0:Int32).toInt ≤ (0:Int)) (by decide : (0:Int) ≤ 1)), (show (¬ ((0 ≤ ar1.toInt ∧ ar1.toInt ≤ 3) ∧ (0 ≤ ar3.toInt ∧ ar3.toInt ≤ 3) ∧ (0 ≤ ar2.toInt ∧ 0 ≤ ar4.toInt ∧ 0 ≤ ar5.toInt)) → (g62 0 0).toInt = 1) ∧ (∀ A B R S : Nat, gr 1 ar1.toNatClampNeg = .ref A → gr 1 ar3.toNatClampNeg = .ref B → gr A 0 = .ref R → gr B 0 = .ref S → (0 ≤ ar1.toInt ∧ ar1.toInt ≤ 3) → (0 ≤ ar3.toInt ∧ ar3.toInt ≤ 3) → (0 ≤ ar2.toInt ∧ 0 ≤ ar4.toInt ∧ 0 ≤ ar5.toInt) → ((gi A 2).toInt = -1 ∨ (gi B 2).toInt = -1 → (g62 0 0).toInt = 2) ∧ ((gi A 2).toInt ≠ -1 → (gi B 2).toInt ≠ -1 → ((gi A 1).toInt ≠ (gi B 1).toInt → (g62 0 0).toInt = 8) ∧ ((gi A 1).toInt = (gi B 1).toInt → ((ar2.toInt + ar5.toInt ≤ (gi A 2).toInt ∧ ar4.toInt + ar5.toInt ≤ (gi B 2).toInt) → (g62 0 0).toInt = 0) ∧ (¬ (ar2.toInt + ar5.toInt ≤ (gi A 2).toInt ∧ ar4.toInt + ar5.toInt ≤ (gi B 2).toInt) → (g62 0 0).toInt = 3)))) from (by have ffs : (g62 0 0).toInt = 3 := (congrArg Int32.toInt (by rw [e62]; exact x_up2_at _ _ _ _ : g62 0 0 = 3)).trans (by decide); refine ⟨fun h3 => by omega, fun A B R S hA hB hR hS hi1 hi3 hp => ?_⟩; rw [e30] at hA; cases hA; have hh := e10.symm.trans e30; cases hh; rw [e31] at hB; cases hB; have hh := e19.symm.trans e31; cases hh; refine ⟨fun h4 => ?_, fun h4 h5 => ⟨fun h6 => ?_, fun h6 => ⟨fun h7 => ?_, fun h7 => ?_⟩⟩⟩ <;> omega))⟩⟩
                          · have r63 : ar4.toInt ≤ (gi a31 2).toInt := Int32.le_iff_toInt_le.mp (t_nlt h59)
                            have u64 : ar4.toInt ≤ 60 := t_leu (t_nlt h59) u38
                            refine ev_loc f_X10_hasStretch (nx := 9) rfl rfl rfl rfl ?_
                            refine ev_loc f_X10_hasStretch (nx := 10) rfl rfl rfl rfl ?_
                            refine ev_gvI f_X10_hasStretch (nx := 13) (w := (gi a31 2)) rfl p31.1 rfl rfl rfl rfl ?_
                            refine ev_loc f_X10_hasStretch (nx := 14) rfl rfl rfl rfl ?_
                            refine ev_subR f_X10_hasStretch (nx := 15) (l := (-60)) (u := 60) rfl l43 u38 l27 u64 rfl rfl (by decide) (by decide) rfl (fun z65 e65 l65 u65 => ?_)
                            refine ev_if f_X10_hasStretch (t1 := 22) (t2 := 18) rfl rfl rfl (fun h66 => ?_) (fun h66 => ?_)
                            · have r67 : z65.toInt < ar5.toInt := Int32.lt_iff_toInt_lt.mp h66
                              have u68 : z65.toInt ≤ 59 := t_ltu h66 u57 rfl
                              refine ev_ic f_X10_hasStretch (nx := 23) (v := 0) rfl (by decide) rfl ?_
                              refine ev_retK1 f_X10_hasStretch rfl rfl rfl ?_
                              refine ev_t f_X11_pour (t1 := 117) (t2 := 123) rfl rfl rfl (by decide) ?_
                              refine ev_loc f_X11_pour (nx := 118) rfl rfl rfl rfl ?_
                              refine ev_ic f_X11_pour (nx := 119) (v := 3) rfl (by decide) rfl ?_
                              refine ev_inV2 f_X11_pour (nx := 122) (lo2 := [(0, .ref 0), (1, .int 3)]) rfl rfl rfl rfl f_X11_deny (hI.wf.s rfl) rfl rfl rfl rfl rfl ?_
                              refine ev_loc f_X11_deny (nx := 1) rfl rfl rfl rfl ?_
                              refine ev_loc f_X11_deny (nx := 2) rfl rfl rfl rfl ?_
                              refine ev_putIT f_X11_deny (nx := 5) rfl (hI.wf.s rfl) rfl rfl rfl (hI.put0 (hI.wf.s rfl) rfl rfl) (hX.upI rfl) (fun g69 e69 hI hX => ?_)
                              refine ev_ic f_X11_deny (nx := 6) (v := 0) rfl (by decide) rfl ?_
                              refine ev_retK1 f_X11_deny rfl rfl rfl ?_
                              exact ev_ret f_X11_pour rfl rfl rfl ⟨_, _, _, rfl, hI, hX, ⟨_, rfl, (by decide : (0:Int) ≤ (0:Int32).toInt), (Int.le_trans (by decide : (0:Int32).toInt ≤ (0:Int)) (by decide : (0:Int) ≤ 1)), (show (¬ ((0 ≤ ar1.toInt ∧ ar1.toInt ≤ 3) ∧ (0 ≤ ar3.toInt ∧ ar3.toInt ≤ 3) ∧ (0 ≤ ar2.toInt ∧ 0 ≤ ar4.toInt ∧ 0 ≤ ar5.toInt)) → (g69 0 0).toInt = 1) ∧ (∀ A B R S : Nat, gr 1 ar1.toNatClampNeg = .ref A → gr 1 ar3.toNatClampNeg = .ref B → gr A 0 = .ref R → gr B 0 = .ref S → (0 ≤ ar1.toInt ∧ ar1.toInt ≤ 3) → (0 ≤ ar3.toInt ∧ ar3.toInt ≤ 3) → (0 ≤ ar2.toInt ∧ 0 ≤ ar4.toInt ∧ 0 ≤ ar5.toInt) → ((gi A 2).toInt = -1 ∨ (gi B 2).toInt = -1 → (g69 0 0).toInt = 2) ∧ ((gi A 2).toInt ≠ -1 → (gi B 2).toInt ≠ -1 → ((gi A 1).toInt ≠ (gi B 1).toInt → (g69 0 0).toInt = 8) ∧ ((gi A 1).toInt = (gi B 1).toInt → ((ar2.toInt + ar5.toInt ≤ (gi A 2).toInt ∧ ar4.toInt + ar5.toInt ≤ (gi B 2).toInt) → (g69 0 0).toInt = 0) ∧ (¬ (ar2.toInt + ar5.toInt ≤ (gi A 2).toInt ∧ ar4.toInt + ar5.toInt ≤ (gi B 2).toInt) → (g69 0 0).toInt = 3)))) from (by have ffs : (g69 0 0).toInt = 3 := (congrArg Int32.toInt (by rw [e69]; exact x_up2_at _ _ _ _ : g69 0 0 = 3)).trans (by decide); refine ⟨fun h3 => by omega, fun A B R S hA hB hR hS hi1 hi3 hp => ?_⟩; rw [e30] at hA; cases hA; have hh := e10.symm.trans e30; cases hh; rw [e31] at hB; cases hB; have hh := e19.symm.trans e31; cases hh; refine ⟨fun h4 => ?_, fun h4 h5 => ⟨fun h6 => ?_, fun h6 => ⟨fun h7 => ?_, fun h7 => ?_⟩⟩⟩ <;> omega))⟩⟩
                            · have r70 : ar5.toInt ≤ z65.toInt := Int32.le_iff_toInt_le.mp (t_nlt h66)
                              have l71 : 0 ≤ z65.toInt := t_lel (t_nlt h66) l29
                              refine ev_ic f_X10_hasStretch (nx := 19) (v := 1) rfl (by decide) rfl ?_
                              refine ev_jmp f_X10_hasStretch (nx := 23) rfl rfl rfl ?_
                              refine ev_retK1 f_X10_hasStretch rfl rfl rfl ?_
                              refine ev_f f_X11_pour (t1 := 117) (t2 := 123) rfl rfl rfl (by decide) ?_
                              refine ev_loc f_X11_pour (nx := 125) rfl rfl rfl rfl ?_
                              have e72 := p30.2.1.1
                              have s72 := p30.2.1.2
                              refine ev_getR f_X11_pour (nx := 128) rfl p30.1 rfl rfl e72 rfl rfl ?_
                              refine ev_loc f_X11_pour (nx := 129) rfl rfl rfl rfl ?_
                              refine ev_loc f_X11_pour (nx := 131) rfl rfl rfl rfl ?_
                              have e73 := p31.2.1.1
                              have s73 := p31.2.1.2
                              refine ev_getR f_X11_pour (nx := 134) rfl p31.1 rfl rfl e73 rfl rfl ?_
                              refine ev_loc f_X11_pour (nx := 136) rfl rfl rfl rfl ?_
                              refine ev_loc f_X11_pour (nx := 138) rfl rfl rfl rfl ?_
                              refine ev_cpyTL f_X11_pour (nx := 141) rfl rfl s72 s73 (by omega) l23 l27 l29 (by omega) (by omega) rfl (hX.arrL (fun j => (t_in4A p31.2.2 rfl))) (fun g74 e74 hX => ?_)
                              refine ev_loc f_X11_pour (nx := 142) rfl rfl rfl rfl ?_
                              refine ev_inV1 f_X11_pour (nx := 145) (lo2 := [(0, .ref 0)]) rfl rfl rfl rfl f_X11_grant (hI.wf.s rfl) rfl rfl rfl rfl rfl ?_
                              refine ev_loc f_X11_grant (nx := 1) rfl rfl rfl rfl ?_
                              refine ev_ic f_X11_grant (nx := 2) (v := 0) rfl (by decide) rfl ?_
                              refine ev_putIT f_X11_grant (nx := 5) rfl (hI.wf.s rfl) rfl rfl rfl (hI.put0 (hI.wf.s rfl) rfl rfl) (hX.upI rfl) (fun g75 e75 hI hX => ?_)
                              refine ev_ic f_X11_grant (nx := 6) (v := 1) rfl (by decide) rfl ?_
                              refine ev_retK1 f_X11_grant rfl rfl rfl ?_
                              exact ev_ret f_X11_pour rfl rfl rfl ⟨_, _, _, rfl, hI, hX, ⟨_, rfl, (Int.le_trans (by decide : (0:Int) ≤ 1) (by decide : (1:Int) ≤ (1:Int32).toInt)), (by decide : (1:Int32).toInt ≤ (1:Int)), (show (¬ ((0 ≤ ar1.toInt ∧ ar1.toInt ≤ 3) ∧ (0 ≤ ar3.toInt ∧ ar3.toInt ≤ 3) ∧ (0 ≤ ar2.toInt ∧ 0 ≤ ar4.toInt ∧ 0 ≤ ar5.toInt)) → (g75 0 0).toInt = 1) ∧ (∀ A B R S : Nat, gr 1 ar1.toNatClampNeg = .ref A → gr 1 ar3.toNatClampNeg = .ref B → gr A 0 = .ref R → gr B 0 = .ref S → (0 ≤ ar1.toInt ∧ ar1.toInt ≤ 3) → (0 ≤ ar3.toInt ∧ ar3.toInt ≤ 3) → (0 ≤ ar2.toInt ∧ 0 ≤ ar4.toInt ∧ 0 ≤ ar5.toInt) → ((gi A 2).toInt = -1 ∨ (gi B 2).toInt = -1 → (g75 0 0).toInt = 2) ∧ ((gi A 2).toInt ≠ -1 → (gi B 2).toInt ≠ -1 → ((gi A 1).toInt ≠ (gi B 1).toInt → (g75 0 0).toInt = 8) ∧ ((gi A 1).toInt = (gi B 1).toInt → ((ar2.toInt + ar5.toInt ≤ (gi A 2).toInt ∧ ar4.toInt + ar5.toInt ≤ (gi B 2).toInt) → (g75 0 0).toInt = 0) ∧ (¬ (ar2.toInt + ar5.toInt ≤ (gi A 2).toInt ∧ ar4.toInt + ar5.toInt ≤ (gi B 2).toInt) → (g75 0 0).toInt = 3)))) from (by have ffs : (g75 0 0).toInt = 0 := (congrArg Int32.toInt (by rw [e75]; exact x_up2_at _ _ _ _ : g75 0 0 = 0)).trans (by decide); refine ⟨fun h3 => by omega, fun A B R S hA hB hR hS hi1 hi3 hp => ?_⟩; rw [e30] at hA; cases hA; have hh := e10.symm.trans e30; cases hh; have hrrR := (e72).symm.trans hR; cases hrrR; rw [e31] at hB; cases hB; have hh := e19.symm.trans e31; cases hh; have hrrS := (e73).symm.trans hS; cases hrrS; refine ⟨fun h4 => ?_, fun h4 h5 => ⟨fun h6 => ?_, fun h6 => ⟨fun h7 => ?_, fun h7 => ?_⟩⟩⟩ <;> omega))⟩⟩
                    · have r76 : (gi a30 1).toInt ≠ (gi a31 1).toInt := t_nei h44
                      refine ev_loc f_X11_pour (nx := 88) rfl rfl rfl rfl ?_
                      refine ev_bp f_X11_pour (nx := 90) (v := 8) rfl (by decide) rfl ?_
                      refine ev_inV2 f_X11_pour (nx := 93) (lo2 := [(0, .ref 0), (1, .int 8)]) rfl rfl rfl rfl f_X11_deny (hI.wf.s rfl) rfl rfl rfl rfl rfl ?_
                      refine ev_loc f_X11_deny (nx := 1) rfl rfl rfl rfl ?_
                      refine ev_loc f_X11_deny (nx := 2) rfl rfl rfl rfl ?_
                      refine ev_putIT f_X11_deny (nx := 5) rfl (hI.wf.s rfl) rfl rfl rfl (hI.put0 (hI.wf.s rfl) rfl rfl) (hX.upI rfl) (fun g77 e77 hI hX => ?_)
                      refine ev_ic f_X11_deny (nx := 6) (v := 0) rfl (by decide) rfl ?_
                      refine ev_retK1 f_X11_deny rfl rfl rfl ?_
                      exact ev_ret f_X11_pour rfl rfl rfl ⟨_, _, _, rfl, hI, hX, ⟨_, rfl, (by decide : (0:Int) ≤ (0:Int32).toInt), (Int.le_trans (by decide : (0:Int32).toInt ≤ (0:Int)) (by decide : (0:Int) ≤ 1)), (show (¬ ((0 ≤ ar1.toInt ∧ ar1.toInt ≤ 3) ∧ (0 ≤ ar3.toInt ∧ ar3.toInt ≤ 3) ∧ (0 ≤ ar2.toInt ∧ 0 ≤ ar4.toInt ∧ 0 ≤ ar5.toInt)) → (g77 0 0).toInt = 1) ∧ (∀ A B R S : Nat, gr 1 ar1.toNatClampNeg = .ref A → gr 1 ar3.toNatClampNeg = .ref B → gr A 0 = .ref R → gr B 0 = .ref S → (0 ≤ ar1.toInt ∧ ar1.toInt ≤ 3) → (0 ≤ ar3.toInt ∧ ar3.toInt ≤ 3) → (0 ≤ ar2.toInt ∧ 0 ≤ ar4.toInt ∧ 0 ≤ ar5.toInt) → ((gi A 2).toInt = -1 ∨ (gi B 2).toInt = -1 → (g77 0 0).toInt = 2) ∧ ((gi A 2).toInt ≠ -1 → (gi B 2).toInt ≠ -1 → ((gi A 1).toInt ≠ (gi B 1).toInt → (g77 0 0).toInt = 8) ∧ ((gi A 1).toInt = (gi B 1).toInt → ((ar2.toInt + ar5.toInt ≤ (gi A 2).toInt ∧ ar4.toInt + ar5.toInt ≤ (gi B 2).toInt) → (g77 0 0).toInt = 0) ∧ (¬ (ar2.toInt + ar5.toInt ≤ (gi A 2).toInt ∧ ar4.toInt + ar5.toInt ≤ (gi B 2).toInt) → (g77 0 0).toInt = 3)))) from (by have ffs : (g77 0 0).toInt = 8 := (congrArg Int32.toInt (by rw [e77]; exact x_up2_at _ _ _ _ : g77 0 0 = 8)).trans (by decide); refine ⟨fun h3 => by omega, fun A B R S hA hB hR hS hi1 hi3 hp => ?_⟩; rw [e30] at hA; cases hA; have hh := e10.symm.trans e30; cases hh; rw [e31] at hB; cases hB; have hh := e19.symm.trans e31; cases hh; refine ⟨fun h4 => ?_, fun h4 h5 => ⟨fun h6 => ?_, fun h6 => ⟨fun h7 => ?_, fun h7 => ?_⟩⟩⟩ <;> omega))⟩⟩
              · have u78 : ar5.toInt ≤ (-1) := t_ltu (t_nle h28) (by decide : (0:Int32).toInt ≤ (0:Int)) rfl
                refine ev_loc f_X11_pour (nx := 31) rfl rfl rfl rfl ?_
                refine ev_ic f_X11_pour (nx := 32) (v := 1) rfl (by decide) rfl ?_
                refine ev_inV2 f_X11_pour (nx := 35) (lo2 := [(0, .ref 0), (1, .int 1)]) rfl rfl rfl rfl f_X11_deny (hI.wf.s rfl) rfl rfl rfl rfl rfl ?_
                refine ev_loc f_X11_deny (nx := 1) rfl rfl rfl rfl ?_
                refine ev_loc f_X11_deny (nx := 2) rfl rfl rfl rfl ?_
                refine ev_putIT f_X11_deny (nx := 5) rfl (hI.wf.s rfl) rfl rfl rfl (hI.put0 (hI.wf.s rfl) rfl rfl) (hX.upI rfl) (fun g79 e79 hI hX => ?_)
                refine ev_ic f_X11_deny (nx := 6) (v := 0) rfl (by decide) rfl ?_
                refine ev_retK1 f_X11_deny rfl rfl rfl ?_
                exact ev_ret f_X11_pour rfl rfl rfl ⟨_, _, _, rfl, hI, hX, ⟨_, rfl, (by decide : (0:Int) ≤ (0:Int32).toInt), (Int.le_trans (by decide : (0:Int32).toInt ≤ (0:Int)) (by decide : (0:Int) ≤ 1)), (show (¬ ((0 ≤ ar1.toInt ∧ ar1.toInt ≤ 3) ∧ (0 ≤ ar3.toInt ∧ ar3.toInt ≤ 3) ∧ (0 ≤ ar2.toInt ∧ 0 ≤ ar4.toInt ∧ 0 ≤ ar5.toInt)) → (g79 0 0).toInt = 1) ∧ (∀ A B R S : Nat, gr 1 ar1.toNatClampNeg = .ref A → gr 1 ar3.toNatClampNeg = .ref B → gr A 0 = .ref R → gr B 0 = .ref S → (0 ≤ ar1.toInt ∧ ar1.toInt ≤ 3) → (0 ≤ ar3.toInt ∧ ar3.toInt ≤ 3) → (0 ≤ ar2.toInt ∧ 0 ≤ ar4.toInt ∧ 0 ≤ ar5.toInt) → ((gi A 2).toInt = -1 ∨ (gi B 2).toInt = -1 → (g79 0 0).toInt = 2) ∧ ((gi A 2).toInt ≠ -1 → (gi B 2).toInt ≠ -1 → ((gi A 1).toInt ≠ (gi B 1).toInt → (g79 0 0).toInt = 8) ∧ ((gi A 1).toInt = (gi B 1).toInt → ((ar2.toInt + ar5.toInt ≤ (gi A 2).toInt ∧ ar4.toInt + ar5.toInt ≤ (gi B 2).toInt) → (g79 0 0).toInt = 0) ∧ (¬ (ar2.toInt + ar5.toInt ≤ (gi A 2).toInt ∧ ar4.toInt + ar5.toInt ≤ (gi B 2).toInt) → (g79 0 0).toInt = 3)))) from (by have ffs : (g79 0 0).toInt = 1 := (congrArg Int32.toInt (by rw [e79]; exact x_up2_at _ _ _ _ : g79 0 0 = 1)).trans (by decide); refine ⟨fun h3 => by omega, fun A B R S hA hB hR hS hi1 hi3 hp => ?_⟩; rw [e10] at hA; cases hA; rw [e19] at hB; cases hB; refine ⟨fun h4 => ?_, fun h4 h5 => ⟨fun h6 => ?_, fun h6 => ⟨fun h7 => ?_, fun h7 => ?_⟩⟩⟩ <;> omega))⟩⟩
noncomputable def wl_d_status : List (Nat × Nat) := []
noncomputable def Q_d_status (gi : Nat → Nat → Int32) (gl : Nat → Nat → Int64) (gr : Nat → Nat → Value) : Int32 → (Nat → Nat → Int32) → (Nat → Nat → Int64) → (Nat → Nat → Value) → Prop := fun (v : Int32) (gi2 : Nat → Nat → Int32) (gl2 : Nat → Nat → Int64) (gr2 : Nat → Nat → Value) => v.toInt = (gi 0 0).toInt
theorem c_d_status {X : x_Ext} {d : Nat} {sh : List (Nat ⊕ (Nat × Nat))} {gi : Nat → Nat → Int32} {gl : Nat → Nat → Int64} {gr : Nat → Nat → Value} (hI : t_I sh gi gr) : x_Me X (d + 1) n_X11_status [.ref 0] (sh, gi, gl, gr) (t_PI wl_d_status sh gi gl gr (-2147483648) 2147483647 (Q_d_status gi gl gr)) := by
  have hX : t_X wl_d_status sh gi gl gr gi gl gr := t_X.rf
  refine me_i f_X11_status (hI.wf.s rfl) rfl rfl rfl ?_
  refine ev_loc f_X11_status (nx := 1) rfl rfl rfl rfl ?_
  refine ev_gvI f_X11_status (nx := 4) (w := (gi 0 0)) rfl (hI.wf.s rfl) rfl rfl rfl rfl ?_
  exact ev_ret f_X11_status rfl rfl rfl ⟨_, _, _, rfl, hI, hX, ⟨_, rfl, (t_lo (gi 0 0)), (t_hi (gi 0 0)), (show (gi 0 0).toInt = (gi 0 0).toInt from rfl)⟩⟩
noncomputable def wl_f_t_river : List (Nat × Nat) := [(0, 0), (0, 5), (0, 6), (0, 7), (0, 8), (0, 9), (3, 0), (3, 3), (3, 4), (3, 5), (3, 6), (4, 9999), (5, 9999), (6, 0), (7, 9999), (8, 9999), (9, 9999), (10, 9999), (11, 9999), (12, 9999), (13, 0), (14, 9999), (15, 9999), (16, 9999), (17, 9999), (18, 9999), (29, 0), (30, 9999), (31, 9999), (32, 9999), (33, 9999), (34, 9999), (35, 0), (36, 9999), (37, 9999), (38, 9999), (39, 9999), (40, 9999), (43, 9999), (44, 9999), (46, 0), (47, 9999), (48, 9999), (49, 9999), (50, 9999), (51, 9999), (52, 0), (53, 9999), (54, 9999), (55, 9999), (56, 9999), (57, 9999), (58, 9999), (59, 9999), (113, 0), (114, 0), (114, 3), (114, 4), (114, 5), (114, 6), (115, 4), (115, 5), (115, 6), (115, 7), (118, 2), (118, 3), (118, 4), (118, 5), (118, 6), (118, 7), (118, 8), (118, 9), (118, 10), (118, 11), (130, 9999), (131, 9999), (133, 9999)]
noncomputable def Q_f_t_river (gi : Nat → Nat → Int32) (gl : Nat → Nat → Int64) (gr : Nat → Nat → Value) (ar1 : Int32) (ar2 : Nat) : Int32 → (Nat → Nat → Int32) → (Nat → Nat → Int64) → (Nat → Nat → Value) → Prop := fun (v : Int32) (gi2 : Nat → Nat → Int32) (gl2 : Nat → Nat → Int64) (gr2 : Nat → Nat → Value) => (v.toInt = -1 → (gi2 0 0).toInt = 9) ∧ (v.toInt ≠ -1 → (gi2 0 0).toInt = 0)
theorem c_f_t_river {X : x_Ext} {d : Nat} {sh : List (Nat ⊕ (Nat × Nat))} {gi : Nat → Nat → Int32} {gl : Nat → Nat → Int64} {gr : Nat → Nat → Value} (hI : t_I sh gi gr) (ar1 : Int32) (ar2 : Nat) (p_a2 : t_RR sh gr ar2) : x_Ev X (d + 7) n_X11_river 38 [(0, .ref 0), (1, .int ar1), (2, .ref ar2)] [] (sh, gi, gl, gr) (t_PI wl_f_t_river sh gi gl gr (-1) 6 (Q_f_t_river gi gl gr ar1 ar2)) := by
  have hX : t_X wl_f_t_river sh gi gl gr gi gl gr := t_X.rf
  refine ev_loc f_X11_river (nx := 39) rfl rfl rfl rfl ?_
  refine ev_cI f_X11_river (nx := 42) (r := []) rfl rfl rfl rfl rfl rfl rfl (c_r_readAll hI (ar2) p_a2) rfl hX rfl (fun w2 gi2 gl2 gr2 l2 u2 hI hX hC2 => ?_)
  replace p_a2 := p_a2.ext hC2.2
  refine ev_loc f_X11_river (nx := 43) (lo' := [(3, .int w2), (0, .ref 0), (1, .int ar1), (2, .ref ar2)]) rfl rfl rfl rfl ?_
  refine ev_loc f_X11_river (nx := 44) rfl rfl rfl rfl ?_
  refine ev_loc f_X11_river (nx := 45) rfl rfl rfl rfl ?_
  obtain ⟨a3, e3, p3⟩ := p_a2.2.1
  refine ev_getR f_X11_river (nx := 48) rfl p_a2.1 rfl rfl e3 rfl rfl ?_
  refine ev_inV2 f_X11_river (nx := 51) (lo2 := [(0, .ref 0), (1, .ref a3)]) rfl rfl rfl rfl f_X11_endText (hI.wf.s rfl) rfl rfl rfl rfl rfl ?_
  refine ev_loc f_X11_endText (nx := 1) rfl rfl rfl rfl ?_
  refine ev_ic f_X11_endText (nx := 2) (v := 0) rfl (by decide) rfl ?_
  refine ev_putIT f_X11_endText (nx := 5) rfl (hI.wf.s rfl) rfl rfl rfl (hI.putB (hI.wf.s rfl) rfl rfl (by decide : (0:Int) ≤ (0:Int32).toInt) (by decide) (by decide : (0:Int32).toInt ≤ (0:Int)) (by decide)) (hX.upI rfl) (fun g4 e4 hI hX => ?_)
  refine ev_loc f_X11_endText (nx := 6) rfl rfl rfl rfl ?_
  refine ev_loc f_X11_endText (nx := 7) rfl rfl rfl rfl ?_
  refine ev_getI f_X11_endText (nx := 10) rfl p3.1 rfl rfl rfl ?_
  refine ev_putIT f_X11_endText (nx := 13) rfl (hI.wf.s rfl) rfl rfl rfl (hI.put0 (hI.wf.s rfl) rfl rfl) (hX.upI rfl) (fun g5 e5 hI hX => ?_)
  refine ev_loc f_X11_endText (nx := 14) rfl rfl rfl rfl ?_
  refine ev_loc f_X11_endText (nx := 15) rfl rfl rfl rfl ?_
  refine ev_getI f_X11_endText (nx := 18) rfl p3.1 rfl rfl rfl ?_
  refine ev_putIT f_X11_endText (nx := 21) rfl (hI.wf.s rfl) rfl rfl rfl (hI.put0 (hI.wf.s rfl) rfl rfl) (hX.upI rfl) (fun g6 e6 hI hX => ?_)
  refine ev_retK0 f_X11_endText rfl rfl rfl ?_
  refine ev_loc f_X11_river (nx := 52) rfl rfl rfl rfl ?_
  refine ev_if f_X11_river (t1 := 55) (t2 := 62) rfl rfl rfl (fun h7 => ?_) (fun h7 => ?_)
  · have u8 : w2.toInt ≤ 0 := t_equ h7 (by decide : (0:Int32).toInt ≤ (0:Int))
    refine ev_loc f_X11_river (nx := 56) rfl rfl rfl rfl ?_
    refine ev_bp f_X11_river (nx := 58) (v := 9) rfl (by decide) rfl ?_
    refine ev_inV2 f_X11_river (nx := 61) (lo2 := [(0, .ref 0), (1, .int 9)]) rfl rfl rfl rfl f_X11_refuse (hI.wf.s rfl) rfl rfl rfl rfl rfl ?_
    refine ev_loc f_X11_refuse (nx := 1) rfl rfl rfl rfl ?_
    refine ev_loc f_X11_refuse (nx := 2) rfl rfl rfl rfl ?_
    refine ev_putIT f_X11_refuse (nx := 5) rfl (hI.wf.s rfl) rfl rfl rfl (hI.put0 (hI.wf.s rfl) rfl rfl) (hX.upI rfl) (fun g9 e9 hI hX => ?_)
    refine ev_ic f_X11_refuse (nx := 6) (v := -1) rfl (by decide) rfl ?_
    refine ev_retK1 f_X11_refuse rfl rfl rfl ?_
    exact ev_ret f_X11_river rfl rfl rfl ⟨_, _, _, rfl, hI, hX, ⟨_, rfl, (by decide : ((-1):Int) ≤ ((-1):Int32).toInt), (Int.le_trans (by decide : ((-1):Int32).toInt ≤ ((-1):Int)) (by decide : ((-1):Int) ≤ 6)), (show (((-1) : Int) = -1 → (g9 0 0).toInt = 9) ∧ (((-1) : Int) ≠ -1 → (g9 0 0).toInt = 0) from ⟨fun h => (by have ffs : (g9 0 0).toInt = 9 := (congrArg Int32.toInt (by rw [e9]; exact x_up2_at _ _ _ _ : g9 0 0 = 9)).trans (by decide); omega), fun h => (by have ffs : (g9 0 0).toInt = 9 := (congrArg Int32.toInt (by rw [e9]; exact x_up2_at _ _ _ _ : g9 0 0 = 9)).trans (by decide); omega)⟩)⟩⟩
  · have r10 : w2.toInt ≠ 0 := fun e => h7 (Int32.toInt_inj.mp (e.trans (by decide : (0:Int) = (0 : Int32).toInt)))
    have l11 : 1 ≤ w2.toInt := t_nel h7 l2 rfl rfl
    refine ev_loc f_X11_river (nx := 63) rfl rfl rfl rfl ?_
    refine ev_loc f_X11_river (nx := 64) rfl rfl rfl rfl ?_
    obtain ⟨a12, e12, p12⟩ := p_a2.2.2.1
    refine ev_getR f_X11_river (nx := 67) rfl p_a2.1 rfl rfl e12 rfl rfl ?_
    have hE13 := t_eqf_up (gr := gr2) (j := 6) (v := .ref a12) (hI.wf.s (k := 0) rfl) rfl
    have hT13 := t_putRiver hI p12
    replace p_a2 := p_a2.ext hE13
    replace p3 := p3.ext hE13
    replace p12 := p12.ext hE13
    refine ev_putRT f_X11_river (nx := 70) rfl (hI.wf.s rfl) rfl rfl rfl rfl hT13 (hX.upR rfl hE13) (fun g13 e13 hI hX => ?_)
    rw [← e13] at p_a2
    rw [← e13] at p3
    rw [← e13] at p12
    refine ev_loc f_X11_river (nx := 71) rfl rfl rfl rfl ?_
    refine ev_alu f_X11_river (nx := 72) rfl rfl rfl rfl ?_
    have hE14 := t_eqf_up (gr := g13) (j := 7) (v := .null) (hI.wf.s (k := 0) rfl) rfl
    have hT14 := t_putRules hI (v := .null) (Or.inl rfl)
    replace p_a2 := p_a2.ext hE14
    replace p3 := p3.ext hE14
    replace p12 := p12.ext hE14
    refine ev_putRT f_X11_river (nx := 75) rfl (hI.wf.s rfl) rfl rfl rfl rfl hT14 (hX.upR rfl hE14) (fun g14 e14 hI hX => ?_)
    rw [← e14] at p_a2
    rw [← e14] at p3
    rw [← e14] at p12
    refine ev_loc f_X11_river (nx := 76) rfl rfl rfl rfl ?_
    refine ev_loc f_X11_river (nx := 77) rfl rfl rfl rfl ?_
    refine ev_getR f_X11_river (nx := 80) (v := .ref a12) rfl (hI.wf.s rfl) rfl rfl ((by rw [e14]; exact x_up2_off (Or.inr (by decide)) : g14 0 6 = g13 0 6).trans (by rw [e13]; exact x_up2_at _ _ _ _ : g13 0 6 = .ref a12)) rfl rfl ?_
    obtain ⟨a15, e15, p15⟩ := p12.2.2.2.2.1
    refine ev_getR f_X11_river (nx := 83) rfl p12.1 rfl rfl e15 rfl rfl ?_
    refine ev_getI f_X11_river (nx := 86) rfl p15.1 rfl rfl rfl ?_
    obtain ⟨l16, u16⟩ := hI.b p15.1 (t_bdK rfl : t_bd 3 0 = some (0, 6))
    refine ev_inV2 f_X11_river (nx := 89) (lo2 := [(0, .ref 0), (1, .int (g6 a15 0))]) rfl rfl rfl rfl f_X11_answer (hI.wf.s rfl) rfl rfl rfl rfl rfl ?_
    refine ev_loc f_X11_answer (nx := 1) rfl rfl rfl rfl ?_
    refine ev_ic f_X11_answer (nx := 2) (v := 0) rfl (by decide) rfl ?_
    refine ev_putIT f_X11_answer (nx := 5) rfl (hI.wf.s rfl) rfl rfl rfl (hI.put0 (hI.wf.s rfl) rfl rfl) (hX.upI rfl) (fun g17 e17 hI hX => ?_)
    refine ev_loc f_X11_answer (nx := 6) rfl rfl rfl rfl ?_
    refine ev_retK1 f_X11_answer rfl rfl rfl ?_
    exact ev_ret f_X11_river rfl rfl rfl ⟨_, _, _, rfl, hI, hX, ⟨_, rfl, (Int.le_trans (by decide : ((-1):Int) ≤ 0) l16), u16, (show ((g6 a15 0).toInt = -1 → (g17 0 0).toInt = 9) ∧ ((g6 a15 0).toInt ≠ -1 → (g17 0 0).toInt = 0) from ⟨fun h => (by have ffs : (g17 0 0).toInt = 0 := (congrArg Int32.toInt (by rw [e17]; exact x_up2_at _ _ _ _ : g17 0 0 = 0)).trans (by decide); omega), fun h => (by have ffs : (g17 0 0).toInt = 0 := (congrArg Int32.toInt (by rw [e17]; exact x_up2_at _ _ _ _ : g17 0 0 = 0)).trans (by decide); omega)⟩)⟩⟩
noncomputable def wl_f_t_riverN : List (Nat × Nat) := [(0, 0)]
noncomputable def Q_f_t_riverN (gi : Nat → Nat → Int32) (gl : Nat → Nat → Int64) (gr : Nat → Nat → Value) (ar1 : Int32) : Int32 → (Nat → Nat → Int32) → (Nat → Nat → Int64) → (Nat → Nat → Value) → Prop := fun (v : Int32) (gi2 : Nat → Nat → Int32) (gl2 : Nat → Nat → Int64) (gr2 : Nat → Nat → Value) => (gi2 0 0).toInt = 1
theorem c_f_t_riverN {X : x_Ext} {d : Nat} {sh : List (Nat ⊕ (Nat × Nat))} {gi : Nat → Nat → Int32} {gl : Nat → Nat → Int64} {gr : Nat → Nat → Value} (hI : t_I sh gi gr) (ar1 : Int32) : x_Ev X (d + 2) n_X11_river 12 [(0, .ref 0), (1, .int ar1)] [] (sh, gi, gl, gr) (t_PI wl_f_t_riverN sh gi gl gr (-1) (-1) (Q_f_t_riverN gi gl gr ar1)) := by
  have hX : t_X wl_f_t_riverN sh gi gl gr gi gl gr := t_X.rf
  refine ev_loc f_X11_river (nx := 13) rfl rfl rfl rfl ?_
  refine ev_ic f_X11_river (nx := 14) (v := 1) rfl (by decide) rfl ?_
  refine ev_inV2 f_X11_river (nx := 17) (lo2 := [(0, .ref 0), (1, .int 1)]) rfl rfl rfl rfl f_X11_refuse (hI.wf.s rfl) rfl rfl rfl rfl rfl ?_
  refine ev_loc f_X11_refuse (nx := 1) rfl rfl rfl rfl ?_
  refine ev_loc f_X11_refuse (nx := 2) rfl rfl rfl rfl ?_
  refine ev_putIT f_X11_refuse (nx := 5) rfl (hI.wf.s rfl) rfl rfl rfl (hI.put0 (hI.wf.s rfl) rfl rfl) (hX.upI rfl) (fun g2 e2 hI hX => ?_)
  refine ev_ic f_X11_refuse (nx := 6) (v := -1) rfl (by decide) rfl ?_
  refine ev_retK1 f_X11_refuse rfl rfl rfl ?_
  exact ev_ret f_X11_river rfl rfl rfl ⟨_, _, _, rfl, hI, hX, ⟨_, rfl, (by decide : ((-1):Int) ≤ ((-1):Int32).toInt), (by decide : ((-1):Int32).toInt ≤ ((-1):Int)), (show (g2 0 0).toInt = 1 from (by have ffs : (g2 0 0).toInt = 1 := (congrArg Int32.toInt (by rw [e2]; exact x_up2_at _ _ _ _ : g2 0 0 = 1)).trans (by decide); omega))⟩⟩
noncomputable def wl_f_river : List (Nat × Nat) := wl_f_t_river ++ wl_f_t_riverN
set_option maxHeartbeats 4000000 in
theorem c_f_river {X : x_Ext} {d : Nat} {sh : List (Nat ⊕ (Nat × Nat))} {gi : Nat → Nat → Int32} {gl : Nat → Nat → Int64} {gr : Nat → Nat → Value} (hI : t_I sh gi gr) (hH : t_H sh) (ar1 : Int32) : x_Me X (d + 11) n_X11_river [.ref 0, .int ar1] (sh, gi, gl, gr) (t_PG wl_f_river 30 2000 sh gi gl gr (fun (x : Int32) (g : Nat → Nat → Int32) => ((0 ≤ ar1.toInt ∧ ar1.toInt ≤ (gi 0 5).toInt) → (x.toInt = -1 → (g 0 0).toInt = 9) ∧ (x.toInt ≠ -1 → (g 0 0).toInt = 0)) ∧ (¬ (0 ≤ ar1.toInt ∧ ar1.toInt ≤ (gi 0 5).toInt) → (g 0 0).toInt = 1))) := by
  have hb0 := hI.b (hI.wf.s (k := 0) rfl) (t_bdK rfl : t_bd 10 5 = some (0, 900))
  refine me_i f_X11_river (hI.wf.s rfl) rfl rfl rfl ?_
  refine ev_loc f_X11_river (nx := 1) rfl rfl rfl rfl ?_
  refine ev_if f_X11_river (t1 := 12) (t2 := 4) rfl rfl rfl (fun h1 => ?_) (fun h1 => ?_)
  · have h1 := Int32.lt_iff_toInt_lt.mp h1; have kf0 : (0 : Int32).toInt = 0 := (by decide); refine x_Ev.mono (x_Ev.up (c_f_t_riverN (d := d) hI ar1) (by omega)) (fun v G' h => t_PG_of hH h (fun k j hn => (t_in_app hn).2) (fun x g1 g2 g3 hq hf => ⟨fun hi => absurd hi (by omega), fun _ => hq⟩))
  have h1 := Int32.le_iff_toInt_le.mp (t_nlt h1); have kf0 : (0 : Int32).toInt = 0 := (by decide)
  refine ev_loc f_X11_river (nx := 5) rfl rfl rfl rfl ?_
  refine ev_loc f_X11_river (nx := 6) rfl rfl rfl rfl ?_
  refine ev_getI f_X11_river (nx := 9) rfl (hI.wf.s rfl) rfl rfl rfl ?_
  refine ev_if f_X11_river (t1 := 18) (t2 := 12) rfl rfl rfl (fun h2 => ?_) (fun h2 => ?_)
  rotate_left
  · have h2 := Int32.lt_iff_toInt_lt.mp (t_nle h2); refine x_Ev.mono (x_Ev.up (c_f_t_riverN (d := d) hI ar1) (by omega)) (fun v G' h => t_PG_of hH h (fun k j hn => (t_in_app hn).2) (fun x g1 g2 g3 hq hf => ⟨fun hi => absurd hi (by omega), fun _ => hq⟩))
  have h2 := Int32.le_iff_toInt_le.mp h2
  have hin : (0 ≤ ar1.toInt ∧ ar1.toInt ≤ (gi 0 5).toInt) := by omega
  have lx : (0:Int) ≤ ar1.toInt := by omega
  have ux : ar1.toInt ≤ (900:Int) := by omega
  obtain ⟨N, hN⟩ : ∃ N, sh.length = N := ⟨_, rfl⟩
  have h102 := t_102 hI.wf
  rw [hN] at h102
  have hG := t_G.refl (N := N) (r := N) (gi0 := gi) (gl0 := gl) (gr0 := gr) hN (fun ci j lo hi hk ht => absurd (t_lt hk) (by omega))
  rw [show ((sh, gi, gl, gr) : x_G) = (sh ++ [], gi, gl, gr) by rw [List.append_nil]]
  refine ev_newG f_X11_river (nx := 21) (c := 0) (ext' := [.inl 5]) rfl rfl rfl hN rfl rfl hG (fun a101 b101 g101 ea101 eb101 e101 hG => ?_)
  refine ev_alu f_X11_river (nx := 22) rfl rfl rfl rfl ?_
  refine ev_newG f_X11_river (nx := 25) (c := 1) (ext' := [.inl 5, .inl 8]) rfl rfl rfl hN rfl rfl hG (fun a102 b102 g102 ea102 eb102 e102 hG => ?_)
  refine ev_alu f_X11_river (nx := 26) rfl rfl rfl rfl ?_
  refine ev_loc f_X11_river (nx := 27) rfl rfl rfl rfl ?_
  refine ev_getR f_X11_river (nx := 30) rfl (t_sl (hI.wf.s rfl)) rfl rfl ((congrFun (hG.1 0 (by omega) (by omega)).2.2 4).trans (hI.wf.r rfl)) rfl rfl ?_
  refine ev_loc f_X11_river (nx := 31) rfl rfl rfl rfl ?_
  refine ev_inV3 f_X11_river (nx := 34) (lo2 := [(0, .ref (N + 1)), (1, .ref 2), (2, .int ar1)]) rfl rfl rfl rfl f_X9_init ((t_sx hN).trans rfl) rfl rfl rfl rfl rfl ?_
  refine ev_loc f_X9_init (nx := 1) rfl rfl rfl rfl ?_
  refine ev_obj f_X9_init (nx := 4) rfl rfl (by omega) (by decide) rfl ?_
  refine ev_loc f_X9_init (nx := 5) rfl rfl rfl rfl ?_
  refine ev_ic f_X9_init (nx := 6) (v := 0) rfl (by decide) rfl ?_
  refine ev_putIG f_X9_init (nx := 9) rfl ((t_sx hN).trans rfl) rfl rfl rfl (hG.putI (Or.inl (by omega)) ((t_sx hN).trans rfl) (fun lo hi e => by have e : some ((0 : Int), (900 : Int)) = some (lo, hi) := e; cases e; exact ⟨by decide, by decide⟩) (fun _ => rfl)) (fun a103 ea103 hG => ?_)
  refine ev_loc f_X9_init (nx := 10) rfl rfl rfl rfl ?_
  refine ev_ic f_X9_init (nx := 11) (v := 3) rfl (by decide) rfl ?_
  refine ev_putIG f_X9_init (nx := 14) rfl ((t_sx hN).trans rfl) rfl rfl rfl (hG.putI (Or.inl (by omega)) ((t_sx hN).trans rfl) (fun lo hi e => by have e : (none : Option (Int × Int)) = some (lo, hi) := e; cases e) (fun h => absurd h (by decide))) (fun a104 ea104 hG => ?_)
  refine ev_loc f_X9_init (nx := 15) rfl rfl rfl rfl ?_
  refine ev_ic f_X9_init (nx := 16) (v := 0) rfl (by decide) rfl ?_
  refine ev_putIG f_X9_init (nx := 19) rfl ((t_sx hN).trans rfl) rfl rfl rfl (hG.putI (Or.inl (by omega)) ((t_sx hN).trans rfl) (fun lo hi e => by have e : some ((0 : Int), (900 : Int)) = some (lo, hi) := e; cases e; exact ⟨by decide, by decide⟩) (fun _ => rfl)) (fun a105 ea105 hG => ?_)
  refine ev_loc f_X9_init (nx := 20) rfl rfl rfl rfl ?_
  refine ev_ic f_X9_init (nx := 21) (v := 0) rfl (by decide) rfl ?_
  refine ev_putIG f_X9_init (nx := 24) rfl ((t_sx hN).trans rfl) rfl rfl rfl (hG.putI (Or.inl (by omega)) ((t_sx hN).trans rfl) (fun lo hi e => by have e : (none : Option (Int × Int)) = some (lo, hi) := e; cases e) (fun _ => rfl)) (fun a106 ea106 hG => ?_)
  refine ev_loc f_X9_init (nx := 25) rfl rfl rfl rfl ?_
  refine ev_lc f_X9_init (nx := 26) (v := 0) rfl (by decide) rfl ?_
  refine ev_putLG f_X9_init (nx := 29) rfl ((t_sx hN).trans rfl) rfl rfl rfl (hG.putL (Or.inl (by omega))) (fun b107 eb107 hG => ?_)
  refine ev_loc f_X9_init (nx := 30) rfl rfl rfl rfl ?_
  refine ev_alu f_X9_init (nx := 31) rfl rfl rfl rfl ?_
  refine ev_putRG f_X9_init (nx := 34) rfl ((t_sx hN).trans rfl) rfl rfl rfl rfl (hG.putR (Or.inl (by omega)) ((t_sx hN).trans rfl) (fun h8 h7 => Or.inl rfl)) (fun g108 e108 hG => ?_)
  refine ev_loc f_X9_init (nx := 35) rfl rfl rfl rfl ?_
  refine ev_ic f_X9_init (nx := 36) (v := 0) rfl (by decide) rfl ?_
  refine ev_putIG f_X9_init (nx := 39) rfl ((t_sx hN).trans rfl) rfl rfl rfl (hG.putI (Or.inl (by omega)) ((t_sx hN).trans rfl) (fun lo hi e => by have e : (none : Option (Int × Int)) = some (lo, hi) := e; cases e) (fun _ => rfl)) (fun a109 ea109 hG => ?_)
  refine ev_loc f_X9_init (nx := 40) rfl rfl rfl rfl ?_
  refine ev_ic f_X9_init (nx := 41) (v := 0) rfl (by decide) rfl ?_
  refine ev_putIG f_X9_init (nx := 44) rfl ((t_sx hN).trans rfl) rfl rfl rfl (hG.putI (Or.inl (by omega)) ((t_sx hN).trans rfl) (fun lo hi e => by have e : (none : Option (Int × Int)) = some (lo, hi) := e; cases e) (fun _ => rfl)) (fun a110 ea110 hG => ?_)
  refine ev_loc f_X9_init (nx := 45) rfl rfl rfl rfl ?_
  refine ev_ic f_X9_init (nx := 46) (v := 0) rfl (by decide) rfl ?_
  refine ev_putIG f_X9_init (nx := 49) rfl ((t_sx hN).trans rfl) rfl rfl rfl (hG.putI (Or.inl (by omega)) ((t_sx hN).trans rfl) (fun lo hi e => by have e : (none : Option (Int × Int)) = some (lo, hi) := e; cases e) (fun _ => rfl)) (fun a111 ea111 hG => ?_)
  refine ev_loc f_X9_init (nx := 50) rfl rfl rfl rfl ?_
  refine ev_ic f_X9_init (nx := 51) (v := -1) rfl (by decide) rfl ?_
  refine ev_putIG f_X9_init (nx := 54) rfl ((t_sx hN).trans rfl) rfl rfl rfl (hG.putI (Or.inl (by omega)) ((t_sx hN).trans rfl) (fun lo hi e => by have e : (none : Option (Int × Int)) = some (lo, hi) := e; cases e) (fun h => absurd h (by decide))) (fun a112 ea112 hG => ?_)
  refine ev_loc f_X9_init (nx := 55) rfl rfl rfl rfl ?_
  refine ev_loc f_X9_init (nx := 56) rfl rfl rfl rfl ?_
  refine ev_putRG f_X9_init (nx := 59) rfl ((t_sx hN).trans rfl) rfl rfl rfl rfl (hG.putR (Or.inl (by omega)) ((t_sx hN).trans rfl) (fun h8 h7 => absurd h7 (by decide))) (fun g113 e113 hG => ?_)
  refine ev_loc f_X9_init (nx := 60) rfl rfl rfl rfl ?_
  refine ev_loc f_X9_init (nx := 61) rfl rfl rfl rfl ?_
  refine ev_loc f_X9_init (nx := 62) rfl rfl rfl rfl ?_
  refine ev_alenv f_X9_init (nx := 63) (w := 900) rfl (t_sl (hI.wf.s rfl)) rfl (by decide) rfl ?_
  refine ev_mmR f_X9_init (nx := 66) (l := 0) (u := 900) rfl rfl rfl (by omega) rfl lx ux (by decide : (900:Int) ≤ (900:Int32).toInt) (by decide : (900:Int32).toInt ≤ (900:Int)) (by decide) (by decide) rfl (fun w114 l114 u114 => ?_)
  refine ev_putIG f_X9_init (nx := 69) rfl ((t_sx hN).trans rfl) rfl rfl rfl (hG.putI (Or.inl (by omega)) ((t_sx hN).trans rfl) (fun lo hi e => by have e : some ((0 : Int), (900 : Int)) = some (lo, hi) := e; cases e; exact ⟨l114, u114⟩) (fun h => absurd h (by decide))) (fun a115 ea115 hG => ?_)
  refine ev_loc f_X9_init (nx := 70) rfl rfl rfl rfl ?_
  have hI1 := hG.I hN hI hH (by omega) (fun s hs => absurd (t_lt hs) (by omega))
  have hTk : t_Tk (sh ++ ([.inl 5, .inl 8] : List (Nat ⊕ (Nat × Nat)))) g113 (N + 1) := ⟨(t_sx hN).trans rfl, (by rw [e113]; exact x_up2_at _ _ _ _)⟩
  have hG1 := hG
  have hX : t_X wl_step (sh ++ ([.inl 5, .inl 8] : List (Nat ⊕ (Nat × Nat)))) a115 b107 g113 a115 b107 g113 := t_X.rf
  refine ev_c0 f_X9_init (nx := 73) (r := []) rfl rfl rfl rfl rfl rfl rfl (x_Me.up (c_step (d := d) hI1 (N + 1) hTk) (by omega)) rfl hX rfl (fun gi1 gl1 gr1 hI2 hX1 _ => ?_)
  replace hTk := hTk.ext hX1.2
  have hN2 : (sh ++ ([.inl 5, .inl 8] : List (Nat ⊕ (Nat × Nat)))).length = N + 2 := by rw [List.length_append, hN]; rfl
  have hG := t_G.refl (N := N + 2) (r := N + 0) (gi0 := gi1) (gl0 := gl1) (gr0 := gr1) hN2 (fun ci j lo hi hk ht => hI2.b hk ht)
  rw [show (((sh ++ ([.inl 5, .inl 8] : List (Nat ⊕ (Nat × Nat)))), gi1, gl1, gr1) : x_G) = ((sh ++ ([.inl 5, .inl 8] : List (Nat ⊕ (Nat × Nat)))) ++ [], gi1, gl1, gr1) by rw [List.append_nil]]
  refine ev_retK0 f_X9_init rfl rfl rfl ?_
  refine ev_inV2 f_X11_river (nx := 37) (lo2 := [(0, .ref (N + 0)), (1, .ref (N + 1))]) rfl rfl rfl rfl f_X6_init (t_sl ((t_sx hN).trans rfl)) rfl rfl rfl rfl rfl ?_
  refine ev_loc f_X6_init (nx := 1) rfl rfl rfl rfl ?_
  refine ev_obj f_X6_init (nx := 4) rfl rfl (by omega) (by decide) rfl ?_
  refine ev_loc f_X6_init (nx := 5) rfl rfl rfl rfl ?_
  refine ev_newG f_X6_init (nx := 8) (c := 0) (ext' := [.inl 4]) rfl rfl rfl hN2 rfl rfl hG (fun a116 b116 g116 ea116 eb116 e116 hG => ?_)
  refine ev_alu f_X6_init (nx := 9) rfl rfl rfl rfl ?_
  refine ev_inV1 f_X6_init (nx := 12) (lo2 := [(0, .ref (N + 2 + 0))]) rfl rfl rfl rfl f_X5_init ((t_sx hN2).trans rfl) rfl rfl rfl rfl rfl ?_
  refine ev_loc f_X5_init (nx := 1) rfl rfl rfl rfl ?_
  refine ev_obj f_X5_init (nx := 4) rfl rfl (by omega) (by decide) rfl ?_
  refine ev_loc f_X5_init (nx := 5) rfl rfl rfl rfl ?_
  refine ev_ic f_X5_init (nx := 6) (v := 0) rfl (by decide) rfl ?_
  refine ev_putIG f_X5_init (nx := 9) rfl ((t_sx hN2).trans rfl) rfl rfl rfl (hG.putI (Or.inl (by omega)) ((t_sx hN2).trans rfl) (fun lo hi e => by have e : some ((0 : Int), (6 : Int)) = some (lo, hi) := e; cases e; exact ⟨by decide, by decide⟩) (fun _ => rfl)) (fun a117 ea117 hG => ?_)
  refine ev_loc f_X5_init (nx := 10) rfl rfl rfl rfl ?_
  refine ev_bp f_X5_init (nx := 12) (v := 6) rfl (by decide) rfl ?_
  refine ev_arrG f_X5_init (nx := 14) (c := 1) (m := 6) (ext' := [.inl 4, .inr (1, 6)]) rfl rfl (by decide) rfl (by decide) rfl hN2 rfl rfl hG (fun a118 b118 g118 ea118 eb118 e118 hG => ?_)
  refine ev_putRG f_X5_init (nx := 17) rfl ((t_sx hN2).trans rfl) rfl rfl rfl rfl (hG.putR (Or.inl (by omega)) ((t_sx hN2).trans rfl) (fun h8 h7 => absurd h8 (by decide))) (fun g119 e119 hG => ?_)
  refine ev_loc f_X5_init (nx := 18) rfl rfl rfl rfl ?_
  refine ev_bp f_X5_init (nx := 20) (v := 6) rfl (by decide) rfl ?_
  refine ev_arrG f_X5_init (nx := 22) (c := 2) (m := 6) (ext' := [.inl 4, .inr (1, 6), .inr (1, 6)]) rfl rfl (by decide) rfl (by decide) rfl hN2 rfl rfl hG (fun a120 b120 g120 ea120 eb120 e120 hG => ?_)
  refine ev_putRG f_X5_init (nx := 25) rfl ((t_sx hN2).trans rfl) rfl rfl rfl rfl (hG.putR (Or.inl (by omega)) ((t_sx hN2).trans rfl) (fun h8 h7 => absurd h8 (by decide))) (fun g121 e121 hG => ?_)
  refine ev_loc f_X5_init (nx := 26) rfl rfl rfl rfl ?_
  refine ev_ic f_X5_init (nx := 27) (v := 5) rfl (by decide) rfl ?_
  refine ev_putIG f_X5_init (nx := 30) rfl ((t_sx hN2).trans rfl) rfl rfl rfl (hG.putI (Or.inl (by omega)) ((t_sx hN2).trans rfl) (fun lo hi e => by have e : (none : Option (Int × Int)) = some (lo, hi) := e; cases e) (fun h => absurd h (by decide))) (fun a122 ea122 hG => ?_)
  refine ev_loc f_X5_init (nx := 31) rfl rfl rfl rfl ?_
  refine ev_ic f_X5_init (nx := 32) (v := 0) rfl (by decide) rfl ?_
  refine ev_putIG f_X5_init (nx := 35) rfl ((t_sx hN2).trans rfl) rfl rfl rfl (hG.putI (Or.inl (by omega)) ((t_sx hN2).trans rfl) (fun lo hi e => by have e : (none : Option (Int × Int)) = some (lo, hi) := e; cases e) (fun _ => rfl)) (fun a123 ea123 hG => ?_)
  refine ev_loc f_X5_init (nx := 36) rfl rfl rfl rfl ?_
  refine ev_ic f_X5_init (nx := 37) (v := 0) rfl (by decide) rfl ?_
  refine ev_putIG f_X5_init (nx := 40) rfl ((t_sx hN2).trans rfl) rfl rfl rfl (hG.putI (Or.inl (by omega)) ((t_sx hN2).trans rfl) (fun lo hi e => by have e : (none : Option (Int × Int)) = some (lo, hi) := e; cases e) (fun _ => rfl)) (fun a124 ea124 hG => ?_)
  refine ev_loc f_X5_init (nx := 41) rfl rfl rfl rfl ?_
  refine ev_ic f_X5_init (nx := 42) (v := 0) rfl (by decide) rfl ?_
  refine ev_putIG f_X5_init (nx := 45) rfl ((t_sx hN2).trans rfl) rfl rfl rfl (hG.putI (Or.inl (by omega)) ((t_sx hN2).trans rfl) (fun lo hi e => by have e : (none : Option (Int × Int)) = some (lo, hi) := e; cases e) (fun _ => rfl)) (fun a125 ea125 hG => ?_)
  refine ev_loc f_X5_init (nx := 46) rfl rfl rfl rfl ?_
  refine ev_newG f_X5_init (nx := 49) (c := 3) (ext' := [.inl 4, .inr (1, 6), .inr (1, 6), .inl 3]) rfl rfl rfl hN2 rfl rfl hG (fun a126 b126 g126 ea126 eb126 e126 hG => ?_)
  refine ev_alu f_X5_init (nx := 50) rfl rfl rfl rfl ?_
  refine ev_inV1 f_X5_init (nx := 53) (lo2 := [(0, .ref (N + 2 + 3))]) rfl rfl rfl rfl f_X4_init ((t_sx hN2).trans rfl) rfl rfl rfl rfl rfl ?_
  refine ev_loc f_X4_init (nx := 1) rfl rfl rfl rfl ?_
  refine ev_obj f_X4_init (nx := 4) rfl rfl (by omega) (by decide) rfl ?_
  refine ev_loc f_X4_init (nx := 5) rfl rfl rfl rfl ?_
  refine ev_ic f_X4_init (nx := 6) (v := 0) rfl (by decide) rfl ?_
  refine ev_putIG f_X4_init (nx := 9) rfl ((t_sx hN2).trans rfl) rfl rfl rfl (hG.putI (Or.inl (by omega)) ((t_sx hN2).trans rfl) (fun lo hi e => by have e : some ((0 : Int), (6 : Int)) = some (lo, hi) := e; cases e; exact ⟨by decide, by decide⟩) (fun _ => rfl)) (fun a127 ea127 hG => ?_)
  refine ev_loc f_X4_init (nx := 10) rfl rfl rfl rfl ?_
  refine ev_bp f_X4_init (nx := 12) (v := 6) rfl (by decide) rfl ?_
  refine ev_arrG f_X4_init (nx := 14) (c := 4) (m := 6) (ext' := [.inl 4, .inr (1, 6), .inr (1, 6), .inl 3, .inr (0, 6)]) rfl rfl (by decide) rfl (by decide) rfl hN2 rfl rfl hG (fun a128 b128 g128 ea128 eb128 e128 hG => ?_)
  refine ev_putRG f_X4_init (nx := 17) rfl ((t_sx hN2).trans rfl) rfl rfl rfl rfl (hG.putR (Or.inl (by omega)) ((t_sx hN2).trans rfl) (fun h8 h7 => absurd h8 (by decide))) (fun g129 e129 hG => ?_)
  refine ev_loc f_X4_init (nx := 18) rfl rfl rfl rfl ?_
  refine ev_bp f_X4_init (nx := 20) (v := 6) rfl (by decide) rfl ?_
  refine ev_arrG f_X4_init (nx := 22) (c := 5) (m := 6) (ext' := [.inl 4, .inr (1, 6), .inr (1, 6), .inl 3, .inr (0, 6), .inr (0, 6)]) rfl rfl (by decide) rfl (by decide) rfl hN2 rfl rfl hG (fun a130 b130 g130 ea130 eb130 e130 hG => ?_)
  refine ev_putRG f_X4_init (nx := 25) rfl ((t_sx hN2).trans rfl) rfl rfl rfl rfl (hG.putR (Or.inl (by omega)) ((t_sx hN2).trans rfl) (fun h8 h7 => absurd h8 (by decide))) (fun g131 e131 hG => ?_)
  refine ev_loc f_X4_init (nx := 26) rfl rfl rfl rfl ?_
  refine ev_bp f_X4_init (nx := 28) (v := 6) rfl (by decide) rfl ?_
  refine ev_arrG f_X4_init (nx := 30) (c := 6) (m := 6) (ext' := [.inl 4, .inr (1, 6), .inr (1, 6), .inl 3, .inr (0, 6), .inr (0, 6), .inr (0, 6)]) rfl rfl (by decide) rfl (by decide) rfl hN2 rfl rfl hG (fun a132 b132 g132 ea132 eb132 e132 hG => ?_)
  refine ev_putRG f_X4_init (nx := 33) rfl ((t_sx hN2).trans rfl) rfl rfl rfl rfl (hG.putR (Or.inl (by omega)) ((t_sx hN2).trans rfl) (fun h8 h7 => absurd h8 (by decide))) (fun g133 e133 hG => ?_)
  refine ev_loc f_X4_init (nx := 34) rfl rfl rfl rfl ?_
  refine ev_bp f_X4_init (nx := 36) (v := 6) rfl (by decide) rfl ?_
  refine ev_arrG f_X4_init (nx := 38) (c := 7) (m := 6) (ext' := [.inl 4, .inr (1, 6), .inr (1, 6), .inl 3, .inr (0, 6), .inr (0, 6), .inr (0, 6), .inr (0, 6)]) rfl rfl (by decide) rfl (by decide) rfl hN2 rfl rfl hG (fun a134 b134 g134 ea134 eb134 e134 hG => ?_)
  refine ev_putRG f_X4_init (nx := 41) rfl ((t_sx hN2).trans rfl) rfl rfl rfl rfl (hG.putR (Or.inl (by omega)) ((t_sx hN2).trans rfl) (fun h8 h7 => absurd h8 (by decide))) (fun g135 e135 hG => ?_)
  refine ev_loc f_X4_init (nx := 42) rfl rfl rfl rfl ?_
  refine ev_bp f_X4_init (nx := 44) (v := 6) rfl (by decide) rfl ?_
  refine ev_arrG f_X4_init (nx := 46) (c := 8) (m := 6) (ext' := [.inl 4, .inr (1, 6), .inr (1, 6), .inl 3, .inr (0, 6), .inr (0, 6), .inr (0, 6), .inr (0, 6), .inr (3, 6)]) rfl rfl (by decide) rfl (by decide) rfl hN2 rfl rfl hG (fun a136 b136 g136 ea136 eb136 e136 hG => ?_)
  refine ev_putRG f_X4_init (nx := 49) rfl ((t_sx hN2).trans rfl) rfl rfl rfl rfl (hG.putR (Or.inl (by omega)) ((t_sx hN2).trans rfl) (fun h8 h7 => absurd h8 (by decide))) (fun g137 e137 hG => ?_)
  refine ev_retK0 f_X4_init rfl rfl rfl ?_
  refine ev_putRG f_X5_init (nx := 56) rfl ((t_sx hN2).trans rfl) rfl rfl rfl rfl (hG.putR (Or.inl (by omega)) ((t_sx hN2).trans rfl) (fun h8 h7 => absurd h8 (by decide))) (fun g138 e138 hG => ?_)
  refine ev_loc f_X5_init (nx := 57) rfl rfl rfl rfl ?_
  refine ev_bp f_X5_init (nx := 59) (v := 6) rfl (by decide) rfl ?_
  refine ev_arrG f_X5_init (nx := 61) (c := 9) (m := 6) (ext' := [.inl 4, .inr (1, 6), .inr (1, 6), .inl 3, .inr (0, 6), .inr (0, 6), .inr (0, 6), .inr (0, 6), .inr (3, 6), .inr (0, 6)]) rfl rfl (by decide) rfl (by decide) rfl hN2 rfl rfl hG (fun a139 b139 g139 ea139 eb139 e139 hG => ?_)
  refine ev_putRG f_X5_init (nx := 64) rfl ((t_sx hN2).trans rfl) rfl rfl rfl rfl (hG.putR (Or.inl (by omega)) ((t_sx hN2).trans rfl) (fun h8 h7 => absurd h8 (by decide))) (fun g140 e140 hG => ?_)
  refine ev_loc f_X5_init (nx := 65) rfl rfl rfl rfl ?_
  refine ev_newG f_X5_init (nx := 68) (c := 10) (ext' := [.inl 4, .inr (1, 6), .inr (1, 6), .inl 3, .inr (0, 6), .inr (0, 6), .inr (0, 6), .inr (0, 6), .inr (3, 6), .inr (0, 6), .inl 3]) rfl rfl rfl hN2 rfl rfl hG (fun a141 b141 g141 ea141 eb141 e141 hG => ?_)
  refine ev_alu f_X5_init (nx := 69) rfl rfl rfl rfl ?_
  refine ev_inV1 f_X5_init (nx := 72) (lo2 := [(0, .ref (N + 2 + 10))]) rfl rfl rfl rfl f_X4_init ((t_sx hN2).trans rfl) rfl rfl rfl rfl rfl ?_
  refine ev_loc f_X4_init (nx := 1) rfl rfl rfl rfl ?_
  refine ev_obj f_X4_init (nx := 4) rfl rfl (by omega) (by decide) rfl ?_
  refine ev_loc f_X4_init (nx := 5) rfl rfl rfl rfl ?_
  refine ev_ic f_X4_init (nx := 6) (v := 0) rfl (by decide) rfl ?_
  refine ev_putIG f_X4_init (nx := 9) rfl ((t_sx hN2).trans rfl) rfl rfl rfl (hG.putI (Or.inl (by omega)) ((t_sx hN2).trans rfl) (fun lo hi e => by have e : some ((0 : Int), (6 : Int)) = some (lo, hi) := e; cases e; exact ⟨by decide, by decide⟩) (fun _ => rfl)) (fun a142 ea142 hG => ?_)
  refine ev_loc f_X4_init (nx := 10) rfl rfl rfl rfl ?_
  refine ev_bp f_X4_init (nx := 12) (v := 6) rfl (by decide) rfl ?_
  refine ev_arrG f_X4_init (nx := 14) (c := 11) (m := 6) (ext' := [.inl 4, .inr (1, 6), .inr (1, 6), .inl 3, .inr (0, 6), .inr (0, 6), .inr (0, 6), .inr (0, 6), .inr (3, 6), .inr (0, 6), .inl 3, .inr (0, 6)]) rfl rfl (by decide) rfl (by decide) rfl hN2 rfl rfl hG (fun a143 b143 g143 ea143 eb143 e143 hG => ?_)
  refine ev_putRG f_X4_init (nx := 17) rfl ((t_sx hN2).trans rfl) rfl rfl rfl rfl (hG.putR (Or.inl (by omega)) ((t_sx hN2).trans rfl) (fun h8 h7 => absurd h8 (by decide))) (fun g144 e144 hG => ?_)
  refine ev_loc f_X4_init (nx := 18) rfl rfl rfl rfl ?_
  refine ev_bp f_X4_init (nx := 20) (v := 6) rfl (by decide) rfl ?_
  refine ev_arrG f_X4_init (nx := 22) (c := 12) (m := 6) (ext' := [.inl 4, .inr (1, 6), .inr (1, 6), .inl 3, .inr (0, 6), .inr (0, 6), .inr (0, 6), .inr (0, 6), .inr (3, 6), .inr (0, 6), .inl 3, .inr (0, 6), .inr (0, 6)]) rfl rfl (by decide) rfl (by decide) rfl hN2 rfl rfl hG (fun a145 b145 g145 ea145 eb145 e145 hG => ?_)
  refine ev_putRG f_X4_init (nx := 25) rfl ((t_sx hN2).trans rfl) rfl rfl rfl rfl (hG.putR (Or.inl (by omega)) ((t_sx hN2).trans rfl) (fun h8 h7 => absurd h8 (by decide))) (fun g146 e146 hG => ?_)
  refine ev_loc f_X4_init (nx := 26) rfl rfl rfl rfl ?_
  refine ev_bp f_X4_init (nx := 28) (v := 6) rfl (by decide) rfl ?_
  refine ev_arrG f_X4_init (nx := 30) (c := 13) (m := 6) (ext' := [.inl 4, .inr (1, 6), .inr (1, 6), .inl 3, .inr (0, 6), .inr (0, 6), .inr (0, 6), .inr (0, 6), .inr (3, 6), .inr (0, 6), .inl 3, .inr (0, 6), .inr (0, 6), .inr (0, 6)]) rfl rfl (by decide) rfl (by decide) rfl hN2 rfl rfl hG (fun a147 b147 g147 ea147 eb147 e147 hG => ?_)
  refine ev_putRG f_X4_init (nx := 33) rfl ((t_sx hN2).trans rfl) rfl rfl rfl rfl (hG.putR (Or.inl (by omega)) ((t_sx hN2).trans rfl) (fun h8 h7 => absurd h8 (by decide))) (fun g148 e148 hG => ?_)
  refine ev_loc f_X4_init (nx := 34) rfl rfl rfl rfl ?_
  refine ev_bp f_X4_init (nx := 36) (v := 6) rfl (by decide) rfl ?_
  refine ev_arrG f_X4_init (nx := 38) (c := 14) (m := 6) (ext' := [.inl 4, .inr (1, 6), .inr (1, 6), .inl 3, .inr (0, 6), .inr (0, 6), .inr (0, 6), .inr (0, 6), .inr (3, 6), .inr (0, 6), .inl 3, .inr (0, 6), .inr (0, 6), .inr (0, 6), .inr (0, 6)]) rfl rfl (by decide) rfl (by decide) rfl hN2 rfl rfl hG (fun a149 b149 g149 ea149 eb149 e149 hG => ?_)
  refine ev_putRG f_X4_init (nx := 41) rfl ((t_sx hN2).trans rfl) rfl rfl rfl rfl (hG.putR (Or.inl (by omega)) ((t_sx hN2).trans rfl) (fun h8 h7 => absurd h8 (by decide))) (fun g150 e150 hG => ?_)
  refine ev_loc f_X4_init (nx := 42) rfl rfl rfl rfl ?_
  refine ev_bp f_X4_init (nx := 44) (v := 6) rfl (by decide) rfl ?_
  refine ev_arrG f_X4_init (nx := 46) (c := 15) (m := 6) (ext' := [.inl 4, .inr (1, 6), .inr (1, 6), .inl 3, .inr (0, 6), .inr (0, 6), .inr (0, 6), .inr (0, 6), .inr (3, 6), .inr (0, 6), .inl 3, .inr (0, 6), .inr (0, 6), .inr (0, 6), .inr (0, 6), .inr (3, 6)]) rfl rfl (by decide) rfl (by decide) rfl hN2 rfl rfl hG (fun a151 b151 g151 ea151 eb151 e151 hG => ?_)
  refine ev_putRG f_X4_init (nx := 49) rfl ((t_sx hN2).trans rfl) rfl rfl rfl rfl (hG.putR (Or.inl (by omega)) ((t_sx hN2).trans rfl) (fun h8 h7 => absurd h8 (by decide))) (fun g152 e152 hG => ?_)
  refine ev_retK0 f_X4_init rfl rfl rfl ?_
  refine ev_putRG f_X5_init (nx := 75) rfl ((t_sx hN2).trans rfl) rfl rfl rfl rfl (hG.putR (Or.inl (by omega)) ((t_sx hN2).trans rfl) (fun h8 h7 => absurd h8 (by decide))) (fun g153 e153 hG => ?_)
  refine ev_retK0 f_X5_init rfl rfl rfl ?_
  refine ev_putRG f_X6_init (nx := 15) rfl (t_sl ((t_sx hN).trans rfl)) rfl rfl rfl rfl (hG.putR (Or.inr rfl) (t_sl ((t_sx hN).trans rfl)) (fun h8 h7 => absurd h8 (by decide))) (fun g154 e154 hG => ?_)
  refine ev_loc f_X6_init (nx := 16) rfl rfl rfl rfl ?_
  refine ev_bp f_X6_init (nx := 18) (v := 6) rfl (by decide) rfl ?_
  refine ev_arrG f_X6_init (nx := 20) (c := 16) (m := 6) (ext' := [.inl 4, .inr (1, 6), .inr (1, 6), .inl 3, .inr (0, 6), .inr (0, 6), .inr (0, 6), .inr (0, 6), .inr (3, 6), .inr (0, 6), .inl 3, .inr (0, 6), .inr (0, 6), .inr (0, 6), .inr (0, 6), .inr (3, 6), .inr (1, 6)]) rfl rfl (by decide) rfl (by decide) rfl hN2 rfl rfl hG (fun a155 b155 g155 ea155 eb155 e155 hG => ?_)
  refine ev_putRG f_X6_init (nx := 23) rfl (t_sl ((t_sx hN).trans rfl)) rfl rfl rfl rfl (hG.putR (Or.inr rfl) (t_sl ((t_sx hN).trans rfl)) (fun h8 h7 => absurd h8 (by decide))) (fun g156 e156 hG => ?_)
  refine ev_loc f_X6_init (nx := 24) rfl rfl rfl rfl ?_
  refine ev_bp f_X6_init (nx := 26) (v := 18) rfl (by decide) rfl ?_
  refine ev_arrG f_X6_init (nx := 28) (c := 17) (m := 18) (ext' := [.inl 4, .inr (1, 6), .inr (1, 6), .inl 3, .inr (0, 6), .inr (0, 6), .inr (0, 6), .inr (0, 6), .inr (3, 6), .inr (0, 6), .inl 3, .inr (0, 6), .inr (0, 6), .inr (0, 6), .inr (0, 6), .inr (3, 6), .inr (1, 6), .inr (1, 18)]) rfl rfl (by decide) rfl (by decide) rfl hN2 rfl rfl hG (fun a157 b157 g157 ea157 eb157 e157 hG => ?_)
  refine ev_putRG f_X6_init (nx := 31) rfl (t_sl ((t_sx hN).trans rfl)) rfl rfl rfl rfl (hG.putR (Or.inr rfl) (t_sl ((t_sx hN).trans rfl)) (fun h8 h7 => absurd h8 (by decide))) (fun g158 e158 hG => ?_)
  refine ev_loc f_X6_init (nx := 32) rfl rfl rfl rfl ?_
  refine ev_ic f_X6_init (nx := 33) (v := 0) rfl (by decide) rfl ?_
  refine ev_putIG f_X6_init (nx := 36) rfl (t_sl ((t_sx hN).trans rfl)) rfl rfl rfl (hG.putI (Or.inr rfl) (t_sl ((t_sx hN).trans rfl)) (fun lo hi e => by have e : some ((0 : Int), (18 : Int)) = some (lo, hi) := e; cases e; exact ⟨by decide, by decide⟩) (fun _ => rfl)) (fun a159 ea159 hG => ?_)
  refine ev_loc f_X6_init (nx := 37) rfl rfl rfl rfl ?_
  refine ev_ic f_X6_init (nx := 38) (v := 0) rfl (by decide) rfl ?_
  refine ev_putZG f_X6_init (nx := 41) rfl (t_sl ((t_sx hN).trans rfl)) rfl rfl (Or.inl rfl) rfl (hG.putI (Or.inr rfl) (t_sl ((t_sx hN).trans rfl)) (fun lo hi e => by have e : (none : Option (Int × Int)) = some (lo, hi) := e; cases e) (fun _ => rfl)) (fun a160 ea160 hG => ?_)
  refine ev_loc f_X6_init (nx := 42) rfl rfl rfl rfl ?_
  refine ev_ic f_X6_init (nx := 43) (v := 0) rfl (by decide) rfl ?_
  refine ev_putZG f_X6_init (nx := 46) rfl (t_sl ((t_sx hN).trans rfl)) rfl rfl (Or.inl rfl) rfl (hG.putI (Or.inr rfl) (t_sl ((t_sx hN).trans rfl)) (fun lo hi e => by have e : (none : Option (Int × Int)) = some (lo, hi) := e; cases e) (fun _ => rfl)) (fun a161 ea161 hG => ?_)
  refine ev_loc f_X6_init (nx := 47) rfl rfl rfl rfl ?_
  refine ev_ic f_X6_init (nx := 48) (v := 0) rfl (by decide) rfl ?_
  refine ev_putZG f_X6_init (nx := 51) rfl (t_sl ((t_sx hN).trans rfl)) rfl rfl (Or.inl rfl) rfl (hG.putI (Or.inr rfl) (t_sl ((t_sx hN).trans rfl)) (fun lo hi e => by have e : (none : Option (Int × Int)) = some (lo, hi) := e; cases e) (fun _ => rfl)) (fun a162 ea162 hG => ?_)
  refine ev_loc f_X6_init (nx := 52) rfl rfl rfl rfl ?_
  refine ev_loc f_X6_init (nx := 53) rfl rfl rfl rfl ?_
  refine ev_putRG f_X6_init (nx := 56) rfl (t_sl ((t_sx hN).trans rfl)) rfl rfl rfl rfl (hG.putR (Or.inr rfl) (t_sl ((t_sx hN).trans rfl)) (fun h8 h7 => absurd h8 (by decide))) (fun g163 e163 hG => ?_)
  refine ev_retK0 f_X6_init rfl rfl rfl ?_
  refine ev_loc f_X11_river (nx := 38) (lo' := [(2, .ref (N + 0)), (0, .ref 0), (1, .int ar1)]) rfl rfl rfl rfl ?_
  have hI3 := hG.I hN2 hI2 (t_H_ext hH (t_he rfl)) (by omega) (fun s hs => Or.inl (by rw [(t_sx hN).trans rfl] at hs; cases hs; rfl))
  have hR : t_RR ((sh ++ ([.inl 5, .inl 8] : List (Nat ⊕ (Nat × Nat)))) ++ [.inl 4, .inr (1, 6), .inr (1, 6), .inl 3, .inr (0, 6), .inr (0, 6), .inr (0, 6), .inr (0, 6), .inr (3, 6), .inr (0, 6), .inl 3, .inr (0, 6), .inr (0, 6), .inr (0, 6), .inr (0, 6), .inr (3, 6), .inr (1, 6), .inr (1, 18)]) g163 (N + 0) := ⟨t_sl ((t_sx hN).trans rfl), ⟨N + 1, (by rw [e163]; exact x_up2_at _ _ _ _), t_sl ((t_sx hN).trans rfl), (congrFun (hG.1 (N + 1) (by omega) (by omega)).2.2 0).trans hTk.2⟩, ⟨_, (by rw [e163, x_up2_off (Or.inr (by decide)), e158, x_up2_off (Or.inr (by decide)), e157, x_clr_ne (by omega), e156, x_up2_off (Or.inr (by decide)), e155, x_clr_ne (by omega), e154]; exact x_up2_at _ _ _ _), ⟨(t_sx hN2).trans rfl, ⟨_, (by rw [e163, x_up2_off (Or.inl (by omega)), e158, x_up2_off (Or.inl (by omega)), e157, x_clr_ne (by omega), e156, x_up2_off (Or.inl (by omega)), e155, x_clr_ne (by omega), e154, x_up2_off (Or.inl (by omega)), e153, x_up2_off (Or.inr (by decide)), e152, x_up2_off (Or.inl (by omega)), e151, x_clr_ne (by omega), e150, x_up2_off (Or.inl (by omega)), e149, x_clr_ne (by omega), e148, x_up2_off (Or.inl (by omega)), e147, x_clr_ne (by omega), e146, x_up2_off (Or.inl (by omega)), e145, x_clr_ne (by omega), e144, x_up2_off (Or.inl (by omega)), e143, x_clr_ne (by omega), e141, x_clr_ne (by omega), e140, x_up2_off (Or.inr (by decide)), e139, x_clr_ne (by omega), e138, x_up2_off (Or.inr (by decide)), e137, x_up2_off (Or.inl (by omega)), e136, x_clr_ne (by omega), e135, x_up2_off (Or.inl (by omega)), e134, x_clr_ne (by omega), e133, x_up2_off (Or.inl (by omega)), e132, x_clr_ne (by omega), e131, x_up2_off (Or.inl (by omega)), e130, x_clr_ne (by omega), e129, x_up2_off (Or.inl (by omega)), e128, x_clr_ne (by omega), e126, x_clr_ne (by omega), e121, x_up2_off (Or.inr (by decide)), e120, x_clr_ne (by omega), e119]; exact x_up2_at _ _ _ _), (t_sx hN2).trans rfl, Or.inr (by omega)⟩, ⟨_, (by rw [e163, x_up2_off (Or.inl (by omega)), e158, x_up2_off (Or.inl (by omega)), e157, x_clr_ne (by omega), e156, x_up2_off (Or.inl (by omega)), e155, x_clr_ne (by omega), e154, x_up2_off (Or.inl (by omega)), e153, x_up2_off (Or.inr (by decide)), e152, x_up2_off (Or.inl (by omega)), e151, x_clr_ne (by omega), e150, x_up2_off (Or.inl (by omega)), e149, x_clr_ne (by omega), e148, x_up2_off (Or.inl (by omega)), e147, x_clr_ne (by omega), e146, x_up2_off (Or.inl (by omega)), e145, x_clr_ne (by omega), e144, x_up2_off (Or.inl (by omega)), e143, x_clr_ne (by omega), e141, x_clr_ne (by omega), e140, x_up2_off (Or.inr (by decide)), e139, x_clr_ne (by omega), e138, x_up2_off (Or.inr (by decide)), e137, x_up2_off (Or.inl (by omega)), e136, x_clr_ne (by omega), e135, x_up2_off (Or.inl (by omega)), e134, x_clr_ne (by omega), e133, x_up2_off (Or.inl (by omega)), e132, x_clr_ne (by omega), e131, x_up2_off (Or.inl (by omega)), e130, x_clr_ne (by omega), e129, x_up2_off (Or.inl (by omega)), e128, x_clr_ne (by omega), e126, x_clr_ne (by omega), e121]; exact x_up2_at _ _ _ _), (t_sx hN2).trans rfl, Or.inr (by omega)⟩, ⟨_, (by rw [e163, x_up2_off (Or.inl (by omega)), e158, x_up2_off (Or.inl (by omega)), e157, x_clr_ne (by omega), e156, x_up2_off (Or.inl (by omega)), e155, x_clr_ne (by omega), e154, x_up2_off (Or.inl (by omega)), e153, x_up2_off (Or.inr (by decide)), e152, x_up2_off (Or.inl (by omega)), e151, x_clr_ne (by omega), e150, x_up2_off (Or.inl (by omega)), e149, x_clr_ne (by omega), e148, x_up2_off (Or.inl (by omega)), e147, x_clr_ne (by omega), e146, x_up2_off (Or.inl (by omega)), e145, x_clr_ne (by omega), e144, x_up2_off (Or.inl (by omega)), e143, x_clr_ne (by omega), e141, x_clr_ne (by omega), e140]; exact x_up2_at _ _ _ _), (t_sx hN2).trans rfl, Or.inr (by omega)⟩, ⟨_, (by rw [e163, x_up2_off (Or.inl (by omega)), e158, x_up2_off (Or.inl (by omega)), e157, x_clr_ne (by omega), e156, x_up2_off (Or.inl (by omega)), e155, x_clr_ne (by omega), e154, x_up2_off (Or.inl (by omega)), e153, x_up2_off (Or.inr (by decide)), e152, x_up2_off (Or.inl (by omega)), e151, x_clr_ne (by omega), e150, x_up2_off (Or.inl (by omega)), e149, x_clr_ne (by omega), e148, x_up2_off (Or.inl (by omega)), e147, x_clr_ne (by omega), e146, x_up2_off (Or.inl (by omega)), e145, x_clr_ne (by omega), e144, x_up2_off (Or.inl (by omega)), e143, x_clr_ne (by omega), e141, x_clr_ne (by omega), e140, x_up2_off (Or.inr (by decide)), e139, x_clr_ne (by omega), e138]; exact x_up2_at _ _ _ _), ⟨(t_sx hN2).trans rfl, ⟨_, (by rw [e163, x_up2_off (Or.inl (by omega)), e158, x_up2_off (Or.inl (by omega)), e157, x_clr_ne (by omega), e156, x_up2_off (Or.inl (by omega)), e155, x_clr_ne (by omega), e154, x_up2_off (Or.inl (by omega)), e153, x_up2_off (Or.inl (by omega)), e152, x_up2_off (Or.inl (by omega)), e151, x_clr_ne (by omega), e150, x_up2_off (Or.inl (by omega)), e149, x_clr_ne (by omega), e148, x_up2_off (Or.inl (by omega)), e147, x_clr_ne (by omega), e146, x_up2_off (Or.inl (by omega)), e145, x_clr_ne (by omega), e144, x_up2_off (Or.inl (by omega)), e143, x_clr_ne (by omega), e141, x_clr_ne (by omega), e140, x_up2_off (Or.inl (by omega)), e139, x_clr_ne (by omega), e138, x_up2_off (Or.inl (by omega)), e137, x_up2_off (Or.inr (by decide)), e136, x_clr_ne (by omega), e135, x_up2_off (Or.inr (by decide)), e134, x_clr_ne (by omega), e133, x_up2_off (Or.inr (by decide)), e132, x_clr_ne (by omega), e131, x_up2_off (Or.inr (by decide)), e130, x_clr_ne (by omega), e129]; exact x_up2_at _ _ _ _), (t_sx hN2).trans rfl, Or.inr (by omega)⟩, ⟨_, (by rw [e163, x_up2_off (Or.inl (by omega)), e158, x_up2_off (Or.inl (by omega)), e157, x_clr_ne (by omega), e156, x_up2_off (Or.inl (by omega)), e155, x_clr_ne (by omega), e154, x_up2_off (Or.inl (by omega)), e153, x_up2_off (Or.inl (by omega)), e152, x_up2_off (Or.inl (by omega)), e151, x_clr_ne (by omega), e150, x_up2_off (Or.inl (by omega)), e149, x_clr_ne (by omega), e148, x_up2_off (Or.inl (by omega)), e147, x_clr_ne (by omega), e146, x_up2_off (Or.inl (by omega)), e145, x_clr_ne (by omega), e144, x_up2_off (Or.inl (by omega)), e143, x_clr_ne (by omega), e141, x_clr_ne (by omega), e140, x_up2_off (Or.inl (by omega)), e139, x_clr_ne (by omega), e138, x_up2_off (Or.inl (by omega)), e137, x_up2_off (Or.inr (by decide)), e136, x_clr_ne (by omega), e135, x_up2_off (Or.inr (by decide)), e134, x_clr_ne (by omega), e133, x_up2_off (Or.inr (by decide)), e132, x_clr_ne (by omega), e131]; exact x_up2_at _ _ _ _), (t_sx hN2).trans rfl, Or.inr (by omega)⟩, ⟨_, (by rw [e163, x_up2_off (Or.inl (by omega)), e158, x_up2_off (Or.inl (by omega)), e157, x_clr_ne (by omega), e156, x_up2_off (Or.inl (by omega)), e155, x_clr_ne (by omega), e154, x_up2_off (Or.inl (by omega)), e153, x_up2_off (Or.inl (by omega)), e152, x_up2_off (Or.inl (by omega)), e151, x_clr_ne (by omega), e150, x_up2_off (Or.inl (by omega)), e149, x_clr_ne (by omega), e148, x_up2_off (Or.inl (by omega)), e147, x_clr_ne (by omega), e146, x_up2_off (Or.inl (by omega)), e145, x_clr_ne (by omega), e144, x_up2_off (Or.inl (by omega)), e143, x_clr_ne (by omega), e141, x_clr_ne (by omega), e140, x_up2_off (Or.inl (by omega)), e139, x_clr_ne (by omega), e138, x_up2_off (Or.inl (by omega)), e137, x_up2_off (Or.inr (by decide)), e136, x_clr_ne (by omega), e135, x_up2_off (Or.inr (by decide)), e134, x_clr_ne (by omega), e133]; exact x_up2_at _ _ _ _), (t_sx hN2).trans rfl, Or.inr (by omega)⟩, ⟨_, (by rw [e163, x_up2_off (Or.inl (by omega)), e158, x_up2_off (Or.inl (by omega)), e157, x_clr_ne (by omega), e156, x_up2_off (Or.inl (by omega)), e155, x_clr_ne (by omega), e154, x_up2_off (Or.inl (by omega)), e153, x_up2_off (Or.inl (by omega)), e152, x_up2_off (Or.inl (by omega)), e151, x_clr_ne (by omega), e150, x_up2_off (Or.inl (by omega)), e149, x_clr_ne (by omega), e148, x_up2_off (Or.inl (by omega)), e147, x_clr_ne (by omega), e146, x_up2_off (Or.inl (by omega)), e145, x_clr_ne (by omega), e144, x_up2_off (Or.inl (by omega)), e143, x_clr_ne (by omega), e141, x_clr_ne (by omega), e140, x_up2_off (Or.inl (by omega)), e139, x_clr_ne (by omega), e138, x_up2_off (Or.inl (by omega)), e137, x_up2_off (Or.inr (by decide)), e136, x_clr_ne (by omega), e135]; exact x_up2_at _ _ _ _), (t_sx hN2).trans rfl, Or.inr (by omega)⟩, ⟨_, (by rw [e163, x_up2_off (Or.inl (by omega)), e158, x_up2_off (Or.inl (by omega)), e157, x_clr_ne (by omega), e156, x_up2_off (Or.inl (by omega)), e155, x_clr_ne (by omega), e154, x_up2_off (Or.inl (by omega)), e153, x_up2_off (Or.inl (by omega)), e152, x_up2_off (Or.inl (by omega)), e151, x_clr_ne (by omega), e150, x_up2_off (Or.inl (by omega)), e149, x_clr_ne (by omega), e148, x_up2_off (Or.inl (by omega)), e147, x_clr_ne (by omega), e146, x_up2_off (Or.inl (by omega)), e145, x_clr_ne (by omega), e144, x_up2_off (Or.inl (by omega)), e143, x_clr_ne (by omega), e141, x_clr_ne (by omega), e140, x_up2_off (Or.inl (by omega)), e139, x_clr_ne (by omega), e138, x_up2_off (Or.inl (by omega)), e137]; exact x_up2_at _ _ _ _), (t_sx hN2).trans rfl, Or.inr (by omega)⟩⟩⟩, ⟨_, (by rw [e163, x_up2_off (Or.inl (by omega)), e158, x_up2_off (Or.inl (by omega)), e157, x_clr_ne (by omega), e156, x_up2_off (Or.inl (by omega)), e155, x_clr_ne (by omega), e154, x_up2_off (Or.inl (by omega)), e153]; exact x_up2_at _ _ _ _), ⟨(t_sx hN2).trans rfl, ⟨_, (by rw [e163, x_up2_off (Or.inl (by omega)), e158, x_up2_off (Or.inl (by omega)), e157, x_clr_ne (by omega), e156, x_up2_off (Or.inl (by omega)), e155, x_clr_ne (by omega), e154, x_up2_off (Or.inl (by omega)), e153, x_up2_off (Or.inl (by omega)), e152, x_up2_off (Or.inr (by decide)), e151, x_clr_ne (by omega), e150, x_up2_off (Or.inr (by decide)), e149, x_clr_ne (by omega), e148, x_up2_off (Or.inr (by decide)), e147, x_clr_ne (by omega), e146, x_up2_off (Or.inr (by decide)), e145, x_clr_ne (by omega), e144]; exact x_up2_at _ _ _ _), (t_sx hN2).trans rfl, Or.inr (by omega)⟩, ⟨_, (by rw [e163, x_up2_off (Or.inl (by omega)), e158, x_up2_off (Or.inl (by omega)), e157, x_clr_ne (by omega), e156, x_up2_off (Or.inl (by omega)), e155, x_clr_ne (by omega), e154, x_up2_off (Or.inl (by omega)), e153, x_up2_off (Or.inl (by omega)), e152, x_up2_off (Or.inr (by decide)), e151, x_clr_ne (by omega), e150, x_up2_off (Or.inr (by decide)), e149, x_clr_ne (by omega), e148, x_up2_off (Or.inr (by decide)), e147, x_clr_ne (by omega), e146]; exact x_up2_at _ _ _ _), (t_sx hN2).trans rfl, Or.inr (by omega)⟩, ⟨_, (by rw [e163, x_up2_off (Or.inl (by omega)), e158, x_up2_off (Or.inl (by omega)), e157, x_clr_ne (by omega), e156, x_up2_off (Or.inl (by omega)), e155, x_clr_ne (by omega), e154, x_up2_off (Or.inl (by omega)), e153, x_up2_off (Or.inl (by omega)), e152, x_up2_off (Or.inr (by decide)), e151, x_clr_ne (by omega), e150, x_up2_off (Or.inr (by decide)), e149, x_clr_ne (by omega), e148]; exact x_up2_at _ _ _ _), (t_sx hN2).trans rfl, Or.inr (by omega)⟩, ⟨_, (by rw [e163, x_up2_off (Or.inl (by omega)), e158, x_up2_off (Or.inl (by omega)), e157, x_clr_ne (by omega), e156, x_up2_off (Or.inl (by omega)), e155, x_clr_ne (by omega), e154, x_up2_off (Or.inl (by omega)), e153, x_up2_off (Or.inl (by omega)), e152, x_up2_off (Or.inr (by decide)), e151, x_clr_ne (by omega), e150]; exact x_up2_at _ _ _ _), (t_sx hN2).trans rfl, Or.inr (by omega)⟩, ⟨_, (by rw [e163, x_up2_off (Or.inl (by omega)), e158, x_up2_off (Or.inl (by omega)), e157, x_clr_ne (by omega), e156, x_up2_off (Or.inl (by omega)), e155, x_clr_ne (by omega), e154, x_up2_off (Or.inl (by omega)), e153, x_up2_off (Or.inl (by omega)), e152]; exact x_up2_at _ _ _ _), (t_sx hN2).trans rfl, Or.inr (by omega)⟩⟩⟩⟩⟩, ⟨_, (by rw [e163, x_up2_off (Or.inr (by decide)), e158, x_up2_off (Or.inr (by decide)), e157, x_clr_ne (by omega), e156]; exact x_up2_at _ _ _ _), (t_sx hN2).trans rfl, Or.inr (by omega)⟩, ⟨_, (by rw [e163, x_up2_off (Or.inr (by decide)), e158]; exact x_up2_at _ _ _ _), (t_sx hN2).trans rfl, Or.inr (by omega)⟩⟩
  refine ev_sub (lo := [(0, .ref 0), (1, .int ar1), (2, .ref (N + 0))]) rfl (t_sc rfl (t_sc rfl (t_sc rfl t_sn))) ?_
  have hsh : ((sh ++ ([.inl 5, .inl 8] : List (Nat ⊕ (Nat × Nat)))) ++ [.inl 4, .inr (1, 6), .inr (1, 6), .inl 3, .inr (0, 6), .inr (0, 6), .inr (0, 6), .inr (0, 6), .inr (3, 6), .inr (0, 6), .inl 3, .inr (0, 6), .inr (0, 6), .inr (0, 6), .inr (0, 6), .inr (3, 6), .inr (1, 6), .inr (1, 18)]) = sh ++ [.inl 5, .inl 8, .inl 4, .inr (1, 6), .inr (1, 6), .inl 3, .inr (0, 6), .inr (0, 6), .inr (0, 6), .inr (0, 6), .inr (3, 6), .inr (0, 6), .inl 3, .inr (0, 6), .inr (0, 6), .inr (0, 6), .inr (0, 6), .inr (3, 6), .inr (1, 6), .inr (1, 18)] := by rw [List.append_assoc]; rfl
  refine x_Ev.mono (x_Ev.up (c_f_t_river (d := d) hI3 ar1 (N + 0) hR) (by omega)) ?_
  rintro v G' ⟨g1, g2, g3, rfl, k1, k2, x, rfl, -, -, k3⟩
  refine ⟨[.inl 5, .inl 8, .inl 4, .inr (1, 6), .inr (1, 6), .inl 3, .inr (0, 6), .inr (0, 6), .inr (0, 6), .inr (0, 6), .inr (3, 6), .inr (0, 6), .inl 3, .inr (0, 6), .inr (0, 6), .inr (0, 6), .inr (0, 6), .inr (3, 6), .inr (1, 6), .inr (1, 18)], g1, g2, g3, by rw [hsh], by rw [← hsh]; exact k1, t_H_ext hH (t_he rfl), fun k j hk hn => ?_, Nat.le_of_ble_eq_true rfl, ?_, x, rfl, fun _ => k3, fun hh => absurd hin hh⟩
  · have f1 := k2.1 k j (by rw [t_cdlo hk]; exact (t_in_app hn).1)
    have f2 := hG.1 k (by omega) (by omega)
    have f3 := hX1.1 k j (by rw [t_cdlo hk]; exact t_inhi rfl hk)
    have f4 := hG1.1 k (by omega) (by omega)
    exact ⟨f1.1.trans ((congrFun f2.1 j).trans (f3.1.trans (congrFun f4.1 j))), f1.2.1.trans ((congrFun f2.2.1 j).trans (f3.2.1.trans (congrFun f4.2.1 j))), f1.2.2.trans ((congrFun f2.2.2 j).trans (f3.2.2.trans (congrFun f4.2.2 j)))⟩
  · decide
noncomputable def wl_f_t_rules : List (Nat × Nat) := [(0, 0), (0, 5), (0, 7), (0, 8), (0, 9), (116, 0), (116, 3), (117, 2), (118, 2), (118, 3), (118, 4), (118, 5), (118, 6), (118, 7), (118, 8), (118, 9), (118, 10), (118, 11), (130, 9999)]
noncomputable def Q_f_t_rules (gi : Nat → Nat → Int32) (gl : Nat → Nat → Int64) (gr : Nat → Nat → Value) (ar1 : Int32) (ar2 : Nat) : Int32 → (Nat → Nat → Int32) → (Nat → Nat → Int64) → (Nat → Nat → Value) → Prop := fun (v : Int32) (gi2 : Nat → Nat → Int32) (gl2 : Nat → Nat → Int64) (gr2 : Nat → Nat → Value) => (v.toInt = -1 → (gi2 0 0).toInt = 9) ∧ (v.toInt ≠ -1 → (gi2 0 0).toInt = 0)
theorem c_f_t_rules {X : x_Ext} {d : Nat} {sh : List (Nat ⊕ (Nat × Nat))} {gi : Nat → Nat → Int32} {gl : Nat → Nat → Int64} {gr : Nat → Nat → Value} (hI : t_I sh gi gr) (ar1 : Int32) (ar2 : Nat) (p_a2 : t_RL sh gr ar2) : x_Ev X (d + 66) n_X11_rules 53 [(0, .ref 0), (1, .int ar1), (2, .ref ar2)] [] (sh, gi, gl, gr) (t_PI wl_f_t_rules sh gi gl gr (-1) 12 (Q_f_t_rules gi gl gr ar1 ar2)) := by
  have hX : t_X wl_f_t_rules sh gi gl gr gi gl gr := t_X.rf
  refine ev_loc f_X11_rules (nx := 54) rfl rfl rfl rfl ?_
  refine ev_cI f_X11_rules (nx := 57) (r := []) rfl rfl rfl rfl rfl rfl rfl (c_rl_readAll hI (ar2) p_a2) rfl hX rfl (fun w2 gi2 gl2 gr2 l2 u2 hI hX hC2 => ?_)
  replace p_a2 := p_a2.ext hC2.2
  refine ev_loc f_X11_rules (nx := 58) (lo' := [(3, .int w2), (0, .ref 0), (1, .int ar1), (2, .ref ar2)]) rfl rfl rfl rfl ?_
  refine ev_loc f_X11_rules (nx := 59) rfl rfl rfl rfl ?_
  refine ev_loc f_X11_rules (nx := 60) rfl rfl rfl rfl ?_
  obtain ⟨a3, e3, p3⟩ := p_a2.2.1
  refine ev_getR f_X11_rules (nx := 63) rfl p_a2.1 rfl rfl e3 rfl rfl ?_
  refine ev_inV2 f_X11_rules (nx := 66) (lo2 := [(0, .ref 0), (1, .ref a3)]) rfl rfl rfl rfl f_X11_endText (hI.wf.s rfl) rfl rfl rfl rfl rfl ?_
  refine ev_loc f_X11_endText (nx := 1) rfl rfl rfl rfl ?_
  refine ev_ic f_X11_endText (nx := 2) (v := 0) rfl (by decide) rfl ?_
  refine ev_putIT f_X11_endText (nx := 5) rfl (hI.wf.s rfl) rfl rfl rfl (hI.putB (hI.wf.s rfl) rfl rfl (by decide : (0:Int) ≤ (0:Int32).toInt) (by decide) (by decide : (0:Int32).toInt ≤ (0:Int)) (by decide)) (hX.upI rfl) (fun g4 e4 hI hX => ?_)
  refine ev_loc f_X11_endText (nx := 6) rfl rfl rfl rfl ?_
  refine ev_loc f_X11_endText (nx := 7) rfl rfl rfl rfl ?_
  refine ev_getI f_X11_endText (nx := 10) rfl p3.1 rfl rfl rfl ?_
  refine ev_putIT f_X11_endText (nx := 13) rfl (hI.wf.s rfl) rfl rfl rfl (hI.put0 (hI.wf.s rfl) rfl rfl) (hX.upI rfl) (fun g5 e5 hI hX => ?_)
  refine ev_loc f_X11_endText (nx := 14) rfl rfl rfl rfl ?_
  refine ev_loc f_X11_endText (nx := 15) rfl rfl rfl rfl ?_
  refine ev_getI f_X11_endText (nx := 18) rfl p3.1 rfl rfl rfl ?_
  refine ev_putIT f_X11_endText (nx := 21) rfl (hI.wf.s rfl) rfl rfl rfl (hI.put0 (hI.wf.s rfl) rfl rfl) (hX.upI rfl) (fun g6 e6 hI hX => ?_)
  refine ev_retK0 f_X11_endText rfl rfl rfl ?_
  refine ev_loc f_X11_rules (nx := 67) rfl rfl rfl rfl ?_
  refine ev_if f_X11_rules (t1 := 70) (t2 := 77) rfl rfl rfl (fun h7 => ?_) (fun h7 => ?_)
  · have u8 : w2.toInt ≤ 0 := t_equ h7 (by decide : (0:Int32).toInt ≤ (0:Int))
    refine ev_loc f_X11_rules (nx := 71) rfl rfl rfl rfl ?_
    refine ev_bp f_X11_rules (nx := 73) (v := 9) rfl (by decide) rfl ?_
    refine ev_inV2 f_X11_rules (nx := 76) (lo2 := [(0, .ref 0), (1, .int 9)]) rfl rfl rfl rfl f_X11_refuse (hI.wf.s rfl) rfl rfl rfl rfl rfl ?_
    refine ev_loc f_X11_refuse (nx := 1) rfl rfl rfl rfl ?_
    refine ev_loc f_X11_refuse (nx := 2) rfl rfl rfl rfl ?_
    refine ev_putIT f_X11_refuse (nx := 5) rfl (hI.wf.s rfl) rfl rfl rfl (hI.put0 (hI.wf.s rfl) rfl rfl) (hX.upI rfl) (fun g9 e9 hI hX => ?_)
    refine ev_ic f_X11_refuse (nx := 6) (v := -1) rfl (by decide) rfl ?_
    refine ev_retK1 f_X11_refuse rfl rfl rfl ?_
    exact ev_ret f_X11_rules rfl rfl rfl ⟨_, _, _, rfl, hI, hX, ⟨_, rfl, (by decide : ((-1):Int) ≤ ((-1):Int32).toInt), (Int.le_trans (by decide : ((-1):Int32).toInt ≤ ((-1):Int)) (by decide : ((-1):Int) ≤ 12)), (show (((-1) : Int) = -1 → (g9 0 0).toInt = 9) ∧ (((-1) : Int) ≠ -1 → (g9 0 0).toInt = 0) from ⟨fun h => (by have ffs : (g9 0 0).toInt = 9 := (congrArg Int32.toInt (by rw [e9]; exact x_up2_at _ _ _ _ : g9 0 0 = 9)).trans (by decide); omega), fun h => (by have ffs : (g9 0 0).toInt = 9 := (congrArg Int32.toInt (by rw [e9]; exact x_up2_at _ _ _ _ : g9 0 0 = 9)).trans (by decide); omega)⟩)⟩⟩
  · have r10 : w2.toInt ≠ 0 := fun e => h7 (Int32.toInt_inj.mp (e.trans (by decide : (0:Int) = (0 : Int32).toInt)))
    have l11 : 1 ≤ w2.toInt := t_nel h7 l2 rfl rfl
    refine ev_loc f_X11_rules (nx := 78) rfl rfl rfl rfl ?_
    refine ev_loc f_X11_rules (nx := 79) rfl rfl rfl rfl ?_
    obtain ⟨a12, e12, p12⟩ := p_a2.2.2
    refine ev_getR f_X11_rules (nx := 82) rfl p_a2.1 rfl rfl e12 rfl rfl ?_
    have hE13 := t_eqf_up (gr := gr2) (j := 7) (v := .ref a12) (hI.wf.s (k := 0) rfl) rfl
    have hT13 := t_putRules hI (v := .ref a12) (Or.inr ⟨_, rfl, p12⟩)
    replace p_a2 := p_a2.ext hE13
    replace p3 := p3.ext hE13
    replace p12 := p12.ext hE13
    refine ev_putRT f_X11_rules (nx := 85) rfl (hI.wf.s rfl) rfl rfl rfl rfl hT13 (hX.upR rfl hE13) (fun g13 e13 hI hX => ?_)
    rw [← e13] at p_a2
    rw [← e13] at p3
    rw [← e13] at p12
    refine ev_loc f_X11_rules (nx := 86) rfl rfl rfl rfl ?_
    refine ev_loc f_X11_rules (nx := 87) rfl rfl rfl rfl ?_
    refine ev_getR f_X11_rules (nx := 90) (v := .ref a12) rfl (hI.wf.s rfl) rfl rfl (by rw [e13]; exact x_up2_at _ _ _ _ : g13 0 7 = .ref a12) rfl rfl ?_
    refine ev_getI f_X11_rules (nx := 93) rfl p12.1 rfl rfl rfl ?_
    obtain ⟨l14, u14⟩ := hI.b p12.1 (t_bdK rfl : t_bd 6 0 = some (0, 12))
    refine ev_inV2 f_X11_rules (nx := 96) (lo2 := [(0, .ref 0), (1, .int (g6 a12 0))]) rfl rfl rfl rfl f_X11_answer (hI.wf.s rfl) rfl rfl rfl rfl rfl ?_
    refine ev_loc f_X11_answer (nx := 1) rfl rfl rfl rfl ?_
    refine ev_ic f_X11_answer (nx := 2) (v := 0) rfl (by decide) rfl ?_
    refine ev_putIT f_X11_answer (nx := 5) rfl (hI.wf.s rfl) rfl rfl rfl (hI.put0 (hI.wf.s rfl) rfl rfl) (hX.upI rfl) (fun g15 e15 hI hX => ?_)
    refine ev_loc f_X11_answer (nx := 6) rfl rfl rfl rfl ?_
    refine ev_retK1 f_X11_answer rfl rfl rfl ?_
    exact ev_ret f_X11_rules rfl rfl rfl ⟨_, _, _, rfl, hI, hX, ⟨_, rfl, (Int.le_trans (by decide : ((-1):Int) ≤ 0) l14), u14, (show ((g6 a12 0).toInt = -1 → (g15 0 0).toInt = 9) ∧ ((g6 a12 0).toInt ≠ -1 → (g15 0 0).toInt = 0) from ⟨fun h => (by have ffs : (g15 0 0).toInt = 0 := (congrArg Int32.toInt (by rw [e15]; exact x_up2_at _ _ _ _ : g15 0 0 = 0)).trans (by decide); omega), fun h => (by have ffs : (g15 0 0).toInt = 0 := (congrArg Int32.toInt (by rw [e15]; exact x_up2_at _ _ _ _ : g15 0 0 = 0)).trans (by decide); omega)⟩)⟩⟩
noncomputable def wl_f_t_rulesN : List (Nat × Nat) := [(0, 0)]
noncomputable def Q_f_t_rulesN (gi : Nat → Nat → Int32) (gl : Nat → Nat → Int64) (gr : Nat → Nat → Value) (ar1 : Int32) : Int32 → (Nat → Nat → Int32) → (Nat → Nat → Int64) → (Nat → Nat → Value) → Prop := fun (v : Int32) (gi2 : Nat → Nat → Int32) (gl2 : Nat → Nat → Int64) (gr2 : Nat → Nat → Value) => (gi2 0 0).toInt = 1
theorem c_f_t_rulesN {X : x_Ext} {d : Nat} {sh : List (Nat ⊕ (Nat × Nat))} {gi : Nat → Nat → Int32} {gl : Nat → Nat → Int64} {gr : Nat → Nat → Value} (hI : t_I sh gi gr) (ar1 : Int32) : x_Ev X (d + 2) n_X11_rules 19 [(0, .ref 0), (1, .int ar1)] [] (sh, gi, gl, gr) (t_PI wl_f_t_rulesN sh gi gl gr (-1) (-1) (Q_f_t_rulesN gi gl gr ar1)) := by
  have hX : t_X wl_f_t_rulesN sh gi gl gr gi gl gr := t_X.rf
  refine ev_loc f_X11_rules (nx := 20) rfl rfl rfl rfl ?_
  refine ev_ic f_X11_rules (nx := 21) (v := 1) rfl (by decide) rfl ?_
  refine ev_inV2 f_X11_rules (nx := 24) (lo2 := [(0, .ref 0), (1, .int 1)]) rfl rfl rfl rfl f_X11_refuse (hI.wf.s rfl) rfl rfl rfl rfl rfl ?_
  refine ev_loc f_X11_refuse (nx := 1) rfl rfl rfl rfl ?_
  refine ev_loc f_X11_refuse (nx := 2) rfl rfl rfl rfl ?_
  refine ev_putIT f_X11_refuse (nx := 5) rfl (hI.wf.s rfl) rfl rfl rfl (hI.put0 (hI.wf.s rfl) rfl rfl) (hX.upI rfl) (fun g2 e2 hI hX => ?_)
  refine ev_ic f_X11_refuse (nx := 6) (v := -1) rfl (by decide) rfl ?_
  refine ev_retK1 f_X11_refuse rfl rfl rfl ?_
  exact ev_ret f_X11_rules rfl rfl rfl ⟨_, _, _, rfl, hI, hX, ⟨_, rfl, (by decide : ((-1):Int) ≤ ((-1):Int32).toInt), (by decide : ((-1):Int32).toInt ≤ ((-1):Int)), (show (g2 0 0).toInt = 1 from (by have ffs : (g2 0 0).toInt = 1 := (congrArg Int32.toInt (by rw [e2]; exact x_up2_at _ _ _ _ : g2 0 0 = 1)).trans (by decide); omega))⟩⟩
noncomputable def wl_f_rules : List (Nat × Nat) := wl_f_t_rules ++ wl_f_t_rulesN
set_option maxHeartbeats 4000000 in
theorem c_f_rules {X : x_Ext} {d : Nat} {sh : List (Nat ⊕ (Nat × Nat))} {gi : Nat → Nat → Int32} {gl : Nat → Nat → Int64} {gr : Nat → Nat → Value} (hI : t_I sh gi gr) (hH : t_H sh) (ar1 : Int32) : x_Me X (d + 70) n_X11_rules [.ref 0, .int ar1] (sh, gi, gl, gr) (t_PG wl_f_rules 30 2000 sh gi gl gr (fun (x : Int32) (g : Nat → Nat → Int32) => ((0 ≤ ar1.toInt ∧ ar1.toInt ≤ (gi 0 5).toInt ∧ ar1.toInt ≤ 300) → (x.toInt = -1 → (g 0 0).toInt = 9) ∧ (x.toInt ≠ -1 → (g 0 0).toInt = 0)) ∧ (¬ (0 ≤ ar1.toInt ∧ ar1.toInt ≤ (gi 0 5).toInt ∧ ar1.toInt ≤ 300) → (g 0 0).toInt = 1))) := by
  have hb0 := hI.b (hI.wf.s (k := 0) rfl) (t_bdK rfl : t_bd 10 5 = some (0, 900))
  refine me_i f_X11_rules (hI.wf.s rfl) rfl rfl rfl ?_
  refine ev_loc f_X11_rules (nx := 1) rfl rfl rfl rfl ?_
  refine ev_if f_X11_rules (t1 := 19) (t2 := 4) rfl rfl rfl (fun h1 => ?_) (fun h1 => ?_)
  · have h1 := Int32.lt_iff_toInt_lt.mp h1; have kf0 : (0 : Int32).toInt = 0 := (by decide); refine x_Ev.mono (x_Ev.up (c_f_t_rulesN (d := d) hI ar1) (by omega)) (fun v G' h => t_PG_of hH h (fun k j hn => (t_in_app hn).2) (fun x g1 g2 g3 hq hf => ⟨fun hi => absurd hi (by omega), fun _ => hq⟩))
  have h1 := Int32.le_iff_toInt_le.mp (t_nlt h1); have kf0 : (0 : Int32).toInt = 0 := (by decide)
  refine ev_loc f_X11_rules (nx := 5) rfl rfl rfl rfl ?_
  refine ev_loc f_X11_rules (nx := 6) rfl rfl rfl rfl ?_
  refine ev_getI f_X11_rules (nx := 9) rfl (hI.wf.s rfl) rfl rfl rfl ?_
  refine ev_if f_X11_rules (t1 := 19) (t2 := 12) rfl rfl rfl (fun h2 => ?_) (fun h2 => ?_)
  · have h2 := Int32.lt_iff_toInt_lt.mp h2; refine x_Ev.mono (x_Ev.up (c_f_t_rulesN (d := d) hI ar1) (by omega)) (fun v G' h => t_PG_of hH h (fun k j hn => (t_in_app hn).2) (fun x g1 g2 g3 hq hf => ⟨fun hi => absurd hi (by omega), fun _ => hq⟩))
  have h2 := Int32.le_iff_toInt_le.mp (t_nlt h2)
  refine ev_loc f_X11_rules (nx := 13) rfl rfl rfl rfl ?_
  refine ev_sp f_X11_rules (nx := 16) (v := 300) rfl (by decide) rfl ?_
  refine ev_if f_X11_rules (t1 := 25) (t2 := 19) rfl rfl rfl (fun h3 => ?_) (fun h3 => ?_)
  rotate_left
  · have h3 := Int32.lt_iff_toInt_lt.mp (t_nle h3); have kf1 : (300 : Int32).toInt = 300 := (by decide); refine x_Ev.mono (x_Ev.up (c_f_t_rulesN (d := d) hI ar1) (by omega)) (fun v G' h => t_PG_of hH h (fun k j hn => (t_in_app hn).2) (fun x g1 g2 g3 hq hf => ⟨fun hi => absurd hi (by omega), fun _ => hq⟩))
  have h3 := Int32.le_iff_toInt_le.mp h3; have kf1 : (300 : Int32).toInt = 300 := (by decide)
  have hin : (0 ≤ ar1.toInt ∧ ar1.toInt ≤ (gi 0 5).toInt ∧ ar1.toInt ≤ 300) := by omega
  have lx : (0:Int) ≤ ar1.toInt := by omega
  have ux : ar1.toInt ≤ (900:Int) := by omega
  obtain ⟨N, hN⟩ : ∃ N, sh.length = N := ⟨_, rfl⟩
  have h102 := t_102 hI.wf
  rw [hN] at h102
  have hG := t_G.refl (N := N) (r := N) (gi0 := gi) (gl0 := gl) (gr0 := gr) hN (fun ci j lo hi hk ht => absurd (t_lt hk) (by omega))
  rw [show ((sh, gi, gl, gr) : x_G) = (sh ++ [], gi, gl, gr) by rw [List.append_nil]]
  refine ev_newG f_X11_rules (nx := 28) (c := 0) (ext' := [.inl 7]) rfl rfl rfl hN rfl rfl hG (fun a101 b101 g101 ea101 eb101 e101 hG => ?_)
  refine ev_alu f_X11_rules (nx := 29) rfl rfl rfl rfl ?_
  refine ev_newG f_X11_rules (nx := 32) (c := 1) (ext' := [.inl 7, .inl 8]) rfl rfl rfl hN rfl rfl hG (fun a102 b102 g102 ea102 eb102 e102 hG => ?_)
  refine ev_alu f_X11_rules (nx := 33) rfl rfl rfl rfl ?_
  refine ev_loc f_X11_rules (nx := 34) rfl rfl rfl rfl ?_
  refine ev_getR f_X11_rules (nx := 37) rfl (t_sl (hI.wf.s rfl)) rfl rfl ((congrFun (hG.1 0 (by omega) (by omega)).2.2 4).trans (hI.wf.r rfl)) rfl rfl ?_
  refine ev_loc f_X11_rules (nx := 38) rfl rfl rfl rfl ?_
  refine ev_inV3 f_X11_rules (nx := 41) (lo2 := [(0, .ref (N + 1)), (1, .ref 2), (2, .int ar1)]) rfl rfl rfl rfl f_X9_init ((t_sx hN).trans rfl) rfl rfl rfl rfl rfl ?_
  refine ev_loc f_X9_init (nx := 1) rfl rfl rfl rfl ?_
  refine ev_obj f_X9_init (nx := 4) rfl rfl (by omega) (by decide) rfl ?_
  refine ev_loc f_X9_init (nx := 5) rfl rfl rfl rfl ?_
  refine ev_ic f_X9_init (nx := 6) (v := 0) rfl (by decide) rfl ?_
  refine ev_putIG f_X9_init (nx := 9) rfl ((t_sx hN).trans rfl) rfl rfl rfl (hG.putI (Or.inl (by omega)) ((t_sx hN).trans rfl) (fun lo hi e => by have e : some ((0 : Int), (900 : Int)) = some (lo, hi) := e; cases e; exact ⟨by decide, by decide⟩) (fun _ => rfl)) (fun a103 ea103 hG => ?_)
  refine ev_loc f_X9_init (nx := 10) rfl rfl rfl rfl ?_
  refine ev_ic f_X9_init (nx := 11) (v := 3) rfl (by decide) rfl ?_
  refine ev_putIG f_X9_init (nx := 14) rfl ((t_sx hN).trans rfl) rfl rfl rfl (hG.putI (Or.inl (by omega)) ((t_sx hN).trans rfl) (fun lo hi e => by have e : (none : Option (Int × Int)) = some (lo, hi) := e; cases e) (fun h => absurd h (by decide))) (fun a104 ea104 hG => ?_)
  refine ev_loc f_X9_init (nx := 15) rfl rfl rfl rfl ?_
  refine ev_ic f_X9_init (nx := 16) (v := 0) rfl (by decide) rfl ?_
  refine ev_putIG f_X9_init (nx := 19) rfl ((t_sx hN).trans rfl) rfl rfl rfl (hG.putI (Or.inl (by omega)) ((t_sx hN).trans rfl) (fun lo hi e => by have e : some ((0 : Int), (900 : Int)) = some (lo, hi) := e; cases e; exact ⟨by decide, by decide⟩) (fun _ => rfl)) (fun a105 ea105 hG => ?_)
  refine ev_loc f_X9_init (nx := 20) rfl rfl rfl rfl ?_
  refine ev_ic f_X9_init (nx := 21) (v := 0) rfl (by decide) rfl ?_
  refine ev_putIG f_X9_init (nx := 24) rfl ((t_sx hN).trans rfl) rfl rfl rfl (hG.putI (Or.inl (by omega)) ((t_sx hN).trans rfl) (fun lo hi e => by have e : (none : Option (Int × Int)) = some (lo, hi) := e; cases e) (fun _ => rfl)) (fun a106 ea106 hG => ?_)
  refine ev_loc f_X9_init (nx := 25) rfl rfl rfl rfl ?_
  refine ev_lc f_X9_init (nx := 26) (v := 0) rfl (by decide) rfl ?_
  refine ev_putLG f_X9_init (nx := 29) rfl ((t_sx hN).trans rfl) rfl rfl rfl (hG.putL (Or.inl (by omega))) (fun b107 eb107 hG => ?_)
  refine ev_loc f_X9_init (nx := 30) rfl rfl rfl rfl ?_
  refine ev_alu f_X9_init (nx := 31) rfl rfl rfl rfl ?_
  refine ev_putRG f_X9_init (nx := 34) rfl ((t_sx hN).trans rfl) rfl rfl rfl rfl (hG.putR (Or.inl (by omega)) ((t_sx hN).trans rfl) (fun h8 h7 => Or.inl rfl)) (fun g108 e108 hG => ?_)
  refine ev_loc f_X9_init (nx := 35) rfl rfl rfl rfl ?_
  refine ev_ic f_X9_init (nx := 36) (v := 0) rfl (by decide) rfl ?_
  refine ev_putIG f_X9_init (nx := 39) rfl ((t_sx hN).trans rfl) rfl rfl rfl (hG.putI (Or.inl (by omega)) ((t_sx hN).trans rfl) (fun lo hi e => by have e : (none : Option (Int × Int)) = some (lo, hi) := e; cases e) (fun _ => rfl)) (fun a109 ea109 hG => ?_)
  refine ev_loc f_X9_init (nx := 40) rfl rfl rfl rfl ?_
  refine ev_ic f_X9_init (nx := 41) (v := 0) rfl (by decide) rfl ?_
  refine ev_putIG f_X9_init (nx := 44) rfl ((t_sx hN).trans rfl) rfl rfl rfl (hG.putI (Or.inl (by omega)) ((t_sx hN).trans rfl) (fun lo hi e => by have e : (none : Option (Int × Int)) = some (lo, hi) := e; cases e) (fun _ => rfl)) (fun a110 ea110 hG => ?_)
  refine ev_loc f_X9_init (nx := 45) rfl rfl rfl rfl ?_
  refine ev_ic f_X9_init (nx := 46) (v := 0) rfl (by decide) rfl ?_
  refine ev_putIG f_X9_init (nx := 49) rfl ((t_sx hN).trans rfl) rfl rfl rfl (hG.putI (Or.inl (by omega)) ((t_sx hN).trans rfl) (fun lo hi e => by have e : (none : Option (Int × Int)) = some (lo, hi) := e; cases e) (fun _ => rfl)) (fun a111 ea111 hG => ?_)
  refine ev_loc f_X9_init (nx := 50) rfl rfl rfl rfl ?_
  refine ev_ic f_X9_init (nx := 51) (v := -1) rfl (by decide) rfl ?_
  refine ev_putIG f_X9_init (nx := 54) rfl ((t_sx hN).trans rfl) rfl rfl rfl (hG.putI (Or.inl (by omega)) ((t_sx hN).trans rfl) (fun lo hi e => by have e : (none : Option (Int × Int)) = some (lo, hi) := e; cases e) (fun h => absurd h (by decide))) (fun a112 ea112 hG => ?_)
  refine ev_loc f_X9_init (nx := 55) rfl rfl rfl rfl ?_
  refine ev_loc f_X9_init (nx := 56) rfl rfl rfl rfl ?_
  refine ev_putRG f_X9_init (nx := 59) rfl ((t_sx hN).trans rfl) rfl rfl rfl rfl (hG.putR (Or.inl (by omega)) ((t_sx hN).trans rfl) (fun h8 h7 => absurd h7 (by decide))) (fun g113 e113 hG => ?_)
  refine ev_loc f_X9_init (nx := 60) rfl rfl rfl rfl ?_
  refine ev_loc f_X9_init (nx := 61) rfl rfl rfl rfl ?_
  refine ev_loc f_X9_init (nx := 62) rfl rfl rfl rfl ?_
  refine ev_alenv f_X9_init (nx := 63) (w := 900) rfl (t_sl (hI.wf.s rfl)) rfl (by decide) rfl ?_
  refine ev_mmR f_X9_init (nx := 66) (l := 0) (u := 900) rfl rfl rfl (by omega) rfl lx ux (by decide : (900:Int) ≤ (900:Int32).toInt) (by decide : (900:Int32).toInt ≤ (900:Int)) (by decide) (by decide) rfl (fun w114 l114 u114 => ?_)
  refine ev_putIG f_X9_init (nx := 69) rfl ((t_sx hN).trans rfl) rfl rfl rfl (hG.putI (Or.inl (by omega)) ((t_sx hN).trans rfl) (fun lo hi e => by have e : some ((0 : Int), (900 : Int)) = some (lo, hi) := e; cases e; exact ⟨l114, u114⟩) (fun h => absurd h (by decide))) (fun a115 ea115 hG => ?_)
  refine ev_loc f_X9_init (nx := 70) rfl rfl rfl rfl ?_
  have hI1 := hG.I hN hI hH (by omega) (fun s hs => absurd (t_lt hs) (by omega))
  have hTk : t_Tk (sh ++ ([.inl 7, .inl 8] : List (Nat ⊕ (Nat × Nat)))) g113 (N + 1) := ⟨(t_sx hN).trans rfl, (by rw [e113]; exact x_up2_at _ _ _ _)⟩
  have hG1 := hG
  have hX : t_X wl_step (sh ++ ([.inl 7, .inl 8] : List (Nat ⊕ (Nat × Nat)))) a115 b107 g113 a115 b107 g113 := t_X.rf
  refine ev_c0 f_X9_init (nx := 73) (r := []) rfl rfl rfl rfl rfl rfl rfl (x_Me.up (c_step (d := d) hI1 (N + 1) hTk) (by omega)) rfl hX rfl (fun gi1 gl1 gr1 hI2 hX1 _ => ?_)
  replace hTk := hTk.ext hX1.2
  have hN2 : (sh ++ ([.inl 7, .inl 8] : List (Nat ⊕ (Nat × Nat)))).length = N + 2 := by rw [List.length_append, hN]; rfl
  have hG := t_G.refl (N := N + 2) (r := N + 0) (gi0 := gi1) (gl0 := gl1) (gr0 := gr1) hN2 (fun ci j lo hi hk ht => hI2.b hk ht)
  rw [show (((sh ++ ([.inl 7, .inl 8] : List (Nat ⊕ (Nat × Nat)))), gi1, gl1, gr1) : x_G) = ((sh ++ ([.inl 7, .inl 8] : List (Nat ⊕ (Nat × Nat)))) ++ [], gi1, gl1, gr1) by rw [List.append_nil]]
  refine ev_retK0 f_X9_init rfl rfl rfl ?_
  refine ev_newG f_X11_rules (nx := 44) (c := 0) (ext' := [.inl 6]) rfl rfl rfl hN2 rfl rfl hG (fun a116 b116 g116 ea116 eb116 e116 hG => ?_)
  refine ev_alu f_X11_rules (nx := 45) rfl rfl rfl rfl ?_
  refine ev_loc f_X11_rules (nx := 46) rfl rfl rfl rfl ?_
  refine ev_inV2 f_X11_rules (nx := 49) (lo2 := [(0, .ref (N + 2 + 0)), (1, .int ar1)]) rfl rfl rfl rfl f_X7_init ((t_sx hN2).trans rfl) rfl rfl rfl rfl rfl ?_
  refine ev_loc f_X7_init (nx := 1) rfl rfl rfl rfl ?_
  refine ev_obj f_X7_init (nx := 4) rfl rfl (by omega) (by decide) rfl ?_
  refine ev_loc f_X7_init (nx := 5) rfl rfl rfl rfl ?_
  refine ev_ic f_X7_init (nx := 6) (v := 0) rfl (by decide) rfl ?_
  refine ev_putIG f_X7_init (nx := 9) rfl ((t_sx hN2).trans rfl) rfl rfl rfl (hG.putI (Or.inl (by omega)) ((t_sx hN2).trans rfl) (fun lo hi e => by have e : some ((0 : Int), (12 : Int)) = some (lo, hi) := e; cases e; exact ⟨by decide, by decide⟩) (fun _ => rfl)) (fun a117 ea117 hG => ?_)
  refine ev_loc f_X7_init (nx := 10) rfl rfl rfl rfl ?_
  refine ev_bp f_X7_init (nx := 12) (v := 12) rfl (by decide) rfl ?_
  refine ev_arrG f_X7_init (nx := 14) (c := 1) (m := 12) (ext' := [.inl 6, .inr (0, 12)]) rfl rfl (by decide) rfl (by decide) rfl hN2 rfl rfl hG (fun a118 b118 g118 ea118 eb118 e118 hG => ?_)
  refine ev_putRG f_X7_init (nx := 17) rfl ((t_sx hN2).trans rfl) rfl rfl rfl rfl (hG.putR (Or.inl (by omega)) ((t_sx hN2).trans rfl) (fun h8 h7 => absurd h8 (by decide))) (fun g119 e119 hG => ?_)
  refine ev_loc f_X7_init (nx := 18) rfl rfl rfl rfl ?_
  refine ev_bp f_X7_init (nx := 20) (v := 12) rfl (by decide) rfl ?_
  refine ev_arrG f_X7_init (nx := 22) (c := 2) (m := 12) (ext' := [.inl 6, .inr (0, 12), .inr (0, 12)]) rfl rfl (by decide) rfl (by decide) rfl hN2 rfl rfl hG (fun a120 b120 g120 ea120 eb120 e120 hG => ?_)
  refine ev_putRG f_X7_init (nx := 25) rfl ((t_sx hN2).trans rfl) rfl rfl rfl rfl (hG.putR (Or.inl (by omega)) ((t_sx hN2).trans rfl) (fun h8 h7 => absurd h8 (by decide))) (fun g121 e121 hG => ?_)
  refine ev_loc f_X7_init (nx := 26) rfl rfl rfl rfl ?_
  refine ev_ic f_X7_init (nx := 27) (v := 0) rfl (by decide) rfl ?_
  refine ev_putIG f_X7_init (nx := 30) rfl ((t_sx hN2).trans rfl) rfl rfl rfl (hG.putI (Or.inl (by omega)) ((t_sx hN2).trans rfl) (fun lo hi e => by have e : some ((0 : Int), (300 : Int)) = some (lo, hi) := e; cases e; exact ⟨by decide, by decide⟩) (fun _ => rfl)) (fun a122 ea122 hG => ?_)
  refine ev_loc f_X7_init (nx := 31) rfl rfl rfl rfl ?_
  refine ev_ic f_X7_init (nx := 32) (v := 0) rfl (by decide) rfl ?_
  refine ev_mm f_X7_init (nx := 35) rfl rfl rfl (by omega) (by decide) rfl ?_
  rw [t_mx lx]
  refine ev_loc f_X7_init (nx := 36) (lo' := [(2, .int ar1), (0, .ref (N + 2 + 0)), (1, .int ar1)]) rfl rfl rfl rfl ?_
  refine ev_loc f_X7_init (nx := 37) rfl rfl rfl rfl ?_
  refine ev_loc f_X7_init (nx := 38) rfl rfl rfl rfl ?_
  refine ev_arrG f_X7_init (nx := 40) (c := 3) (m := ar1.toNatClampNeg) (ext' := [.inl 6, .inr (0, 12), .inr (0, 12), .inr (0, ar1.toNatClampNeg)]) rfl rfl lx rfl (decide_eq_true (by have hc := t_clamp (i := ar1) lx; omega)) rfl hN2 rfl rfl hG (fun a124 b124 g124 ea124 eb124 e124 hG => ?_)
  refine ev_putRG f_X7_init (nx := 43) rfl ((t_sx hN2).trans rfl) rfl rfl rfl rfl (hG.putR (Or.inl (by omega)) ((t_sx hN2).trans rfl) (fun h8 h7 => absurd h8 (by decide))) (fun g125 e125 hG => ?_)
  refine ev_loc f_X7_init (nx := 44) rfl rfl rfl rfl ?_
  refine ev_loc f_X7_init (nx := 45) rfl rfl rfl rfl ?_
  refine ev_arrG f_X7_init (nx := 47) (c := 4) (m := ar1.toNatClampNeg) (ext' := [.inl 6, .inr (0, 12), .inr (0, 12), .inr (0, ar1.toNatClampNeg), .inr (0, ar1.toNatClampNeg)]) rfl rfl lx rfl (decide_eq_true (by have hc := t_clamp (i := ar1) lx; omega)) rfl hN2 rfl rfl hG (fun a126 b126 g126 ea126 eb126 e126 hG => ?_)
  refine ev_putRG f_X7_init (nx := 50) rfl ((t_sx hN2).trans rfl) rfl rfl rfl rfl (hG.putR (Or.inl (by omega)) ((t_sx hN2).trans rfl) (fun h8 h7 => absurd h8 (by decide))) (fun g127 e127 hG => ?_)
  refine ev_loc f_X7_init (nx := 51) rfl rfl rfl rfl ?_
  refine ev_loc f_X7_init (nx := 52) rfl rfl rfl rfl ?_
  refine ev_arrG f_X7_init (nx := 54) (c := 5) (m := ar1.toNatClampNeg) (ext' := [.inl 6, .inr (0, 12), .inr (0, 12), .inr (0, ar1.toNatClampNeg), .inr (0, ar1.toNatClampNeg), .inr (0, ar1.toNatClampNeg)]) rfl rfl lx rfl (decide_eq_true (by have hc := t_clamp (i := ar1) lx; omega)) rfl hN2 rfl rfl hG (fun a128 b128 g128 ea128 eb128 e128 hG => ?_)
  refine ev_putRG f_X7_init (nx := 57) rfl ((t_sx hN2).trans rfl) rfl rfl rfl rfl (hG.putR (Or.inl (by omega)) ((t_sx hN2).trans rfl) (fun h8 h7 => absurd h8 (by decide))) (fun g129 e129 hG => ?_)
  refine ev_retK0 f_X7_init rfl rfl rfl ?_
  refine ev_inV3 f_X11_rules (nx := 52) (lo2 := [(0, .ref (N + 0)), (1, .ref (N + 1)), (2, .ref (N + 2 + 0))]) rfl rfl rfl rfl f_X8_init (t_sl ((t_sx hN).trans rfl)) rfl rfl rfl rfl rfl ?_
  refine ev_loc f_X8_init (nx := 1) rfl rfl rfl rfl ?_
  refine ev_obj f_X8_init (nx := 4) rfl rfl (by omega) (by decide) rfl ?_
  refine ev_loc f_X8_init (nx := 5) rfl rfl rfl rfl ?_
  refine ev_ic f_X8_init (nx := 6) (v := 0) rfl (by decide) rfl ?_
  refine ev_putIG f_X8_init (nx := 9) rfl (t_sl ((t_sx hN).trans rfl)) rfl rfl rfl (hG.putI (Or.inr rfl) (t_sl ((t_sx hN).trans rfl)) (fun lo hi e => by have e : (none : Option (Int × Int)) = some (lo, hi) := e; cases e) (fun _ => rfl)) (fun a130 ea130 hG => ?_)
  refine ev_loc f_X8_init (nx := 10) rfl rfl rfl rfl ?_
  refine ev_loc f_X8_init (nx := 11) rfl rfl rfl rfl ?_
  refine ev_putRG f_X8_init (nx := 14) rfl (t_sl ((t_sx hN).trans rfl)) rfl rfl rfl rfl (hG.putR (Or.inr rfl) (t_sl ((t_sx hN).trans rfl)) (fun h8 h7 => absurd h8 (by decide))) (fun g131 e131 hG => ?_)
  refine ev_loc f_X8_init (nx := 15) rfl rfl rfl rfl ?_
  refine ev_loc f_X8_init (nx := 16) rfl rfl rfl rfl ?_
  refine ev_putRG f_X8_init (nx := 19) rfl (t_sl ((t_sx hN).trans rfl)) rfl rfl rfl rfl (hG.putR (Or.inr rfl) (t_sl ((t_sx hN).trans rfl)) (fun h8 h7 => absurd h8 (by decide))) (fun g132 e132 hG => ?_)
  refine ev_retK0 f_X8_init rfl rfl rfl ?_
  refine ev_loc f_X11_rules (nx := 53) (lo' := [(2, .ref (N + 0)), (0, .ref 0), (1, .int ar1)]) rfl rfl rfl rfl ?_
  have hI3 := hG.I hN2 hI2 (t_H_ext hH (t_he rfl)) (by omega) (fun s hs => Or.inr (by rw [(t_sx hN).trans rfl] at hs; cases hs; rfl))
  have hR : t_RL ((sh ++ ([.inl 7, .inl 8] : List (Nat ⊕ (Nat × Nat)))) ++ [.inl 6, .inr (0, 12), .inr (0, 12), .inr (0, ar1.toNatClampNeg), .inr (0, ar1.toNatClampNeg), .inr (0, ar1.toNatClampNeg)]) g132 (N + 0) := ⟨t_sl ((t_sx hN).trans rfl), ⟨N + 1, (by rw [e132, x_up2_off (Or.inr (by decide)), e131]; exact x_up2_at _ _ _ _), t_sl ((t_sx hN).trans rfl), (congrFun (hG.1 (N + 1) (by omega) (by omega)).2.2 0).trans hTk.2⟩, (N + 2 + 0), (by rw [e132]; exact x_up2_at _ _ _ _), ⟨(t_sx hN2).trans rfl, by omega, (by rw [e132, x_up2_off (Or.inl (by omega)), e131, x_up2_off (Or.inl (by omega)), e129, x_up2_off (Or.inr (by decide)), e128, x_clr_ne (by omega), e127, x_up2_off (Or.inr (by decide)), e126, x_clr_ne (by omega), e125, x_up2_off (Or.inr (by decide)), e124, x_clr_ne (by omega), e121, x_up2_off (Or.inr (by decide)), e120, x_clr_ne (by omega), e119]; exact x_up2_at _ _ _ _), (by rw [e132, x_up2_off (Or.inl (by omega)), e131, x_up2_off (Or.inl (by omega)), e129, x_up2_off (Or.inr (by decide)), e128, x_clr_ne (by omega), e127, x_up2_off (Or.inr (by decide)), e126, x_clr_ne (by omega), e125, x_up2_off (Or.inr (by decide)), e124, x_clr_ne (by omega), e121]; exact x_up2_at _ _ _ _), (t_sx hN2).trans rfl, (t_sx hN2).trans rfl, ar1.toNatClampNeg, by have hc := t_clamp (i := ar1) lx; omega, (by rw [e132, x_up2_off (Or.inl (by omega)), e131, x_up2_off (Or.inl (by omega)), e129, x_up2_off (Or.inr (by decide)), e128, x_clr_ne (by omega), e127, x_up2_off (Or.inr (by decide)), e126, x_clr_ne (by omega), e125]; exact x_up2_at _ _ _ _), (by rw [e132, x_up2_off (Or.inl (by omega)), e131, x_up2_off (Or.inl (by omega)), e129, x_up2_off (Or.inr (by decide)), e128, x_clr_ne (by omega), e127]; exact x_up2_at _ _ _ _), (by rw [e132, x_up2_off (Or.inl (by omega)), e131, x_up2_off (Or.inl (by omega)), e129]; exact x_up2_at _ _ _ _), (t_sx hN2).trans rfl, (t_sx hN2).trans rfl, (t_sx hN2).trans rfl⟩⟩
  refine ev_sub (lo := [(0, .ref 0), (1, .int ar1), (2, .ref (N + 0))]) rfl (t_sc rfl (t_sc rfl (t_sc rfl t_sn))) ?_
  have hsh : ((sh ++ ([.inl 7, .inl 8] : List (Nat ⊕ (Nat × Nat)))) ++ [.inl 6, .inr (0, 12), .inr (0, 12), .inr (0, ar1.toNatClampNeg), .inr (0, ar1.toNatClampNeg), .inr (0, ar1.toNatClampNeg)]) = sh ++ [.inl 7, .inl 8, .inl 6, .inr (0, 12), .inr (0, 12), .inr (0, ar1.toNatClampNeg), .inr (0, ar1.toNatClampNeg), .inr (0, ar1.toNatClampNeg)] := by rw [List.append_assoc]; rfl
  refine x_Ev.mono (x_Ev.up (c_f_t_rules (d := d) hI3 ar1 (N + 0) hR) (by omega)) ?_
  rintro v G' ⟨g1, g2, g3, rfl, k1, k2, x, rfl, -, -, k3⟩
  refine ⟨[.inl 7, .inl 8, .inl 6, .inr (0, 12), .inr (0, 12), .inr (0, ar1.toNatClampNeg), .inr (0, ar1.toNatClampNeg), .inr (0, ar1.toNatClampNeg)], g1, g2, g3, by rw [hsh], by rw [← hsh]; exact k1, t_H_ext hH (t_he rfl), fun k j hk hn => ?_, Nat.le_of_ble_eq_true rfl, ?_, x, rfl, fun _ => k3, fun hh => absurd hin hh⟩
  · have f1 := k2.1 k j (by rw [t_cdlo hk]; exact (t_in_app hn).1)
    have f2 := hG.1 k (by omega) (by omega)
    have f3 := hX1.1 k j (by rw [t_cdlo hk]; exact t_inhi rfl hk)
    have f4 := hG1.1 k (by omega) (by omega)
    exact ⟨f1.1.trans ((congrFun f2.1 j).trans (f3.1.trans (congrFun f4.1 j))), f1.2.1.trans ((congrFun f2.2.1 j).trans (f3.2.1.trans (congrFun f4.2.1 j))), f1.2.2.trans ((congrFun f2.2.2 j).trans (f3.2.2.trans (congrFun f4.2.2 j)))⟩
  · show 3 + (12 + (7 + (12 + (12 + (ar1.toNatClampNeg + (ar1.toNatClampNeg + (ar1.toNatClampNeg + (0)))))))) ≤ 2000
    have hc := t_clamp (i := ar1) lx; omega
/-! ===== printed by riv.py: STATUS, the other side ===== -/
noncomputable def wl_g_tray : List (Nat × Nat) := [(69, 2), (72, 9999), (73, 9999), (74, 9999)]
noncomputable def Q_g_tray (gi : Nat → Nat → Int32) (gl : Nat → Nat → Int64) (gr : Nat → Nat → Value) (ar1 : Int32) (ar2 : Int32) (ar3 : Int32) : Int32 → (Nat → Nat → Int32) → (Nat → Nat → Int64) → (Nat → Nat → Value) → Prop := fun (v : Int32) (gi2 : Nat → Nat → Int32) (gl2 : Nat → Nat → Int64) (gr2 : Nat → Nat → Value) => (v.toInt = 1 → (gi2 69 2).toInt = 0) ∧ (v.toInt ≠ 1 → (gi2 69 2).toInt = 1)
theorem c_g_tray {X : x_Ext} {d : Nat} {sh : List (Nat ⊕ (Nat × Nat))} {gi : Nat → Nat → Int32} {gl : Nat → Nat → Int64} {gr : Nat → Nat → Value} (hI : t_I sh gi gr) (ar1 : Int32) (ar2 : Int32) (ar3 : Int32) : x_Me X (d + 2) n_X12_tray [.ref 69, .int ar1, .int ar2, .int ar3] (sh, gi, gl, gr) (t_PI wl_g_tray sh gi gl gr 0 1 (Q_g_tray gi gl gr ar1 ar2 ar3)) := by
  have hX : t_X wl_g_tray sh gi gl gr gi gl gr := t_X.rf
  refine me_i f_X12_tray (hI.wf.s rfl) rfl rfl rfl ?_
  refine ev_loc f_X12_tray (nx := 1) rfl rfl rfl rfl ?_
  refine ev_inS1 f_X12_tray (nx := 4) (lo2 := [(0, .int ar1)]) rfl rfl rfl rfl f_X12_isTray rfl rfl rfl rfl ?_
  refine ev_loc f_X12_isTray (nx := 1) rfl rfl rfl rfl ?_
  refine ev_if f_X12_isTray (t1 := 13) (t2 := 4) rfl rfl rfl (fun h2 => ?_) (fun h2 => ?_)
  · have u3 : ar1.toInt ≤ (-1) := t_ltu h2 (by decide : (0:Int32).toInt ≤ (0:Int)) rfl
    refine ev_ic f_X12_isTray (nx := 14) (v := 0) rfl (by decide) rfl ?_
    refine ev_retK1 f_X12_isTray rfl rfl rfl ?_
    refine ev_t f_X12_tray (t1 := 26) (t2 := 7) rfl rfl rfl (by decide) ?_
    refine ev_loc f_X12_tray (nx := 27) rfl rfl rfl rfl ?_
    refine ev_ic f_X12_tray (nx := 28) (v := 1) rfl (by decide) rfl ?_
    refine ev_inV2 f_X12_tray (nx := 31) (lo2 := [(0, .ref 69), (1, .int 1)]) rfl rfl rfl rfl f_X12_is (hI.wf.s rfl) rfl rfl rfl rfl rfl ?_
    refine ev_loc f_X12_is (nx := 1) rfl rfl rfl rfl ?_
    refine ev_loc f_X12_is (nx := 2) rfl rfl rfl rfl ?_
    refine ev_putIT f_X12_is (nx := 5) rfl (hI.wf.s rfl) rfl rfl rfl (hI.put0 (hI.wf.s rfl) rfl rfl) (hX.upI rfl) (fun g4 e4 hI hX => ?_)
    refine ev_loc f_X12_is (nx := 6) rfl rfl rfl rfl ?_
    refine ev_f f_X12_is (t1 := 9) (t2 := 13) rfl rfl rfl (by decide) ?_
    refine ev_ic f_X12_is (nx := 14) (v := 0) rfl (by decide) rfl ?_
    refine ev_retK1 f_X12_is rfl rfl rfl ?_
    exact ev_ret f_X12_tray rfl rfl rfl ⟨_, _, _, rfl, hI, hX, ⟨_, rfl, (by decide : (0:Int) ≤ (0:Int32).toInt), (Int.le_trans (by decide : (0:Int32).toInt ≤ (0:Int)) (by decide : (0:Int) ≤ 1)), (show ((0 : Int) = 1 → (g4 69 2).toInt = 0) ∧ ((0 : Int) ≠ 1 → (g4 69 2).toInt = 1) from ⟨fun h => (by have ffs : (g4 69 2).toInt = 1 := (congrArg Int32.toInt (by rw [e4]; exact x_up2_at _ _ _ _ : g4 69 2 = 1)).trans (by decide); omega), fun h => (by have ffs : (g4 69 2).toInt = 1 := (congrArg Int32.toInt (by rw [e4]; exact x_up2_at _ _ _ _ : g4 69 2 = 1)).trans (by decide); omega)⟩)⟩⟩
  · have l5 : 0 ≤ ar1.toInt := t_lel (t_nlt h2) (by decide : (0:Int) ≤ (0:Int32).toInt)
    refine ev_loc f_X12_isTray (nx := 5) rfl rfl rfl rfl ?_
    refine ev_ic f_X12_isTray (nx := 6) (v := 4) rfl (by decide) rfl ?_
    refine ev_if f_X12_isTray (t1 := 13) (t2 := 9) rfl rfl rfl (fun h6 => ?_) (fun h6 => ?_)
    · have l7 : 4 ≤ ar1.toInt := t_lel h6 (by decide : (4:Int) ≤ (4:Int32).toInt)
      refine ev_ic f_X12_isTray (nx := 14) (v := 0) rfl (by decide) rfl ?_
      refine ev_retK1 f_X12_isTray rfl rfl rfl ?_
      refine ev_t f_X12_tray (t1 := 26) (t2 := 7) rfl rfl rfl (by decide) ?_
      refine ev_loc f_X12_tray (nx := 27) rfl rfl rfl rfl ?_
      refine ev_ic f_X12_tray (nx := 28) (v := 1) rfl (by decide) rfl ?_
      refine ev_inV2 f_X12_tray (nx := 31) (lo2 := [(0, .ref 69), (1, .int 1)]) rfl rfl rfl rfl f_X12_is (hI.wf.s rfl) rfl rfl rfl rfl rfl ?_
      refine ev_loc f_X12_is (nx := 1) rfl rfl rfl rfl ?_
      refine ev_loc f_X12_is (nx := 2) rfl rfl rfl rfl ?_
      refine ev_putIT f_X12_is (nx := 5) rfl (hI.wf.s rfl) rfl rfl rfl (hI.put0 (hI.wf.s rfl) rfl rfl) (hX.upI rfl) (fun g8 e8 hI hX => ?_)
      refine ev_loc f_X12_is (nx := 6) rfl rfl rfl rfl ?_
      refine ev_f f_X12_is (t1 := 9) (t2 := 13) rfl rfl rfl (by decide) ?_
      refine ev_ic f_X12_is (nx := 14) (v := 0) rfl (by decide) rfl ?_
      refine ev_retK1 f_X12_is rfl rfl rfl ?_
      exact ev_ret f_X12_tray rfl rfl rfl ⟨_, _, _, rfl, hI, hX, ⟨_, rfl, (by decide : (0:Int) ≤ (0:Int32).toInt), (Int.le_trans (by decide : (0:Int32).toInt ≤ (0:Int)) (by decide : (0:Int) ≤ 1)), (show ((0 : Int) = 1 → (g8 69 2).toInt = 0) ∧ ((0 : Int) ≠ 1 → (g8 69 2).toInt = 1) from ⟨fun h => (by have ffs : (g8 69 2).toInt = 1 := (congrArg Int32.toInt (by rw [e8]; exact x_up2_at _ _ _ _ : g8 69 2 = 1)).trans (by decide); omega), fun h => (by have ffs : (g8 69 2).toInt = 1 := (congrArg Int32.toInt (by rw [e8]; exact x_up2_at _ _ _ _ : g8 69 2 = 1)).trans (by decide); omega)⟩)⟩⟩
    · have u9 : ar1.toInt ≤ 3 := t_ltu (t_nle h6) (by decide : (4:Int32).toInt ≤ (4:Int)) rfl
      refine ev_ic f_X12_isTray (nx := 10) (v := 1) rfl (by decide) rfl ?_
      refine ev_jmp f_X12_isTray (nx := 14) rfl rfl rfl ?_
      refine ev_retK1 f_X12_isTray rfl rfl rfl ?_
      refine ev_f f_X12_tray (t1 := 26) (t2 := 7) rfl rfl rfl (by decide) ?_
      refine ev_loc f_X12_tray (nx := 8) rfl rfl rfl rfl ?_
      refine ev_if f_X12_tray (t1 := 26) (t2 := 11) rfl rfl rfl (fun h10 => ?_) (fun h10 => ?_)
      · have u11 : ar2.toInt ≤ (-1) := t_ltu h10 (by decide : (0:Int32).toInt ≤ (0:Int)) rfl
        refine ev_loc f_X12_tray (nx := 27) rfl rfl rfl rfl ?_
        refine ev_ic f_X12_tray (nx := 28) (v := 1) rfl (by decide) rfl ?_
        refine ev_inV2 f_X12_tray (nx := 31) (lo2 := [(0, .ref 69), (1, .int 1)]) rfl rfl rfl rfl f_X12_is (hI.wf.s rfl) rfl rfl rfl rfl rfl ?_
        refine ev_loc f_X12_is (nx := 1) rfl rfl rfl rfl ?_
        refine ev_loc f_X12_is (nx := 2) rfl rfl rfl rfl ?_
        refine ev_putIT f_X12_is (nx := 5) rfl (hI.wf.s rfl) rfl rfl rfl (hI.put0 (hI.wf.s rfl) rfl rfl) (hX.upI rfl) (fun g12 e12 hI hX => ?_)
        refine ev_loc f_X12_is (nx := 6) rfl rfl rfl rfl ?_
        refine ev_f f_X12_is (t1 := 9) (t2 := 13) rfl rfl rfl (by decide) ?_
        refine ev_ic f_X12_is (nx := 14) (v := 0) rfl (by decide) rfl ?_
        refine ev_retK1 f_X12_is rfl rfl rfl ?_
        exact ev_ret f_X12_tray rfl rfl rfl ⟨_, _, _, rfl, hI, hX, ⟨_, rfl, (by decide : (0:Int) ≤ (0:Int32).toInt), (Int.le_trans (by decide : (0:Int32).toInt ≤ (0:Int)) (by decide : (0:Int) ≤ 1)), (show ((0 : Int) = 1 → (g12 69 2).toInt = 0) ∧ ((0 : Int) ≠ 1 → (g12 69 2).toInt = 1) from ⟨fun h => (by have ffs : (g12 69 2).toInt = 1 := (congrArg Int32.toInt (by rw [e12]; exact x_up2_at _ _ _ _ : g12 69 2 = 1)).trans (by decide); omega), fun h => (by have ffs : (g12 69 2).toInt = 1 := (congrArg Int32.toInt (by rw [e12]; exact x_up2_at _ _ _ _ : g12 69 2 = 1)).trans (by decide); omega)⟩)⟩⟩
      · have l13 : 0 ≤ ar2.toInt := t_lel (t_nlt h10) (by decide : (0:Int) ≤ (0:Int32).toInt)
        refine ev_loc f_X12_tray (nx := 12) rfl rfl rfl rfl ?_
        refine ev_ic f_X12_tray (nx := 13) (v := 3) rfl (by decide) rfl ?_
        refine ev_if f_X12_tray (t1 := 26) (t2 := 16) rfl rfl rfl (fun h14 => ?_) (fun h14 => ?_)
        · have l15 : 4 ≤ ar2.toInt := t_ltl h14 (by decide : (3:Int) ≤ (3:Int32).toInt) rfl
          refine ev_loc f_X12_tray (nx := 27) rfl rfl rfl rfl ?_
          refine ev_ic f_X12_tray (nx := 28) (v := 1) rfl (by decide) rfl ?_
          refine ev_inV2 f_X12_tray (nx := 31) (lo2 := [(0, .ref 69), (1, .int 1)]) rfl rfl rfl rfl f_X12_is (hI.wf.s rfl) rfl rfl rfl rfl rfl ?_
          refine ev_loc f_X12_is (nx := 1) rfl rfl rfl rfl ?_
          refine ev_loc f_X12_is (nx := 2) rfl rfl rfl rfl ?_
          refine ev_putIT f_X12_is (nx := 5) rfl (hI.wf.s rfl) rfl rfl rfl (hI.put0 (hI.wf.s rfl) rfl rfl) (hX.upI rfl) (fun g16 e16 hI hX => ?_)
          refine ev_loc f_X12_is (nx := 6) rfl rfl rfl rfl ?_
          refine ev_f f_X12_is (t1 := 9) (t2 := 13) rfl rfl rfl (by decide) ?_
          refine ev_ic f_X12_is (nx := 14) (v := 0) rfl (by decide) rfl ?_
          refine ev_retK1 f_X12_is rfl rfl rfl ?_
          exact ev_ret f_X12_tray rfl rfl rfl ⟨_, _, _, rfl, hI, hX, ⟨_, rfl, (by decide : (0:Int) ≤ (0:Int32).toInt), (Int.le_trans (by decide : (0:Int32).toInt ≤ (0:Int)) (by decide : (0:Int) ≤ 1)), (show ((0 : Int) = 1 → (g16 69 2).toInt = 0) ∧ ((0 : Int) ≠ 1 → (g16 69 2).toInt = 1) from ⟨fun h => (by have ffs : (g16 69 2).toInt = 1 := (congrArg Int32.toInt (by rw [e16]; exact x_up2_at _ _ _ _ : g16 69 2 = 1)).trans (by decide); omega), fun h => (by have ffs : (g16 69 2).toInt = 1 := (congrArg Int32.toInt (by rw [e16]; exact x_up2_at _ _ _ _ : g16 69 2 = 1)).trans (by decide); omega)⟩)⟩⟩
        · have u17 : ar2.toInt ≤ 3 := t_leu (t_nlt h14) (by decide : (3:Int32).toInt ≤ (3:Int))
          refine ev_loc f_X12_tray (nx := 17) rfl rfl rfl rfl ?_
          refine ev_if f_X12_tray (t1 := 26) (t2 := 20) rfl rfl rfl (fun h18 => ?_) (fun h18 => ?_)
          · have u19 : ar3.toInt ≤ (-1) := t_ltu h18 (by decide : (0:Int32).toInt ≤ (0:Int)) rfl
            refine ev_loc f_X12_tray (nx := 27) rfl rfl rfl rfl ?_
            refine ev_ic f_X12_tray (nx := 28) (v := 1) rfl (by decide) rfl ?_
            refine ev_inV2 f_X12_tray (nx := 31) (lo2 := [(0, .ref 69), (1, .int 1)]) rfl rfl rfl rfl f_X12_is (hI.wf.s rfl) rfl rfl rfl rfl rfl ?_
            refine ev_loc f_X12_is (nx := 1) rfl rfl rfl rfl ?_
            refine ev_loc f_X12_is (nx := 2) rfl rfl rfl rfl ?_
            refine ev_putIT f_X12_is (nx := 5) rfl (hI.wf.s rfl) rfl rfl rfl (hI.put0 (hI.wf.s rfl) rfl rfl) (hX.upI rfl) (fun g20 e20 hI hX => ?_)
            refine ev_loc f_X12_is (nx := 6) rfl rfl rfl rfl ?_
            refine ev_f f_X12_is (t1 := 9) (t2 := 13) rfl rfl rfl (by decide) ?_
            refine ev_ic f_X12_is (nx := 14) (v := 0) rfl (by decide) rfl ?_
            refine ev_retK1 f_X12_is rfl rfl rfl ?_
            exact ev_ret f_X12_tray rfl rfl rfl ⟨_, _, _, rfl, hI, hX, ⟨_, rfl, (by decide : (0:Int) ≤ (0:Int32).toInt), (Int.le_trans (by decide : (0:Int32).toInt ≤ (0:Int)) (by decide : (0:Int) ≤ 1)), (show ((0 : Int) = 1 → (g20 69 2).toInt = 0) ∧ ((0 : Int) ≠ 1 → (g20 69 2).toInt = 1) from ⟨fun h => (by have ffs : (g20 69 2).toInt = 1 := (congrArg Int32.toInt (by rw [e20]; exact x_up2_at _ _ _ _ : g20 69 2 = 1)).trans (by decide); omega), fun h => (by have ffs : (g20 69 2).toInt = 1 := (congrArg Int32.toInt (by rw [e20]; exact x_up2_at _ _ _ _ : g20 69 2 = 1)).trans (by decide); omega)⟩)⟩⟩
          · have l21 : 0 ≤ ar3.toInt := t_lel (t_nlt h18) (by decide : (0:Int) ≤ (0:Int32).toInt)
            refine ev_loc f_X12_tray (nx := 21) rfl rfl rfl rfl ?_
            refine ev_bp f_X12_tray (nx := 23) (v := 60) rfl (by decide) rfl ?_
            refine ev_if f_X12_tray (t1 := 32) (t2 := 26) rfl rfl rfl (fun h22 => ?_) (fun h22 => ?_)
            · have u23 : ar3.toInt ≤ 60 := t_leu h22 (by decide : (60:Int32).toInt ≤ (60:Int))
              refine ev_loc f_X12_tray (nx := 33) rfl rfl rfl rfl ?_
              refine ev_getR f_X12_tray (nx := 36) rfl (hI.wf.s rfl) rfl rfl (hI.wf.r rfl) rfl rfl ?_
              refine ev_loc f_X12_tray (nx := 37) rfl rfl rfl rfl ?_
              refine ev_loc f_X12_tray (nx := 38) rfl rfl rfl rfl ?_
              refine ev_iastT f_X12_tray (nx := 39) rfl (hI.wf.s rfl) l5 (by decide) u9 (by decide) rfl (hI.astL (hI.wf.s rfl) (by decide +kernel : t_abw 72 0 3 0 3 = true) (t_cl1 l5 (by decide)) (t_cl2 l5 u9 (by decide) (by decide)) l13 u17 rfl) (hX.upI (t_inA_ok rfl)) (fun g24 e24 hI hX => ?_)
              refine ev_loc f_X12_tray (nx := 40) rfl rfl rfl rfl ?_
              refine ev_getR f_X12_tray (nx := 43) rfl (hI.wf.s rfl) rfl rfl (hI.wf.r rfl) rfl rfl ?_
              refine ev_loc f_X12_tray (nx := 44) rfl rfl rfl rfl ?_
              refine ev_loc f_X12_tray (nx := 45) rfl rfl rfl rfl ?_
              refine ev_iastT f_X12_tray (nx := 46) rfl (hI.wf.s rfl) l5 (by decide) u9 (by decide) rfl (hI.astL (hI.wf.s rfl) (by decide +kernel : t_abw 73 0 3 0 60 = true) (t_cl1 l5 (by decide)) (t_cl2 l5 u9 (by decide) (by decide)) l21 u23 rfl) (hX.upI (t_inA_ok rfl)) (fun g25 e25 hI hX => ?_)
              refine ev_ic f_X12_tray (nx := 47) (v := 0) rfl (by decide) rfl ?_
              refine ev_loc f_X12_tray (nx := 49) (lo' := [(4, .int 0), (0, .ref 69), (1, .int ar1), (2, .int ar2), (3, .int ar3)]) rfl rfl rfl rfl ?_
              have L26 : ∀ (m26 : Nat) (gi26 : Nat → Nat → Int32) (gl26 : Nat → Nat → Int64) (gr26 : Nat → Nat → Value) (y26_4 : Int32), t_I sh gi26 gr26 → t_X wl_g_tray sh gi gl gr gi26 gl26 gr26 → 0 ≤ y26_4.toInt → y26_4.toInt ≤ 60 → gi26 69 2 = (gi 69 2) → gi26 72 ar1.toNatClampNeg = ar2 → gi26 73 ar1.toNatClampNeg = ar3 → (60 - y26_4.toInt).toNat = m26 → x_Ev X (d + 2) n_X12_tray 49 [(4, .int y26_4), (0, .ref 69), (1, .int ar1), (2, .int ar2), (3, .int ar3)] [] (sh, gi26, gl26, gr26) (t_PI wl_g_tray sh gi gl gr 0 1 (Q_g_tray gi gl gr ar1 ar2 ar3)) := by
                intro m26
                induction m26 using Nat.strongRecOn with
                | _ m26 ih26 =>
                intro gi26 gl26 gr26 y26_4 hI hX l26_4 u26_4 c26_0 c26_1 c26_2 hm26
                refine ev_loc f_X12_tray (nx := 51) rfl rfl rfl rfl ?_
                refine ev_loc f_X12_tray (nx := 52) rfl rfl rfl rfl ?_
                refine ev_if f_X12_tray (t1 := 74) (t2 := 55) rfl rfl rfl (fun h27 => ?_) (fun h27 => ?_)
                · have r28 : ar3.toInt ≤ y26_4.toInt := Int32.le_iff_toInt_le.mp h27
                  refine ev_loc f_X12_tray (nx := 75) rfl rfl rfl rfl ?_
                  refine ev_ic f_X12_tray (nx := 76) (v := 0) rfl (by decide) rfl ?_
                  refine ev_inV2 f_X12_tray (nx := 79) (lo2 := [(0, .ref 69), (1, .int 0)]) rfl rfl rfl rfl f_X12_is (hI.wf.s rfl) rfl rfl rfl rfl rfl ?_
                  refine ev_loc f_X12_is (nx := 1) rfl rfl rfl rfl ?_
                  refine ev_loc f_X12_is (nx := 2) rfl rfl rfl rfl ?_
                  refine ev_putIT f_X12_is (nx := 5) rfl (hI.wf.s rfl) rfl rfl rfl (hI.put0 (hI.wf.s rfl) rfl rfl) (hX.upI rfl) (fun g29 e29 hI hX => ?_)
                  refine ev_loc f_X12_is (nx := 6) rfl rfl rfl rfl ?_
                  refine ev_t f_X12_is (t1 := 9) (t2 := 13) rfl rfl rfl (by decide) ?_
                  refine ev_ic f_X12_is (nx := 10) (v := 1) rfl (by decide) rfl ?_
                  refine ev_jmp f_X12_is (nx := 14) rfl rfl rfl ?_
                  refine ev_retK1 f_X12_is rfl rfl rfl ?_
                  exact ev_ret f_X12_tray rfl rfl rfl ⟨_, _, _, rfl, hI, hX, ⟨_, rfl, (Int.le_trans (by decide : (0:Int) ≤ 1) (by decide : (1:Int) ≤ (1:Int32).toInt)), (by decide : (1:Int32).toInt ≤ (1:Int)), (show ((1 : Int) = 1 → (g29 69 2).toInt = 0) ∧ ((1 : Int) ≠ 1 → (g29 69 2).toInt = 1) from ⟨fun h => (by have ffs : (g29 69 2).toInt = 0 := (congrArg Int32.toInt (by rw [e29]; exact x_up2_at _ _ _ _ : g29 69 2 = 0)).trans (by decide); omega), fun h => (by have ffs : (g29 69 2).toInt = 0 := (congrArg Int32.toInt (by rw [e29]; exact x_up2_at _ _ _ _ : g29 69 2 = 0)).trans (by decide); omega)⟩)⟩⟩
                · have r30 : y26_4.toInt < ar3.toInt := Int32.lt_iff_toInt_lt.mp (t_nle h27)
                  have u31 : y26_4.toInt ≤ 59 := t_ltu (t_nle h27) u23 rfl
                  have l32 : 1 ≤ ar3.toInt := t_ltl (t_nle h27) l26_4 rfl
                  refine ev_loc f_X12_tray (nx := 56) rfl rfl rfl rfl ?_
                  refine ev_getR f_X12_tray (nx := 59) rfl (hI.wf.s rfl) rfl rfl (hI.wf.r rfl) rfl rfl ?_
                  refine ev_bp f_X12_tray (nx := 61) (v := 60) rfl (by decide) rfl ?_
                  refine ev_loc f_X12_tray (nx := 62) rfl rfl rfl rfl ?_
                  refine ev_mulL f_X12_tray (nx := 63) (c := 60) (l := 0) (u := 180) rfl (by decide) (by decide) l5 u9 rfl rfl (by decide) (by decide) rfl (fun z33 e33 l33 u33 => ?_)
                  refine ev_loc f_X12_tray (nx := 65) rfl rfl rfl rfl ?_
                  refine ev_addR f_X12_tray (nx := 66) (l := 0) (u := 239) rfl l33 u33 l26_4 u31 rfl rfl (by decide) (by decide) rfl (fun z34 e34 l34 u34 => ?_)
                  refine ev_lc f_X12_tray (nx := 67) (v := 0) rfl (by decide) rfl ?_
                  refine ev_lastT f_X12_tray (nx := 68) rfl (hI.wf.s rfl) l34 (by decide) u34 (by decide) rfl (hX.upL (t_inA_ok rfl)) (fun g35 e35 hX => ?_)
                  refine ev_incR f_X12_tray (nx := 71) (c := 1) (l := 1) (u := 60) rfl rfl (by decide) (by decide) l26_4 u31 rfl rfl (by decide) (by decide) rfl (fun z36 e36 l36 u36 => ?_)
                  refine ev_jmp f_X12_tray (nx := 49) rfl rfl rfl ?_
                  refine ev_sub (lo := [(4, .int z36), (0, .ref 69), (1, .int ar1), (2, .int ar2), (3, .int ar3)]) rfl (t_sc rfl (t_sc rfl (t_sc rfl (t_sc rfl (t_sc rfl t_sn))))) ?_
                  exact ih26 _ (by omega) gi26 g35 gr26 (z36) hI hX  (Int.le_trans (by decide : (0:Int) ≤ 1) l36) u36 c26_0 c26_1 c26_2 rfl
              refine ev_sub (lo := [(4, .int 0), (0, .ref 69), (1, .int ar1), (2, .int ar2), (3, .int ar3)]) rfl (t_sc rfl (t_sc rfl (t_sc rfl (t_sc rfl (t_sc rfl t_sn))))) ?_
              exact L26 _ g25 gl gr (0) hI hX  (by decide : (0:Int) ≤ (0:Int32).toInt) (Int.le_trans (by decide : (0:Int32).toInt ≤ (0:Int)) (by decide : (0:Int) ≤ 60)) ((by rw [e25]; exact x_up2_off (Or.inl (by decide)) : g25 69 2 = g24 69 2).trans ((by rw [e24]; exact x_up2_off (Or.inl (by decide)) : g24 69 2 = gi 69 2).trans rfl)) ((by rw [e25]; exact x_up2_off (Or.inl (by decide)) : g25 72 ar1.toNatClampNeg = g24 72 ar1.toNatClampNeg).trans (by rw [e24]; exact x_up2_at _ _ _ _ : g24 72 ar1.toNatClampNeg = ar2)) (by rw [e25]; exact x_up2_at _ _ _ _ : g25 73 ar1.toNatClampNeg = ar3) rfl
            · have l37 : 61 ≤ ar3.toInt := t_ltl (t_nle h22) (by decide : (60:Int) ≤ (60:Int32).toInt) rfl
              refine ev_loc f_X12_tray (nx := 27) rfl rfl rfl rfl ?_
              refine ev_ic f_X12_tray (nx := 28) (v := 1) rfl (by decide) rfl ?_
              refine ev_inV2 f_X12_tray (nx := 31) (lo2 := [(0, .ref 69), (1, .int 1)]) rfl rfl rfl rfl f_X12_is (hI.wf.s rfl) rfl rfl rfl rfl rfl ?_
              refine ev_loc f_X12_is (nx := 1) rfl rfl rfl rfl ?_
              refine ev_loc f_X12_is (nx := 2) rfl rfl rfl rfl ?_
              refine ev_putIT f_X12_is (nx := 5) rfl (hI.wf.s rfl) rfl rfl rfl (hI.put0 (hI.wf.s rfl) rfl rfl) (hX.upI rfl) (fun g38 e38 hI hX => ?_)
              refine ev_loc f_X12_is (nx := 6) rfl rfl rfl rfl ?_
              refine ev_f f_X12_is (t1 := 9) (t2 := 13) rfl rfl rfl (by decide) ?_
              refine ev_ic f_X12_is (nx := 14) (v := 0) rfl (by decide) rfl ?_
              refine ev_retK1 f_X12_is rfl rfl rfl ?_
              exact ev_ret f_X12_tray rfl rfl rfl ⟨_, _, _, rfl, hI, hX, ⟨_, rfl, (by decide : (0:Int) ≤ (0:Int32).toInt), (Int.le_trans (by decide : (0:Int32).toInt ≤ (0:Int)) (by decide : (0:Int) ≤ 1)), (show ((0 : Int) = 1 → (g38 69 2).toInt = 0) ∧ ((0 : Int) ≠ 1 → (g38 69 2).toInt = 1) from ⟨fun h => (by have ffs : (g38 69 2).toInt = 1 := (congrArg Int32.toInt (by rw [e38]; exact x_up2_at _ _ _ _ : g38 69 2 = 1)).trans (by decide); omega), fun h => (by have ffs : (g38 69 2).toInt = 1 := (congrArg Int32.toInt (by rw [e38]; exact x_up2_at _ _ _ _ : g38 69 2 = 1)).trans (by decide); omega)⟩)⟩⟩
noncomputable def wl_g_river : List (Nat × Nat) := [(69, 2), (69, 10), (69, 11), (69, 12), (69, 13), (69, 14), (69, 15), (69, 16), (69, 17), (69, 18), (69, 19), (69, 20), (70, 10349), (70, 140011400), (70, 140011749), (70, 140111401), (70, 140211402), (70, 140411404), (70, 140511405), (70, 140611406), (70, 140711407), (70, 141011452), (70, 141111458), (70, 145211482), (70, 145311483), (70, 145411484), (70, 145511485), (70, 145611486), (70, 148211500), (70, 148311501), (70, 148411502), (71, 10017), (71, 7210089), (76, 9999)]
noncomputable def Q_g_river (gi : Nat → Nat → Int32) (gl : Nat → Nat → Int64) (gr : Nat → Nat → Value) (J0 : Nat) (ar1 : Int32) : Int32 → (Nat → Nat → Int32) → (Nat → Nat → Int64) → (Nat → Nat → Value) → Prop := fun (v : Int32) (gi2 : Nat → Nat → Int32) (gl2 : Nat → Nat → Int64) (gr2 : Nat → Nat → Value) => (¬ (0 ≤ ar1.toInt ∧ ar1.toInt ≤ (gi 69 10).toInt) → (gi2 69 2).toInt = 1) ∧ ((0 ≤ ar1.toInt ∧ ar1.toInt ≤ (gi 69 10).toInt) → (v.toInt = -1 → (gi2 69 2).toInt = 9) ∧ (v.toInt ≠ -1 → (gi2 69 2).toInt = 0))
theorem c_g_river {X : x_Ext} {d : Nat} {sh : List (Nat ⊕ (Nat × Nat))} {gi : Nat → Nat → Int32} {gl : Nat → Nat → Int64} {gr : Nat → Nat → Value} (hI : t_I sh gi gr) (J0 : Nat) (b_J0l : 0 ≤ J0) (b_J0u : J0 < 350) (ar1 : Int32) : x_Me X (d + 10) n_X12_river [.ref 69, .int ar1] (sh, gi, gl, gr) (t_PI wl_g_river sh gi gl gr (-1) 6 (Q_g_river gi gl gr J0 ar1)) := by
  have hX : t_X wl_g_river sh gi gl gr gi gl gr := t_X.rf
  refine me_i f_X12_river (hI.wf.s rfl) rfl rfl rfl ?_
  obtain ⟨l2, u2⟩ := hI.b (hI.wf.s (k := 69) rfl) (t_bdK rfl : t_bd 11 10 = some (0, 900))
  obtain ⟨l3, u3⟩ := hI.b (hI.wf.s (k := 69) rfl) (t_bdK rfl : t_bd 11 12 = some (0, 4))
  obtain ⟨l4, u4⟩ := hI.b (hI.wf.s (k := 69) rfl) (t_bdK rfl : t_bd 11 14 = some (0, 900))
  obtain ⟨l5, u5⟩ := hI.ab (by decide +kernel : t_abr 70 3 3 0 12 = true) (Nat.le_refl _) (Nat.le_refl _)
  obtain ⟨l6, u6⟩ := hI.ab (by decide +kernel : t_abr 70 4 4 0 20 = true) (Nat.le_refl _) (Nat.le_refl _)
  obtain ⟨l7, u7⟩ := hI.ab (by decide +kernel : t_abr 70 1403 1403 0 12 = true) (Nat.le_refl _) (Nat.le_refl _)
  obtain ⟨l8, u8⟩ := hI.ab (by decide +kernel : t_abr 70 1404 1404 0 20 = true) (Nat.le_refl _) (Nat.le_refl _)
  refine ev_loc f_X12_river (nx := 1) rfl rfl rfl rfl ?_
  refine ev_loc f_X12_river (nx := 2) rfl rfl rfl rfl ?_
  refine ev_sp f_X12_river (nx := 5) (v := 900) rfl (by decide) rfl ?_
  refine ev_qI f_X12_river (nx := 8) (r := []) rfl rfl rfl rfl rfl rfl rfl (c_m_begins hI (ar1) (900)) rfl hX rfl (fun w9 gi9 gl9 gr9 l9 u9 hI hX hC9 q9 => ?_)
  have q9 : (w9.toInt = 1 → (0 ≤ ar1.toInt ∧ ar1.toInt ≤ (gi 69 10).toInt ∧ ar1.toInt ≤ 900) ∧ (gi9 69 10).toInt = 0) ∧ (w9.toInt = 0 → ¬ (0 ≤ ar1.toInt ∧ ar1.toInt ≤ (gi 69 10).toInt ∧ ar1.toInt ≤ 900) ∧ (gi9 69 10).toInt = (gi 69 10).toInt) := q9
  obtain ⟨l10, u10⟩ := hI.b (hI.wf.s (k := 69) rfl) (t_bdK rfl : t_bd 11 10 = some (0, 900))
  obtain ⟨l11, u11⟩ := hI.b (hI.wf.s (k := 69) rfl) (t_bdK rfl : t_bd 11 12 = some (0, 4))
  obtain ⟨l12, u12⟩ := hI.b (hI.wf.s (k := 69) rfl) (t_bdK rfl : t_bd 11 14 = some (0, 900))
  refine ev_if f_X12_river (t1 := 11) (t2 := 17) rfl rfl rfl (fun h13 => ?_) (fun h13 => ?_)
  · have u14 : w9.toInt ≤ 0 := t_equ h13 (by decide : (0:Int32).toInt ≤ (0:Int))
    refine ev_loc f_X12_river (nx := 12) rfl rfl rfl rfl ?_
    refine ev_ic f_X12_river (nx := 13) (v := 1) rfl (by decide) rfl ?_
    refine ev_inV2 f_X12_river (nx := 16) (lo2 := [(0, .ref 69), (1, .int 1)]) rfl rfl rfl rfl f_X12_refuse (hI.wf.s rfl) rfl rfl rfl rfl rfl ?_
    refine ev_loc f_X12_refuse (nx := 1) rfl rfl rfl rfl ?_
    refine ev_loc f_X12_refuse (nx := 2) rfl rfl rfl rfl ?_
    refine ev_putIT f_X12_refuse (nx := 5) rfl (hI.wf.s rfl) rfl rfl rfl (hI.put0 (hI.wf.s rfl) rfl rfl) (hX.upI rfl) (fun g15 e15 hI hX => ?_)
    refine ev_ic f_X12_refuse (nx := 6) (v := -1) rfl (by decide) rfl ?_
    refine ev_retK1 f_X12_refuse rfl rfl rfl ?_
    exact ev_ret f_X12_river rfl rfl rfl ⟨_, _, _, rfl, hI, hX, ⟨_, rfl, (by decide : ((-1):Int) ≤ ((-1):Int32).toInt), (Int.le_trans (by decide : ((-1):Int32).toInt ≤ ((-1):Int)) (by decide : ((-1):Int) ≤ 6)), (show (¬ (0 ≤ ar1.toInt ∧ ar1.toInt ≤ (gi 69 10).toInt) → (g15 69 2).toInt = 1) ∧ ((0 ≤ ar1.toInt ∧ ar1.toInt ≤ (gi 69 10).toInt) → (((-1) : Int) = -1 → (g15 69 2).toInt = 9) ∧ (((-1) : Int) ≠ -1 → (g15 69 2).toInt = 0)) from ⟨fun h => (by have ffs : (g15 69 2).toInt = 1 := (congrArg Int32.toInt (by rw [e15]; exact x_up2_at _ _ _ _ : g15 69 2 = 1)).trans (by decide); omega), fun h => ⟨fun h2 => (by have ffs : (g15 69 2).toInt = 1 := (congrArg Int32.toInt (by rw [e15]; exact x_up2_at _ _ _ _ : g15 69 2 = 1)).trans (by decide); omega), fun h2 => (by have ffs : (g15 69 2).toInt = 1 := (congrArg Int32.toInt (by rw [e15]; exact x_up2_at _ _ _ _ : g15 69 2 = 1)).trans (by decide); omega)⟩⟩)⟩⟩
  · have r16 : w9.toInt ≠ 0 := fun e => h13 (Int32.toInt_inj.mp (e.trans (by decide : (0:Int) = (0 : Int32).toInt)))
    have l17 : 1 ≤ w9.toInt := t_nel h13 l9 rfl rfl
    refine ev_ic f_X12_river (nx := 18) (v := 0) rfl (by decide) rfl ?_
    refine ev_loc f_X12_river (nx := 19) (lo' := [(2, .int 0), (0, .ref 69), (1, .int ar1)]) rfl rfl rfl rfl ?_
    have L18 : ∀ (m18 : Nat) (gi18 : Nat → Nat → Int32) (gl18 : Nat → Nat → Int64) (gr18 : Nat → Nat → Value) (y18_2 : Int32), t_I sh gi18 gr18 → t_X wl_g_river sh gi gl gr gi18 gl18 gr18 → 0 ≤ y18_2.toInt → y18_2.toInt ≤ 350 → gi18 69 10 = (gi9 69 10) → gi18 69 12 = (gi9 69 12) → gi18 69 14 = (gi9 69 14) → gi18 69 2 = (gi 69 2) → gi18 70 J0 = (gi 70 J0) → gi18 70 3 = (gi 70 3) → gi18 70 4 = (gi 70 4) → (y18_2.toInt > 3 → (gi18 70 1403).toInt = 0) → (350 - y18_2.toInt).toNat = m18 → x_Ev X (d + 10) n_X12_river 19 [(2, .int y18_2), (0, .ref 69), (1, .int ar1)] [] (sh, gi18, gl18, gr18) (t_PI wl_g_river sh gi gl gr (-1) 6 (Q_g_river gi gl gr J0 ar1)) := by
      intro m18
      induction m18 using Nat.strongRecOn with
      | _ m18 ih18 =>
      intro gi18 gl18 gr18 y18_2 hI hX l18_2 u18_2 c18_0 c18_1 c18_2 c18_3 c18_4 c18_5 c18_6 j18_0 hm18
      obtain ⟨l19, u19⟩ := hI.ab (by decide +kernel : t_abr 70 1403 1403 0 12 = true) (Nat.le_refl _) (Nat.le_refl _)
      obtain ⟨l20, u20⟩ := hI.ab (by decide +kernel : t_abr 70 1404 1404 0 20 = true) (Nat.le_refl _) (Nat.le_refl _)
      refine ev_loc f_X12_river (nx := 20) rfl rfl rfl rfl ?_
      refine ev_sp f_X12_river (nx := 23) (v := 350) rfl (by decide) rfl ?_
      refine ev_if f_X12_river (t1 := 43) (t2 := 26) rfl rfl rfl (fun h21 => ?_) (fun h21 => ?_)
      · have l22 : 350 ≤ y18_2.toInt := t_lel h21 (by decide : (350:Int) ≤ (350:Int32).toInt)
        refine ev_loc f_X12_river (nx := 44) rfl rfl rfl rfl ?_
        refine ev_getR f_X12_river (nx := 47) rfl (hI.wf.s rfl) rfl rfl (hI.wf.r rfl) rfl rfl ?_
        refine ev_sp f_X12_river (nx := 50) (v := 1404) rfl (by decide) rfl ?_
        refine ev_ic f_X12_river (nx := 51) (v := 5) rfl (by decide) rfl ?_
        refine ev_iastT f_X12_river (nx := 52) rfl (hI.wf.s rfl) (by decide : (1404:Int) ≤ (1404:Int32).toInt) (by decide) (by decide : (1404:Int32).toInt ≤ (1404:Int)) (by decide) rfl (hI.astL (hI.wf.s rfl) (by decide +kernel : t_abw 70 1404 1404 5 5 = true) (t_cl1 (by decide : (1404:Int) ≤ (1404:Int32).toInt) (by decide)) (t_cl2 (by decide : (1404:Int) ≤ (1404:Int32).toInt) (by decide : (1404:Int32).toInt ≤ (1404:Int)) (by decide) (by decide)) (by decide : (5:Int) ≤ (5:Int32).toInt) (by decide : (5:Int32).toInt ≤ (5:Int)) rfl) (hX.upI (t_inR (p := 1404) (m := 1404) rfl (by decide : (1404:Int) ≤ (1404:Int32).toInt) (by decide) (by decide : (1404:Int32).toInt ≤ (1404:Int)) (by decide) (by decide))) (fun g23 e23 hI hX => ?_)
        refine ev_loc f_X12_river (nx := 53) rfl rfl rfl rfl ?_
        refine ev_ic f_X12_river (nx := 54) (v := 0) rfl (by decide) rfl ?_
        refine ev_putIT f_X12_river (nx := 57) rfl (hI.wf.s rfl) rfl rfl rfl (hI.put0 (hI.wf.s rfl) rfl rfl) (hX.upI rfl) (fun g24 e24 hI hX => ?_)
        refine ev_ic f_X12_river (nx := 58) (v := 1) rfl (by decide) rfl ?_
        refine ev_loc f_X12_river (nx := 59) (lo' := [(2, .int 1), (0, .ref 69), (1, .int ar1)]) rfl rfl rfl rfl ?_
        have L25 : ∀ (m25 : Nat) (gi25 : Nat → Nat → Int32) (gl25 : Nat → Nat → Int64) (gr25 : Nat → Nat → Value) (y25_2 : Int32), t_I sh gi25 gr25 → t_X wl_g_river sh gi gl gr gi25 gl25 gr25 → 0 ≤ y25_2.toInt → y25_2.toInt ≤ 1 → gi25 69 10 = (gi9 69 10) → gi25 69 2 = (gi 69 2) → gi25 70 J0 = (gi 70 J0) → gi25 70 1403 = (gi18 70 1403) → gi25 70 3 = (gi 70 3) → gi25 70 4 = (gi 70 4) → (gi25 70 1403).toInt = 0 → 1 ≤ (gi25 70 1404).toInt → (4 * (900 - (gi25 69 14).toInt) + 2 * min (gi25 69 12).toInt 1 + y25_2.toInt).toNat = m25 → x_Ev X (d + 10) n_X12_river 59 [(2, .int y25_2), (0, .ref 69), (1, .int ar1)] [] (sh, gi25, gl25, gr25) (t_PI wl_g_river sh gi gl gr (-1) 6 (Q_g_river gi gl gr J0 ar1)) := by
          intro m25
          induction m25 using Nat.strongRecOn with
          | _ m25 ih25 =>
          intro gi25 gl25 gr25 y25_2 hI hX l25_2 u25_2 c25_0 c25_1 c25_2 c25_3 c25_4 c25_5 j25_0 j25_1 hm25
          obtain ⟨l26, u26⟩ := hI.b (hI.wf.s (k := 69) rfl) (t_bdK rfl : t_bd 11 12 = some (0, 4))
          obtain ⟨l27, u27⟩ := hI.b (hI.wf.s (k := 69) rfl) (t_bdK rfl : t_bd 11 14 = some (0, 900))
          obtain ⟨l28, u28⟩ := hI.ab (by decide +kernel : t_abr 70 1404 1404 0 20 = true) (Nat.le_refl _) (Nat.le_refl _)
          refine ev_loc f_X12_river (nx := 60) rfl rfl rfl rfl ?_
          refine ev_if f_X12_river (t1 := 78) (t2 := 63) rfl rfl rfl (fun h29 => ?_) (fun h29 => ?_)
          · have u30 : y25_2.toInt ≤ 0 := t_equ h29 (by decide : (0:Int32).toInt ≤ (0:Int))
            refine ev_loc f_X12_river (nx := 79) rfl rfl rfl rfl ?_
            refine ev_getI f_X12_river (nx := 82) rfl (hI.wf.s rfl) rfl rfl rfl ?_
            refine ev_if f_X12_river (t1 := 85) (t2 := 145) rfl rfl rfl (fun h31 => ?_) (fun h31 => ?_)
            · have u32 : (gi25 69 18).toInt ≤ 0 := t_equ h31 (by decide : (0:Int32).toInt ≤ (0:Int))
              have l33 : 0 ≤ (gi25 69 18).toInt := t_eql h31 (by decide : (0:Int) ≤ (0:Int32).toInt)
              refine ev_ic f_X12_river (nx := 86) (v := 0) rfl (by decide) rfl ?_
              refine ev_loc f_X12_river (nx := 87) (lo' := [(3, .int 0), (2, .int y25_2), (0, .ref 69), (1, .int ar1)]) rfl rfl rfl rfl ?_
              have L34 : ∀ (m34 : Nat) (gi34 : Nat → Nat → Int32) (gl34 : Nat → Nat → Int64) (gr34 : Nat → Nat → Value) (y34_3 : Int32), t_I sh gi34 gr34 → t_X wl_g_river sh gi gl gr gi34 gl34 gr34 → 0 ≤ y34_3.toInt → y34_3.toInt ≤ 350 → gi34 69 10 = (gi9 69 10) → gi34 69 18 = (gi25 69 18) → gi34 69 2 = (gi 69 2) → gi34 70 1403 = (gi18 70 1403) → (gi34 70 1403).toInt = 0 → 1 ≤ (gi34 70 1404).toInt → (y34_3.toInt > 3 → (gi34 70 3).toInt = 0) → (y34_3.toInt > 4 → 1 ≤ (gi34 70 4).toInt) → (350 - y34_3.toInt).toNat = m34 → x_Ev X (d + 10) n_X12_river 87 [(3, .int y34_3), (2, .int y25_2), (0, .ref 69), (1, .int ar1)] [] (sh, gi34, gl34, gr34) (t_PI wl_g_river sh gi gl gr (-1) 6 (Q_g_river gi gl gr J0 ar1)) := by
                intro m34
                induction m34 using Nat.strongRecOn with
                | _ m34 ih34 =>
                intro gi34 gl34 gr34 y34_3 hI hX l34_3 u34_3 c34_0 c34_1 c34_2 c34_3 j34_0 j34_1 j34_2 j34_3 hm34
                obtain ⟨l35, u35⟩ := hI.b (hI.wf.s (k := 69) rfl) (t_bdK rfl : t_bd 11 12 = some (0, 4))
                obtain ⟨l36, u36⟩ := hI.b (hI.wf.s (k := 69) rfl) (t_bdK rfl : t_bd 11 14 = some (0, 900))
                obtain ⟨l37, u37⟩ := hI.ab (by decide +kernel : t_abr 70 3 3 0 12 = true) (Nat.le_refl _) (Nat.le_refl _)
                obtain ⟨l38, u38⟩ := hI.ab (by decide +kernel : t_abr 70 4 4 0 20 = true) (Nat.le_refl _) (Nat.le_refl _)
                obtain ⟨l39, u39⟩ := hI.ab (by decide +kernel : t_abr 70 1404 1404 0 20 = true) (Nat.le_refl _) (Nat.le_refl _)
                refine ev_loc f_X12_river (nx := 88) rfl rfl rfl rfl ?_
                refine ev_sp f_X12_river (nx := 91) (v := 350) rfl (by decide) rfl ?_
                refine ev_if f_X12_river (t1 := 116) (t2 := 94) rfl rfl rfl (fun h40 => ?_) (fun h40 => ?_)
                · have l41 : 350 ≤ y34_3.toInt := t_lel h40 (by decide : (350:Int) ≤ (350:Int32).toInt)
                  refine ev_ic f_X12_river (nx := 117) (v := 0) rfl (by decide) rfl ?_
                  refine ev_loc f_X12_river (nx := 118) (lo' := [(3, .int 0), (2, .int y25_2), (0, .ref 69), (1, .int ar1)]) rfl rfl rfl rfl ?_
                  have L42 : ∀ (m42 : Nat) (gi42 : Nat → Nat → Int32) (gl42 : Nat → Nat → Int64) (gr42 : Nat → Nat → Value) (y42_3 : Int32), t_I sh gi42 gr42 → t_X wl_g_river sh gi gl gr gi42 gl42 gr42 → 0 ≤ y42_3.toInt → y42_3.toInt ≤ 18 → gi42 69 10 = (gi9 69 10) → gi42 69 18 = (gi25 69 18) → gi42 69 2 = (gi 69 2) → gi42 70 J0 = (gi34 70 J0) → gi42 70 1403 = (gi18 70 1403) → gi42 70 3 = (gi34 70 3) → gi42 70 4 = (gi34 70 4) → (gi42 70 3).toInt = 0 → 1 ≤ (gi42 70 4).toInt → (18 - y42_3.toInt).toNat = m42 → x_Ev X (d + 10) n_X12_river 118 [(3, .int y42_3), (2, .int y25_2), (0, .ref 69), (1, .int ar1)] [] (sh, gi42, gl42, gr42) (t_PI wl_g_river sh gi gl gr (-1) 6 (Q_g_river gi gl gr J0 ar1)) := by
                    intro m42
                    induction m42 using Nat.strongRecOn with
                    | _ m42 ih42 =>
                    intro gi42 gl42 gr42 y42_3 hI hX l42_3 u42_3 c42_0 c42_1 c42_2 c42_3 c42_4 c42_5 c42_6 j42_0 j42_1 hm42
                    obtain ⟨l43, u43⟩ := hI.b (hI.wf.s (k := 69) rfl) (t_bdK rfl : t_bd 11 12 = some (0, 4))
                    obtain ⟨l44, u44⟩ := hI.b (hI.wf.s (k := 69) rfl) (t_bdK rfl : t_bd 11 14 = some (0, 900))
                    obtain ⟨l45, u45⟩ := hI.ab (by decide +kernel : t_abr 70 1404 1404 0 20 = true) (Nat.le_refl _) (Nat.le_refl _)
                    refine ev_loc f_X12_river (nx := 119) rfl rfl rfl rfl ?_
                    refine ev_bp f_X12_river (nx := 121) (v := 18) rfl (by decide) rfl ?_
                    refine ev_if f_X12_river (t1 := 145) (t2 := 124) rfl rfl rfl (fun h46 => ?_) (fun h46 => ?_)
                    · have l47 : 18 ≤ y42_3.toInt := t_lel h46 (by decide : (18:Int) ≤ (18:Int32).toInt)
                      refine ev_loc f_X12_river (nx := 146) rfl rfl rfl rfl ?_
                      refine ev_loc f_X12_river (nx := 147) rfl rfl rfl rfl ?_
                      refine ev_getR f_X12_river (nx := 150) rfl (hI.wf.s rfl) rfl rfl (hI.wf.r rfl) rfl rfl ?_
                      refine ev_ic f_X12_river (nx := 151) (v := 1) rfl (by decide) rfl ?_
                      obtain ⟨l48, u48⟩ := hI.ab (by decide +kernel : t_abr 70 1 1 0 6 = true) (Nat.le_refl _) (Nat.le_refl _)
                      refine ev_ialdv f_X12_river (nx := 152) (w := (gi42 70 1)) rfl (hI.wf.s rfl) (by decide) (rfl : (1 : Int32).toNatClampNeg = 1) (by decide) rfl rfl ?_
                      refine ev_inV2 f_X12_river (nx := 155) (lo2 := [(0, .ref 69), (1, .int (gi42 70 1))]) rfl rfl rfl rfl f_X12_taken (hI.wf.s rfl) rfl rfl rfl rfl rfl ?_
                      refine ev_loc f_X12_taken (nx := 1) rfl rfl rfl rfl ?_
                      refine ev_loc f_X12_taken (nx := 2) rfl rfl rfl rfl ?_
                      refine ev_gvI f_X12_taken (nx := 5) (w := (gi25 69 18)) rfl (hI.wf.s rfl) rfl rfl c42_1 rfl ?_
                      refine ev_putIT f_X12_taken (nx := 8) rfl (hI.wf.s rfl) rfl rfl rfl (hI.put0 (hI.wf.s rfl) rfl rfl) (hX.upI rfl) (fun g49 e49 hI hX => ?_)
                      refine ev_loc f_X12_taken (nx := 9) rfl rfl rfl rfl ?_
                      refine ev_gvI f_X12_taken (nx := 12) (w := (gi25 69 18)) rfl (hI.wf.s rfl) rfl rfl ((by rw [e49]; exact x_up2_off (Or.inr (by decide)) : g49 69 18 = gi42 69 18).trans c42_1) rfl ?_
                      refine ev_t f_X12_taken (t1 := 24) (t2 := 15) rfl rfl rfl (t_leT u32 (by decide : (0:Int) ≤ (0:Int32).toInt) (by decide)) ?_
                      refine ev_loc f_X12_taken (nx := 25) rfl rfl rfl rfl ?_
                      refine ev_loc f_X12_taken (nx := 26) rfl rfl rfl rfl ?_
                      refine ev_inV2 f_X12_taken (nx := 29) (lo2 := [(0, .ref 69), (1, .int (gi42 70 1))]) rfl rfl rfl rfl f_X12_gives (hI.wf.s rfl) rfl rfl rfl rfl rfl ?_
                      refine ev_loc f_X12_gives (nx := 1) rfl rfl rfl rfl ?_
                      refine ev_ic f_X12_gives (nx := 2) (v := 0) rfl (by decide) rfl ?_
                      refine ev_putIT f_X12_gives (nx := 5) rfl (hI.wf.s rfl) rfl rfl rfl (hI.put0 (hI.wf.s rfl) rfl rfl) (hX.upI rfl) (fun g50 e50 hI hX => ?_)
                      refine ev_loc f_X12_gives (nx := 6) rfl rfl rfl rfl ?_
                      refine ev_retK1 f_X12_gives rfl rfl rfl ?_
                      refine ev_retK1 f_X12_taken rfl rfl rfl ?_
                      exact ev_ret f_X12_river rfl rfl rfl ⟨_, _, _, rfl, hI, hX, ⟨_, rfl, (Int.le_trans (by decide : ((-1):Int) ≤ 0) l48), u48, (show (¬ (0 ≤ ar1.toInt ∧ ar1.toInt ≤ (gi 69 10).toInt) → (g50 69 2).toInt = 1) ∧ ((0 ≤ ar1.toInt ∧ ar1.toInt ≤ (gi 69 10).toInt) → ((gi42 70 1).toInt = -1 → (g50 69 2).toInt = 9) ∧ ((gi42 70 1).toInt ≠ -1 → (g50 69 2).toInt = 0)) from ⟨fun h => (by have ffs : (g50 69 2).toInt = 0 := (congrArg Int32.toInt (by rw [e50]; exact x_up2_at _ _ _ _ : g50 69 2 = 0)).trans (by decide); omega), fun h => ⟨fun h2 => (by have ffs : (g50 69 2).toInt = 0 := (congrArg Int32.toInt (by rw [e50]; exact x_up2_at _ _ _ _ : g50 69 2 = 0)).trans (by decide); omega), fun h2 => (by have ffs : (g50 69 2).toInt = 0 := (congrArg Int32.toInt (by rw [e50]; exact x_up2_at _ _ _ _ : g50 69 2 = 0)).trans (by decide); omega)⟩⟩)⟩⟩
                    · have u51 : y42_3.toInt ≤ 17 := t_ltu (t_nle h46) (by decide : (18:Int32).toInt ≤ (18:Int)) rfl
                      refine ev_loc f_X12_river (nx := 125) rfl rfl rfl rfl ?_
                      refine ev_getR f_X12_river (nx := 128) rfl (hI.wf.s rfl) rfl rfl (hI.wf.r rfl) rfl rfl ?_
                      refine ev_loc f_X12_river (nx := 129) rfl rfl rfl rfl ?_
                      refine ev_loc f_X12_river (nx := 130) rfl rfl rfl rfl ?_
                      refine ev_getR f_X12_river (nx := 133) rfl (hI.wf.s rfl) rfl rfl (hI.wf.r rfl) rfl rfl ?_
                      refine ev_bp f_X12_river (nx := 135) (v := 72) rfl (by decide) rfl ?_
                      refine ev_loc f_X12_river (nx := 136) rfl rfl rfl rfl ?_
                      refine ev_addK f_X12_river (nx := 137) (c := 72) (l := 72) (u := 89) rfl (by decide) l42_3 u51 rfl rfl (by decide) (by decide) rfl (fun z52 e52 l52 u52 => ?_)
                      refine ev_laldT f_X12_river (nx := 138) rfl (hI.wf.s rfl) l52 (by decide) u52 (by decide) rfl (fun w53 e53 => ?_)
                      refine ev_lastT f_X12_river (nx := 139) rfl (hI.wf.s rfl) l42_3 (by decide) u51 (by decide) rfl (hX.upL (t_inR (p := 0) (m := 17) rfl l42_3 (by decide) u51 (by decide) (by decide))) (fun g54 e54 hX => ?_)
                      refine ev_incR f_X12_river (nx := 142) (c := 1) (l := 1) (u := 18) rfl rfl (by decide) (by decide) l42_3 u51 rfl rfl (by decide) (by decide) rfl (fun z55 e55 l55 u55 => ?_)
                      refine ev_jmp f_X12_river (nx := 118) rfl rfl rfl ?_
                      refine ev_sub (lo := [(3, .int z55), (2, .int y25_2), (0, .ref 69), (1, .int ar1)]) rfl (t_sc rfl (t_sc rfl (t_sc rfl (t_sc rfl t_sn)))) ?_
                      exact ih42 _ (by omega) gi42 g54 gr42 (z55) hI hX  (Int.le_trans (by decide : (0:Int) ≤ 1) l55) u55 c42_0 c42_1 c42_2 c42_3 c42_4 c42_5 c42_6 (by have ff56 : (gi42 70 3).toInt = (gi34 70 3).toInt := congrArg Int32.toInt c42_5; omega) (by have ff57 : (gi42 70 4).toInt = (gi34 70 4).toInt := congrArg Int32.toInt c42_6; omega) rfl
                  refine ev_sub (lo := [(3, .int 0), (2, .int y25_2), (0, .ref 69), (1, .int ar1)]) rfl (t_sc rfl (t_sc rfl (t_sc rfl (t_sc rfl t_sn)))) ?_
                  exact L42 _ gi34 gl34 gr34 (0) hI hX  (by decide : (0:Int) ≤ (0:Int32).toInt) (Int.le_trans (by decide : (0:Int32).toInt ≤ (0:Int)) (by decide : (0:Int) ≤ 18)) c34_0 c34_1 c34_2 rfl c34_3 rfl rfl (by omega) (by omega) rfl
                · have u58 : y34_3.toInt ≤ 349 := t_ltu (t_nle h40) (by decide : (350:Int32).toInt ≤ (350:Int)) rfl
                  refine ev_loc f_X12_river (nx := 95) rfl rfl rfl rfl ?_
                  refine ev_getR f_X12_river (nx := 98) rfl (hI.wf.s rfl) rfl rfl (hI.wf.r rfl) rfl rfl ?_
                  refine ev_loc f_X12_river (nx := 99) rfl rfl rfl rfl ?_
                  refine ev_loc f_X12_river (nx := 100) rfl rfl rfl rfl ?_
                  refine ev_getR f_X12_river (nx := 103) rfl (hI.wf.s rfl) rfl rfl (hI.wf.r rfl) rfl rfl ?_
                  refine ev_sp f_X12_river (nx := 106) (v := 1400) rfl (by decide) rfl ?_
                  refine ev_loc f_X12_river (nx := 107) rfl rfl rfl rfl ?_
                  refine ev_addK f_X12_river (nx := 108) (c := 1400) (l := 1400) (u := 1749) rfl (by decide) l34_3 u58 rfl rfl (by decide) (by decide) rfl (fun z59 e59 l59 u59 => ?_)
                  refine ev_ialdT f_X12_river (nx := 109) rfl (hI.wf.s rfl) l59 (by decide) u59 (by decide) rfl (fun w60 e60 => ?_)
                  refine ev_iastT f_X12_river (nx := 110) rfl (hI.wf.s rfl) l34_3 (by decide) u58 (by decide) rfl (hI.astS (a := 4) (b := 0) (k := y34_3.toInt.toNat) e60 (by omega) (by omega) (by omega) (by omega) (by omega)) (hX.upI (t_inR (p := 0) (m := 349) rfl l34_3 (by decide) u58 (by decide) (by decide))) (fun g61 e61 hI hX => ?_)
                  refine ev_incR f_X12_river (nx := 113) (c := 1) (l := 1) (u := 350) rfl rfl (by decide) (by decide) l34_3 u58 rfl rfl (by decide) (by decide) rfl (fun z62 e62 l62 u62 => ?_)
                  refine ev_jmp f_X12_river (nx := 87) rfl rfl rfl ?_
                  refine ev_sub (lo := [(3, .int z62), (2, .int y25_2), (0, .ref 69), (1, .int ar1)]) rfl (t_sc rfl (t_sc rfl (t_sc rfl (t_sc rfl t_sn)))) ?_
                  exact ih34 _ (by omega) g61 gl34 gr34 (z62) hI hX  (Int.le_trans (by decide : (0:Int) ≤ 1) l62) u62 ((by rw [e61]; exact x_up2_off (Or.inl (by decide)) : g61 69 10 = gi34 69 10).trans c34_0) ((by rw [e61]; exact x_up2_off (Or.inl (by decide)) : g61 69 18 = gi34 69 18).trans c34_1) ((by rw [e61]; exact x_up2_off (Or.inl (by decide)) : g61 69 2 = gi34 69 2).trans c34_2) ((by rw [e61]; exact x_up2_off (Or.inr (t_neCu l34_3 u58 (by decide) (by decide))) : g61 70 1403 = gi34 70 1403).trans c34_3) (by have ff63 : (g61 70 1403).toInt = (gi18 70 1403).toInt := congrArg Int32.toInt ((by rw [e61]; exact x_up2_off (Or.inr (t_neCu l34_3 u58 (by decide) (by decide))) : g61 70 1403 = gi34 70 1403).trans c34_3); omega) (by have ff64 : (g61 70 1404).toInt = (gi34 70 1404).toInt := congrArg Int32.toInt ((by rw [e61]; exact x_up2_off (Or.inr (t_neCu l34_3 u58 (by decide) (by decide))) : g61 70 1404 = gi34 70 1404).trans rfl); omega) (by rcases t_stc e61 3 with ⟨h1, h2⟩ | ⟨h1, h2⟩ <;> rw [h2] <;> first | (have hc := t_clamp (i := y34_3) (by omega); have hd := t_clamp (i := z59) (by omega); have hx : z59.toNatClampNeg = 1403 := (by omega); rw [e60, hx]; omega) | (have hc := t_clamp (i := y34_3) (by omega); omega)) (by rcases t_stc e61 4 with ⟨h1, h2⟩ | ⟨h1, h2⟩ <;> rw [h2] <;> first | (have hc := t_clamp (i := y34_3) (by omega); have hd := t_clamp (i := z59) (by omega); have hx : z59.toNatClampNeg = 1404 := (by omega); rw [e60, hx]; omega) | (have hc := t_clamp (i := y34_3) (by omega); omega)) rfl
              refine ev_sub (lo := [(3, .int 0), (2, .int y25_2), (0, .ref 69), (1, .int ar1)]) rfl (t_sc rfl (t_sc rfl (t_sc rfl (t_sc rfl t_sn)))) ?_
              exact L34 _ gi25 gl25 gr25 (0) hI hX  (by decide : (0:Int) ≤ (0:Int32).toInt) (Int.le_trans (by decide : (0:Int32).toInt ≤ (0:Int)) (by decide : (0:Int) ≤ 350)) c25_0 rfl c25_1 c25_3 (by have ff67 : (gi25 70 1403).toInt = (gi18 70 1403).toInt := congrArg Int32.toInt c25_3; omega) (by omega) (by have kf68 : (0 : Int32).toInt = 0 := (by decide); have ff69 : (gi25 70 3).toInt = (gi 70 3).toInt := congrArg Int32.toInt c25_4; omega) (by have kf70 : (0 : Int32).toInt = 0 := (by decide); have ff71 : (gi25 70 4).toInt = (gi 70 4).toInt := congrArg Int32.toInt c25_5; omega) rfl
            · have r72 : (gi25 69 18).toInt ≠ 0 := fun e => h31 (Int32.toInt_inj.mp (e.trans (by decide : (0:Int) = (0 : Int32).toInt)))
              refine ev_loc f_X12_river (nx := 146) rfl rfl rfl rfl ?_
              refine ev_loc f_X12_river (nx := 147) rfl rfl rfl rfl ?_
              refine ev_getR f_X12_river (nx := 150) rfl (hI.wf.s rfl) rfl rfl (hI.wf.r rfl) rfl rfl ?_
              refine ev_ic f_X12_river (nx := 151) (v := 1) rfl (by decide) rfl ?_
              obtain ⟨l73, u73⟩ := hI.ab (by decide +kernel : t_abr 70 1 1 0 6 = true) (Nat.le_refl _) (Nat.le_refl _)
              refine ev_ialdv f_X12_river (nx := 152) (w := (gi25 70 1)) rfl (hI.wf.s rfl) (by decide) (rfl : (1 : Int32).toNatClampNeg = 1) (by decide) rfl rfl ?_
              refine ev_inV2 f_X12_river (nx := 155) (lo2 := [(0, .ref 69), (1, .int (gi25 70 1))]) rfl rfl rfl rfl f_X12_taken (hI.wf.s rfl) rfl rfl rfl rfl rfl ?_
              refine ev_loc f_X12_taken (nx := 1) rfl rfl rfl rfl ?_
              refine ev_loc f_X12_taken (nx := 2) rfl rfl rfl rfl ?_
              refine ev_gvI f_X12_taken (nx := 5) (w := (gi25 69 18)) rfl (hI.wf.s rfl) rfl rfl rfl rfl ?_
              refine ev_putIT f_X12_taken (nx := 8) rfl (hI.wf.s rfl) rfl rfl rfl (hI.put0 (hI.wf.s rfl) rfl rfl) (hX.upI rfl) (fun g74 e74 hI hX => ?_)
              refine ev_loc f_X12_taken (nx := 9) rfl rfl rfl rfl ?_
              refine ev_gvI f_X12_taken (nx := 12) (w := (gi25 69 18)) rfl (hI.wf.s rfl) rfl rfl ((by rw [e74]; exact x_up2_off (Or.inr (by decide)) : g74 69 18 = gi25 69 18).trans rfl) rfl ?_
              refine ev_if f_X12_taken (t1 := 24) (t2 := 15) rfl rfl rfl (fun h75 => ?_) (fun h75 => ?_)
              · have u76 : (gi25 69 18).toInt ≤ 0 := t_leu h75 (by decide : (0:Int32).toInt ≤ (0:Int))
                refine ev_loc f_X12_taken (nx := 25) rfl rfl rfl rfl ?_
                refine ev_loc f_X12_taken (nx := 26) rfl rfl rfl rfl ?_
                refine ev_inV2 f_X12_taken (nx := 29) (lo2 := [(0, .ref 69), (1, .int (gi25 70 1))]) rfl rfl rfl rfl f_X12_gives (hI.wf.s rfl) rfl rfl rfl rfl rfl ?_
                refine ev_loc f_X12_gives (nx := 1) rfl rfl rfl rfl ?_
                refine ev_ic f_X12_gives (nx := 2) (v := 0) rfl (by decide) rfl ?_
                refine ev_putIT f_X12_gives (nx := 5) rfl (hI.wf.s rfl) rfl rfl rfl (hI.put0 (hI.wf.s rfl) rfl rfl) (hX.upI rfl) (fun g77 e77 hI hX => ?_)
                refine ev_loc f_X12_gives (nx := 6) rfl rfl rfl rfl ?_
                refine ev_retK1 f_X12_gives rfl rfl rfl ?_
                refine ev_retK1 f_X12_taken rfl rfl rfl ?_
                exact ev_ret f_X12_river rfl rfl rfl ⟨_, _, _, rfl, hI, hX, ⟨_, rfl, (Int.le_trans (by decide : ((-1):Int) ≤ 0) l73), u73, (show (¬ (0 ≤ ar1.toInt ∧ ar1.toInt ≤ (gi 69 10).toInt) → (g77 69 2).toInt = 1) ∧ ((0 ≤ ar1.toInt ∧ ar1.toInt ≤ (gi 69 10).toInt) → ((gi25 70 1).toInt = -1 → (g77 69 2).toInt = 9) ∧ ((gi25 70 1).toInt ≠ -1 → (g77 69 2).toInt = 0)) from ⟨fun h => (by have ffs : (g77 69 2).toInt = 0 := (congrArg Int32.toInt (by rw [e77]; exact x_up2_at _ _ _ _ : g77 69 2 = 0)).trans (by decide); omega), fun h => ⟨fun h2 => (by have ffs : (g77 69 2).toInt = 0 := (congrArg Int32.toInt (by rw [e77]; exact x_up2_at _ _ _ _ : g77 69 2 = 0)).trans (by decide); omega), fun h2 => (by have ffs : (g77 69 2).toInt = 0 := (congrArg Int32.toInt (by rw [e77]; exact x_up2_at _ _ _ _ : g77 69 2 = 0)).trans (by decide); omega)⟩⟩)⟩⟩
              · have l78 : 1 ≤ (gi25 69 18).toInt := t_ltl (t_nle h75) (by decide : (0:Int) ≤ (0:Int32).toInt) rfl
                refine ev_loc f_X12_taken (nx := 16) rfl rfl rfl rfl ?_
                refine ev_bp f_X12_taken (nx := 18) (v := 9) rfl (by decide) rfl ?_
                refine ev_inV2 f_X12_taken (nx := 21) (lo2 := [(0, .ref 69), (1, .int 9)]) rfl rfl rfl rfl f_X12_refuse (hI.wf.s rfl) rfl rfl rfl rfl rfl ?_
                refine ev_loc f_X12_refuse (nx := 1) rfl rfl rfl rfl ?_
                refine ev_loc f_X12_refuse (nx := 2) rfl rfl rfl rfl ?_
                refine ev_putIT f_X12_refuse (nx := 5) rfl (hI.wf.s rfl) rfl rfl rfl (hI.put0 (hI.wf.s rfl) rfl rfl) (hX.upI rfl) (fun g79 e79 hI hX => ?_)
                refine ev_ic f_X12_refuse (nx := 6) (v := -1) rfl (by decide) rfl ?_
                refine ev_retK1 f_X12_refuse rfl rfl rfl ?_
                refine ev_jmp f_X12_taken (nx := 29) rfl rfl rfl ?_
                refine ev_retK1 f_X12_taken rfl rfl rfl ?_
                exact ev_ret f_X12_river rfl rfl rfl ⟨_, _, _, rfl, hI, hX, ⟨_, rfl, (by decide : ((-1):Int) ≤ ((-1):Int32).toInt), (Int.le_trans (by decide : ((-1):Int32).toInt ≤ ((-1):Int)) (by decide : ((-1):Int) ≤ 6)), (show (¬ (0 ≤ ar1.toInt ∧ ar1.toInt ≤ (gi 69 10).toInt) → (g79 69 2).toInt = 1) ∧ ((0 ≤ ar1.toInt ∧ ar1.toInt ≤ (gi 69 10).toInt) → (((-1) : Int) = -1 → (g79 69 2).toInt = 9) ∧ (((-1) : Int) ≠ -1 → (g79 69 2).toInt = 0)) from ⟨fun h => (by have ffs : (g79 69 2).toInt = 9 := (congrArg Int32.toInt (by rw [e79]; exact x_up2_at _ _ _ _ : g79 69 2 = 9)).trans (by decide); omega), fun h => ⟨fun h2 => (by have ffs : (g79 69 2).toInt = 9 := (congrArg Int32.toInt (by rw [e79]; exact x_up2_at _ _ _ _ : g79 69 2 = 9)).trans (by decide); omega), fun h2 => (by have ffs : (g79 69 2).toInt = 9 := (congrArg Int32.toInt (by rw [e79]; exact x_up2_at _ _ _ _ : g79 69 2 = 9)).trans (by decide); omega)⟩⟩)⟩⟩
          · have r80 : y25_2.toInt ≠ 0 := fun e => h29 (Int32.toInt_inj.mp (e.trans (by decide : (0:Int) = (0 : Int32).toInt)))
            have l81 : 1 ≤ y25_2.toInt := t_nel h29 l25_2 rfl rfl
            refine ev_loc f_X12_river (nx := 64) rfl rfl rfl rfl ?_
            refine ev_gvI f_X12_river (nx := 67) (w := (gi25 69 12)) rfl (hI.wf.s rfl) rfl rfl rfl rfl ?_
            refine ev_if f_X12_river (t1 := 78) (t2 := 70) rfl rfl rfl (fun h82 => ?_) (fun h82 => ?_)
            · have u83 : (gi25 69 12).toInt ≤ 0 := t_equ h82 (by decide : (0:Int32).toInt ≤ (0:Int))
              refine ev_loc f_X12_river (nx := 79) rfl rfl rfl rfl ?_
              refine ev_getI f_X12_river (nx := 82) rfl (hI.wf.s rfl) rfl rfl rfl ?_
              refine ev_if f_X12_river (t1 := 85) (t2 := 145) rfl rfl rfl (fun h84 => ?_) (fun h84 => ?_)
              · have u85 : (gi25 69 18).toInt ≤ 0 := t_equ h84 (by decide : (0:Int32).toInt ≤ (0:Int))
                have l86 : 0 ≤ (gi25 69 18).toInt := t_eql h84 (by decide : (0:Int) ≤ (0:Int32).toInt)
                refine ev_ic f_X12_river (nx := 86) (v := 0) rfl (by decide) rfl ?_
                refine ev_loc f_X12_river (nx := 87) (lo' := [(3, .int 0), (2, .int y25_2), (0, .ref 69), (1, .int ar1)]) rfl rfl rfl rfl ?_
                have L87 : ∀ (m87 : Nat) (gi87 : Nat → Nat → Int32) (gl87 : Nat → Nat → Int64) (gr87 : Nat → Nat → Value) (y87_3 : Int32), t_I sh gi87 gr87 → t_X wl_g_river sh gi gl gr gi87 gl87 gr87 → 0 ≤ y87_3.toInt → y87_3.toInt ≤ 350 → gi87 69 10 = (gi9 69 10) → gi87 69 18 = (gi25 69 18) → gi87 69 2 = (gi 69 2) → gi87 70 1403 = (gi18 70 1403) → (gi87 70 1403).toInt = 0 → 1 ≤ (gi87 70 1404).toInt → (y87_3.toInt > 3 → (gi87 70 3).toInt = 0) → (y87_3.toInt > 4 → 1 ≤ (gi87 70 4).toInt) → (350 - y87_3.toInt).toNat = m87 → x_Ev X (d + 10) n_X12_river 87 [(3, .int y87_3), (2, .int y25_2), (0, .ref 69), (1, .int ar1)] [] (sh, gi87, gl87, gr87) (t_PI wl_g_river sh gi gl gr (-1) 6 (Q_g_river gi gl gr J0 ar1)) := by
                  intro m87
                  induction m87 using Nat.strongRecOn with
                  | _ m87 ih87 =>
                  intro gi87 gl87 gr87 y87_3 hI hX l87_3 u87_3 c87_0 c87_1 c87_2 c87_3 j87_0 j87_1 j87_2 j87_3 hm87
                  obtain ⟨l88, u88⟩ := hI.b (hI.wf.s (k := 69) rfl) (t_bdK rfl : t_bd 11 12 = some (0, 4))
                  obtain ⟨l89, u89⟩ := hI.b (hI.wf.s (k := 69) rfl) (t_bdK rfl : t_bd 11 14 = some (0, 900))
                  obtain ⟨l90, u90⟩ := hI.ab (by decide +kernel : t_abr 70 3 3 0 12 = true) (Nat.le_refl _) (Nat.le_refl _)
                  obtain ⟨l91, u91⟩ := hI.ab (by decide +kernel : t_abr 70 4 4 0 20 = true) (Nat.le_refl _) (Nat.le_refl _)
                  obtain ⟨l92, u92⟩ := hI.ab (by decide +kernel : t_abr 70 1404 1404 0 20 = true) (Nat.le_refl _) (Nat.le_refl _)
                  refine ev_loc f_X12_river (nx := 88) rfl rfl rfl rfl ?_
                  refine ev_sp f_X12_river (nx := 91) (v := 350) rfl (by decide) rfl ?_
                  refine ev_if f_X12_river (t1 := 116) (t2 := 94) rfl rfl rfl (fun h93 => ?_) (fun h93 => ?_)
                  · have l94 : 350 ≤ y87_3.toInt := t_lel h93 (by decide : (350:Int) ≤ (350:Int32).toInt)
                    refine ev_ic f_X12_river (nx := 117) (v := 0) rfl (by decide) rfl ?_
                    refine ev_loc f_X12_river (nx := 118) (lo' := [(3, .int 0), (2, .int y25_2), (0, .ref 69), (1, .int ar1)]) rfl rfl rfl rfl ?_
                    have L95 : ∀ (m95 : Nat) (gi95 : Nat → Nat → Int32) (gl95 : Nat → Nat → Int64) (gr95 : Nat → Nat → Value) (y95_3 : Int32), t_I sh gi95 gr95 → t_X wl_g_river sh gi gl gr gi95 gl95 gr95 → 0 ≤ y95_3.toInt → y95_3.toInt ≤ 18 → gi95 69 10 = (gi9 69 10) → gi95 69 18 = (gi25 69 18) → gi95 69 2 = (gi 69 2) → gi95 70 J0 = (gi87 70 J0) → gi95 70 1403 = (gi18 70 1403) → gi95 70 3 = (gi87 70 3) → gi95 70 4 = (gi87 70 4) → (gi95 70 3).toInt = 0 → 1 ≤ (gi95 70 4).toInt → (18 - y95_3.toInt).toNat = m95 → x_Ev X (d + 10) n_X12_river 118 [(3, .int y95_3), (2, .int y25_2), (0, .ref 69), (1, .int ar1)] [] (sh, gi95, gl95, gr95) (t_PI wl_g_river sh gi gl gr (-1) 6 (Q_g_river gi gl gr J0 ar1)) := by
                      intro m95
                      induction m95 using Nat.strongRecOn with
                      | _ m95 ih95 =>
                      intro gi95 gl95 gr95 y95_3 hI hX l95_3 u95_3 c95_0 c95_1 c95_2 c95_3 c95_4 c95_5 c95_6 j95_0 j95_1 hm95
                      obtain ⟨l96, u96⟩ := hI.b (hI.wf.s (k := 69) rfl) (t_bdK rfl : t_bd 11 12 = some (0, 4))
                      obtain ⟨l97, u97⟩ := hI.b (hI.wf.s (k := 69) rfl) (t_bdK rfl : t_bd 11 14 = some (0, 900))
                      obtain ⟨l98, u98⟩ := hI.ab (by decide +kernel : t_abr 70 1404 1404 0 20 = true) (Nat.le_refl _) (Nat.le_refl _)
                      refine ev_loc f_X12_river (nx := 119) rfl rfl rfl rfl ?_
                      refine ev_bp f_X12_river (nx := 121) (v := 18) rfl (by decide) rfl ?_
                      refine ev_if f_X12_river (t1 := 145) (t2 := 124) rfl rfl rfl (fun h99 => ?_) (fun h99 => ?_)
                      · have l100 : 18 ≤ y95_3.toInt := t_lel h99 (by decide : (18:Int) ≤ (18:Int32).toInt)
                        refine ev_loc f_X12_river (nx := 146) rfl rfl rfl rfl ?_
                        refine ev_loc f_X12_river (nx := 147) rfl rfl rfl rfl ?_
                        refine ev_getR f_X12_river (nx := 150) rfl (hI.wf.s rfl) rfl rfl (hI.wf.r rfl) rfl rfl ?_
                        refine ev_ic f_X12_river (nx := 151) (v := 1) rfl (by decide) rfl ?_
                        obtain ⟨l101, u101⟩ := hI.ab (by decide +kernel : t_abr 70 1 1 0 6 = true) (Nat.le_refl _) (Nat.le_refl _)
                        refine ev_ialdv f_X12_river (nx := 152) (w := (gi95 70 1)) rfl (hI.wf.s rfl) (by decide) (rfl : (1 : Int32).toNatClampNeg = 1) (by decide) rfl rfl ?_
                        refine ev_inV2 f_X12_river (nx := 155) (lo2 := [(0, .ref 69), (1, .int (gi95 70 1))]) rfl rfl rfl rfl f_X12_taken (hI.wf.s rfl) rfl rfl rfl rfl rfl ?_
                        refine ev_loc f_X12_taken (nx := 1) rfl rfl rfl rfl ?_
                        refine ev_loc f_X12_taken (nx := 2) rfl rfl rfl rfl ?_
                        refine ev_gvI f_X12_taken (nx := 5) (w := (gi25 69 18)) rfl (hI.wf.s rfl) rfl rfl c95_1 rfl ?_
                        refine ev_putIT f_X12_taken (nx := 8) rfl (hI.wf.s rfl) rfl rfl rfl (hI.put0 (hI.wf.s rfl) rfl rfl) (hX.upI rfl) (fun g102 e102 hI hX => ?_)
                        refine ev_loc f_X12_taken (nx := 9) rfl rfl rfl rfl ?_
                        refine ev_gvI f_X12_taken (nx := 12) (w := (gi25 69 18)) rfl (hI.wf.s rfl) rfl rfl ((by rw [e102]; exact x_up2_off (Or.inr (by decide)) : g102 69 18 = gi95 69 18).trans c95_1) rfl ?_
                        refine ev_t f_X12_taken (t1 := 24) (t2 := 15) rfl rfl rfl (t_leT u85 (by decide : (0:Int) ≤ (0:Int32).toInt) (by decide)) ?_
                        refine ev_loc f_X12_taken (nx := 25) rfl rfl rfl rfl ?_
                        refine ev_loc f_X12_taken (nx := 26) rfl rfl rfl rfl ?_
                        refine ev_inV2 f_X12_taken (nx := 29) (lo2 := [(0, .ref 69), (1, .int (gi95 70 1))]) rfl rfl rfl rfl f_X12_gives (hI.wf.s rfl) rfl rfl rfl rfl rfl ?_
                        refine ev_loc f_X12_gives (nx := 1) rfl rfl rfl rfl ?_
                        refine ev_ic f_X12_gives (nx := 2) (v := 0) rfl (by decide) rfl ?_
                        refine ev_putIT f_X12_gives (nx := 5) rfl (hI.wf.s rfl) rfl rfl rfl (hI.put0 (hI.wf.s rfl) rfl rfl) (hX.upI rfl) (fun g103 e103 hI hX => ?_)
                        refine ev_loc f_X12_gives (nx := 6) rfl rfl rfl rfl ?_
                        refine ev_retK1 f_X12_gives rfl rfl rfl ?_
                        refine ev_retK1 f_X12_taken rfl rfl rfl ?_
                        exact ev_ret f_X12_river rfl rfl rfl ⟨_, _, _, rfl, hI, hX, ⟨_, rfl, (Int.le_trans (by decide : ((-1):Int) ≤ 0) l101), u101, (show (¬ (0 ≤ ar1.toInt ∧ ar1.toInt ≤ (gi 69 10).toInt) → (g103 69 2).toInt = 1) ∧ ((0 ≤ ar1.toInt ∧ ar1.toInt ≤ (gi 69 10).toInt) → ((gi95 70 1).toInt = -1 → (g103 69 2).toInt = 9) ∧ ((gi95 70 1).toInt ≠ -1 → (g103 69 2).toInt = 0)) from ⟨fun h => (by have ffs : (g103 69 2).toInt = 0 := (congrArg Int32.toInt (by rw [e103]; exact x_up2_at _ _ _ _ : g103 69 2 = 0)).trans (by decide); omega), fun h => ⟨fun h2 => (by have ffs : (g103 69 2).toInt = 0 := (congrArg Int32.toInt (by rw [e103]; exact x_up2_at _ _ _ _ : g103 69 2 = 0)).trans (by decide); omega), fun h2 => (by have ffs : (g103 69 2).toInt = 0 := (congrArg Int32.toInt (by rw [e103]; exact x_up2_at _ _ _ _ : g103 69 2 = 0)).trans (by decide); omega)⟩⟩)⟩⟩
                      · have u104 : y95_3.toInt ≤ 17 := t_ltu (t_nle h99) (by decide : (18:Int32).toInt ≤ (18:Int)) rfl
                        refine ev_loc f_X12_river (nx := 125) rfl rfl rfl rfl ?_
                        refine ev_getR f_X12_river (nx := 128) rfl (hI.wf.s rfl) rfl rfl (hI.wf.r rfl) rfl rfl ?_
                        refine ev_loc f_X12_river (nx := 129) rfl rfl rfl rfl ?_
                        refine ev_loc f_X12_river (nx := 130) rfl rfl rfl rfl ?_
                        refine ev_getR f_X12_river (nx := 133) rfl (hI.wf.s rfl) rfl rfl (hI.wf.r rfl) rfl rfl ?_
                        refine ev_bp f_X12_river (nx := 135) (v := 72) rfl (by decide) rfl ?_
                        refine ev_loc f_X12_river (nx := 136) rfl rfl rfl rfl ?_
                        refine ev_addK f_X12_river (nx := 137) (c := 72) (l := 72) (u := 89) rfl (by decide) l95_3 u104 rfl rfl (by decide) (by decide) rfl (fun z105 e105 l105 u105 => ?_)
                        refine ev_laldT f_X12_river (nx := 138) rfl (hI.wf.s rfl) l105 (by decide) u105 (by decide) rfl (fun w106 e106 => ?_)
                        refine ev_lastT f_X12_river (nx := 139) rfl (hI.wf.s rfl) l95_3 (by decide) u104 (by decide) rfl (hX.upL (t_inR (p := 0) (m := 17) rfl l95_3 (by decide) u104 (by decide) (by decide))) (fun g107 e107 hX => ?_)
                        refine ev_incR f_X12_river (nx := 142) (c := 1) (l := 1) (u := 18) rfl rfl (by decide) (by decide) l95_3 u104 rfl rfl (by decide) (by decide) rfl (fun z108 e108 l108 u108 => ?_)
                        refine ev_jmp f_X12_river (nx := 118) rfl rfl rfl ?_
                        refine ev_sub (lo := [(3, .int z108), (2, .int y25_2), (0, .ref 69), (1, .int ar1)]) rfl (t_sc rfl (t_sc rfl (t_sc rfl (t_sc rfl t_sn)))) ?_
                        exact ih95 _ (by omega) gi95 g107 gr95 (z108) hI hX  (Int.le_trans (by decide : (0:Int) ≤ 1) l108) u108 c95_0 c95_1 c95_2 c95_3 c95_4 c95_5 c95_6 (by have ff109 : (gi95 70 3).toInt = (gi87 70 3).toInt := congrArg Int32.toInt c95_5; omega) (by have ff110 : (gi95 70 4).toInt = (gi87 70 4).toInt := congrArg Int32.toInt c95_6; omega) rfl
                    refine ev_sub (lo := [(3, .int 0), (2, .int y25_2), (0, .ref 69), (1, .int ar1)]) rfl (t_sc rfl (t_sc rfl (t_sc rfl (t_sc rfl t_sn)))) ?_
                    exact L95 _ gi87 gl87 gr87 (0) hI hX  (by decide : (0:Int) ≤ (0:Int32).toInt) (Int.le_trans (by decide : (0:Int32).toInt ≤ (0:Int)) (by decide : (0:Int) ≤ 18)) c87_0 c87_1 c87_2 rfl c87_3 rfl rfl (by omega) (by omega) rfl
                  · have u111 : y87_3.toInt ≤ 349 := t_ltu (t_nle h93) (by decide : (350:Int32).toInt ≤ (350:Int)) rfl
                    refine ev_loc f_X12_river (nx := 95) rfl rfl rfl rfl ?_
                    refine ev_getR f_X12_river (nx := 98) rfl (hI.wf.s rfl) rfl rfl (hI.wf.r rfl) rfl rfl ?_
                    refine ev_loc f_X12_river (nx := 99) rfl rfl rfl rfl ?_
                    refine ev_loc f_X12_river (nx := 100) rfl rfl rfl rfl ?_
                    refine ev_getR f_X12_river (nx := 103) rfl (hI.wf.s rfl) rfl rfl (hI.wf.r rfl) rfl rfl ?_
                    refine ev_sp f_X12_river (nx := 106) (v := 1400) rfl (by decide) rfl ?_
                    refine ev_loc f_X12_river (nx := 107) rfl rfl rfl rfl ?_
                    refine ev_addK f_X12_river (nx := 108) (c := 1400) (l := 1400) (u := 1749) rfl (by decide) l87_3 u111 rfl rfl (by decide) (by decide) rfl (fun z112 e112 l112 u112 => ?_)
                    refine ev_ialdT f_X12_river (nx := 109) rfl (hI.wf.s rfl) l112 (by decide) u112 (by decide) rfl (fun w113 e113 => ?_)
                    refine ev_iastT f_X12_river (nx := 110) rfl (hI.wf.s rfl) l87_3 (by decide) u111 (by decide) rfl (hI.astS (a := 4) (b := 0) (k := y87_3.toInt.toNat) e113 (by omega) (by omega) (by omega) (by omega) (by omega)) (hX.upI (t_inR (p := 0) (m := 349) rfl l87_3 (by decide) u111 (by decide) (by decide))) (fun g114 e114 hI hX => ?_)
                    refine ev_incR f_X12_river (nx := 113) (c := 1) (l := 1) (u := 350) rfl rfl (by decide) (by decide) l87_3 u111 rfl rfl (by decide) (by decide) rfl (fun z115 e115 l115 u115 => ?_)
                    refine ev_jmp f_X12_river (nx := 87) rfl rfl rfl ?_
                    refine ev_sub (lo := [(3, .int z115), (2, .int y25_2), (0, .ref 69), (1, .int ar1)]) rfl (t_sc rfl (t_sc rfl (t_sc rfl (t_sc rfl t_sn)))) ?_
                    exact ih87 _ (by omega) g114 gl87 gr87 (z115) hI hX  (Int.le_trans (by decide : (0:Int) ≤ 1) l115) u115 ((by rw [e114]; exact x_up2_off (Or.inl (by decide)) : g114 69 10 = gi87 69 10).trans c87_0) ((by rw [e114]; exact x_up2_off (Or.inl (by decide)) : g114 69 18 = gi87 69 18).trans c87_1) ((by rw [e114]; exact x_up2_off (Or.inl (by decide)) : g114 69 2 = gi87 69 2).trans c87_2) ((by rw [e114]; exact x_up2_off (Or.inr (t_neCu l87_3 u111 (by decide) (by decide))) : g114 70 1403 = gi87 70 1403).trans c87_3) (by have ff116 : (g114 70 1403).toInt = (gi18 70 1403).toInt := congrArg Int32.toInt ((by rw [e114]; exact x_up2_off (Or.inr (t_neCu l87_3 u111 (by decide) (by decide))) : g114 70 1403 = gi87 70 1403).trans c87_3); omega) (by have ff117 : (g114 70 1404).toInt = (gi87 70 1404).toInt := congrArg Int32.toInt ((by rw [e114]; exact x_up2_off (Or.inr (t_neCu l87_3 u111 (by decide) (by decide))) : g114 70 1404 = gi87 70 1404).trans rfl); omega) (by rcases t_stc e114 3 with ⟨h1, h2⟩ | ⟨h1, h2⟩ <;> rw [h2] <;> first | (have hc := t_clamp (i := y87_3) (by omega); have hd := t_clamp (i := z112) (by omega); have hx : z112.toNatClampNeg = 1403 := (by omega); rw [e113, hx]; omega) | (have hc := t_clamp (i := y87_3) (by omega); omega)) (by rcases t_stc e114 4 with ⟨h1, h2⟩ | ⟨h1, h2⟩ <;> rw [h2] <;> first | (have hc := t_clamp (i := y87_3) (by omega); have hd := t_clamp (i := z112) (by omega); have hx : z112.toNatClampNeg = 1404 := (by omega); rw [e113, hx]; omega) | (have hc := t_clamp (i := y87_3) (by omega); omega)) rfl
                refine ev_sub (lo := [(3, .int 0), (2, .int y25_2), (0, .ref 69), (1, .int ar1)]) rfl (t_sc rfl (t_sc rfl (t_sc rfl (t_sc rfl t_sn)))) ?_
                exact L87 _ gi25 gl25 gr25 (0) hI hX  (by decide : (0:Int) ≤ (0:Int32).toInt) (Int.le_trans (by decide : (0:Int32).toInt ≤ (0:Int)) (by decide : (0:Int) ≤ 350)) c25_0 rfl c25_1 c25_3 (by have ff120 : (gi25 70 1403).toInt = (gi18 70 1403).toInt := congrArg Int32.toInt c25_3; omega) (by omega) (by have kf121 : (0 : Int32).toInt = 0 := (by decide); have ff122 : (gi25 70 3).toInt = (gi 70 3).toInt := congrArg Int32.toInt c25_4; omega) (by have kf123 : (0 : Int32).toInt = 0 := (by decide); have ff124 : (gi25 70 4).toInt = (gi 70 4).toInt := congrArg Int32.toInt c25_5; omega) rfl
              · have r125 : (gi25 69 18).toInt ≠ 0 := fun e => h84 (Int32.toInt_inj.mp (e.trans (by decide : (0:Int) = (0 : Int32).toInt)))
                refine ev_loc f_X12_river (nx := 146) rfl rfl rfl rfl ?_
                refine ev_loc f_X12_river (nx := 147) rfl rfl rfl rfl ?_
                refine ev_getR f_X12_river (nx := 150) rfl (hI.wf.s rfl) rfl rfl (hI.wf.r rfl) rfl rfl ?_
                refine ev_ic f_X12_river (nx := 151) (v := 1) rfl (by decide) rfl ?_
                obtain ⟨l126, u126⟩ := hI.ab (by decide +kernel : t_abr 70 1 1 0 6 = true) (Nat.le_refl _) (Nat.le_refl _)
                refine ev_ialdv f_X12_river (nx := 152) (w := (gi25 70 1)) rfl (hI.wf.s rfl) (by decide) (rfl : (1 : Int32).toNatClampNeg = 1) (by decide) rfl rfl ?_
                refine ev_inV2 f_X12_river (nx := 155) (lo2 := [(0, .ref 69), (1, .int (gi25 70 1))]) rfl rfl rfl rfl f_X12_taken (hI.wf.s rfl) rfl rfl rfl rfl rfl ?_
                refine ev_loc f_X12_taken (nx := 1) rfl rfl rfl rfl ?_
                refine ev_loc f_X12_taken (nx := 2) rfl rfl rfl rfl ?_
                refine ev_gvI f_X12_taken (nx := 5) (w := (gi25 69 18)) rfl (hI.wf.s rfl) rfl rfl rfl rfl ?_
                refine ev_putIT f_X12_taken (nx := 8) rfl (hI.wf.s rfl) rfl rfl rfl (hI.put0 (hI.wf.s rfl) rfl rfl) (hX.upI rfl) (fun g127 e127 hI hX => ?_)
                refine ev_loc f_X12_taken (nx := 9) rfl rfl rfl rfl ?_
                refine ev_gvI f_X12_taken (nx := 12) (w := (gi25 69 18)) rfl (hI.wf.s rfl) rfl rfl ((by rw [e127]; exact x_up2_off (Or.inr (by decide)) : g127 69 18 = gi25 69 18).trans rfl) rfl ?_
                refine ev_if f_X12_taken (t1 := 24) (t2 := 15) rfl rfl rfl (fun h128 => ?_) (fun h128 => ?_)
                · have u129 : (gi25 69 18).toInt ≤ 0 := t_leu h128 (by decide : (0:Int32).toInt ≤ (0:Int))
                  refine ev_loc f_X12_taken (nx := 25) rfl rfl rfl rfl ?_
                  refine ev_loc f_X12_taken (nx := 26) rfl rfl rfl rfl ?_
                  refine ev_inV2 f_X12_taken (nx := 29) (lo2 := [(0, .ref 69), (1, .int (gi25 70 1))]) rfl rfl rfl rfl f_X12_gives (hI.wf.s rfl) rfl rfl rfl rfl rfl ?_
                  refine ev_loc f_X12_gives (nx := 1) rfl rfl rfl rfl ?_
                  refine ev_ic f_X12_gives (nx := 2) (v := 0) rfl (by decide) rfl ?_
                  refine ev_putIT f_X12_gives (nx := 5) rfl (hI.wf.s rfl) rfl rfl rfl (hI.put0 (hI.wf.s rfl) rfl rfl) (hX.upI rfl) (fun g130 e130 hI hX => ?_)
                  refine ev_loc f_X12_gives (nx := 6) rfl rfl rfl rfl ?_
                  refine ev_retK1 f_X12_gives rfl rfl rfl ?_
                  refine ev_retK1 f_X12_taken rfl rfl rfl ?_
                  exact ev_ret f_X12_river rfl rfl rfl ⟨_, _, _, rfl, hI, hX, ⟨_, rfl, (Int.le_trans (by decide : ((-1):Int) ≤ 0) l126), u126, (show (¬ (0 ≤ ar1.toInt ∧ ar1.toInt ≤ (gi 69 10).toInt) → (g130 69 2).toInt = 1) ∧ ((0 ≤ ar1.toInt ∧ ar1.toInt ≤ (gi 69 10).toInt) → ((gi25 70 1).toInt = -1 → (g130 69 2).toInt = 9) ∧ ((gi25 70 1).toInt ≠ -1 → (g130 69 2).toInt = 0)) from ⟨fun h => (by have ffs : (g130 69 2).toInt = 0 := (congrArg Int32.toInt (by rw [e130]; exact x_up2_at _ _ _ _ : g130 69 2 = 0)).trans (by decide); omega), fun h => ⟨fun h2 => (by have ffs : (g130 69 2).toInt = 0 := (congrArg Int32.toInt (by rw [e130]; exact x_up2_at _ _ _ _ : g130 69 2 = 0)).trans (by decide); omega), fun h2 => (by have ffs : (g130 69 2).toInt = 0 := (congrArg Int32.toInt (by rw [e130]; exact x_up2_at _ _ _ _ : g130 69 2 = 0)).trans (by decide); omega)⟩⟩)⟩⟩
                · have l131 : 1 ≤ (gi25 69 18).toInt := t_ltl (t_nle h128) (by decide : (0:Int) ≤ (0:Int32).toInt) rfl
                  refine ev_loc f_X12_taken (nx := 16) rfl rfl rfl rfl ?_
                  refine ev_bp f_X12_taken (nx := 18) (v := 9) rfl (by decide) rfl ?_
                  refine ev_inV2 f_X12_taken (nx := 21) (lo2 := [(0, .ref 69), (1, .int 9)]) rfl rfl rfl rfl f_X12_refuse (hI.wf.s rfl) rfl rfl rfl rfl rfl ?_
                  refine ev_loc f_X12_refuse (nx := 1) rfl rfl rfl rfl ?_
                  refine ev_loc f_X12_refuse (nx := 2) rfl rfl rfl rfl ?_
                  refine ev_putIT f_X12_refuse (nx := 5) rfl (hI.wf.s rfl) rfl rfl rfl (hI.put0 (hI.wf.s rfl) rfl rfl) (hX.upI rfl) (fun g132 e132 hI hX => ?_)
                  refine ev_ic f_X12_refuse (nx := 6) (v := -1) rfl (by decide) rfl ?_
                  refine ev_retK1 f_X12_refuse rfl rfl rfl ?_
                  refine ev_jmp f_X12_taken (nx := 29) rfl rfl rfl ?_
                  refine ev_retK1 f_X12_taken rfl rfl rfl ?_
                  exact ev_ret f_X12_river rfl rfl rfl ⟨_, _, _, rfl, hI, hX, ⟨_, rfl, (by decide : ((-1):Int) ≤ ((-1):Int32).toInt), (Int.le_trans (by decide : ((-1):Int32).toInt ≤ ((-1):Int)) (by decide : ((-1):Int) ≤ 6)), (show (¬ (0 ≤ ar1.toInt ∧ ar1.toInt ≤ (gi 69 10).toInt) → (g132 69 2).toInt = 1) ∧ ((0 ≤ ar1.toInt ∧ ar1.toInt ≤ (gi 69 10).toInt) → (((-1) : Int) = -1 → (g132 69 2).toInt = 9) ∧ (((-1) : Int) ≠ -1 → (g132 69 2).toInt = 0)) from ⟨fun h => (by have ffs : (g132 69 2).toInt = 9 := (congrArg Int32.toInt (by rw [e132]; exact x_up2_at _ _ _ _ : g132 69 2 = 9)).trans (by decide); omega), fun h => ⟨fun h2 => (by have ffs : (g132 69 2).toInt = 9 := (congrArg Int32.toInt (by rw [e132]; exact x_up2_at _ _ _ _ : g132 69 2 = 9)).trans (by decide); omega), fun h2 => (by have ffs : (g132 69 2).toInt = 9 := (congrArg Int32.toInt (by rw [e132]; exact x_up2_at _ _ _ _ : g132 69 2 = 9)).trans (by decide); omega)⟩⟩)⟩⟩
            · have r133 : (gi25 69 12).toInt ≠ 0 := fun e => h82 (Int32.toInt_inj.mp (e.trans (by decide : (0:Int) = (0 : Int32).toInt)))
              have l134 : 1 ≤ (gi25 69 12).toInt := t_nel h82 l26 rfl rfl
              refine ev_loc f_X12_river (nx := 71) rfl rfl rfl rfl ?_
              refine ev_qI f_X12_river (nx := 74) (r := []) rfl rfl rfl rfl rfl rfl rfl (c_m_riverPart hI ) rfl hX rfl (fun w135 gi135 gl135 gr135 l135 u135 hI hX hC135 q135 => ?_)
              have q135 : (gi25 69 14).toInt ≤ (gi135 69 14).toInt ∧ (w135.toInt = 1 → (gi135 69 12).toInt ≠ 0 → (gi25 69 14).toInt < (gi135 69 14).toInt) ∧ (1 ≤ (gi25 70 1404).toInt → 1 ≤ (gi135 70 1404).toInt) := q135
              obtain ⟨l136, u136⟩ := hI.b (hI.wf.s (k := 69) rfl) (t_bdK rfl : t_bd 11 12 = some (0, 4))
              obtain ⟨l137, u137⟩ := hI.b (hI.wf.s (k := 69) rfl) (t_bdK rfl : t_bd 11 14 = some (0, 900))
              obtain ⟨l138, u138⟩ := hI.ab (by decide +kernel : t_abr 70 1404 1404 0 20 = true) (Nat.le_refl _) (Nat.le_refl _)
              refine ev_loc f_X12_river (nx := 75) (lo' := [(2, .int w135), (0, .ref 69), (1, .int ar1)]) rfl rfl rfl rfl ?_
              refine ev_jmp f_X12_river (nx := 59) rfl rfl rfl ?_
              refine ev_sub (lo := [(2, .int w135), (0, .ref 69), (1, .int ar1)]) rfl (t_sc rfl (t_sc rfl (t_sc rfl t_sn))) ?_
              exact ih25 _ (by omega) gi135 gl135 gr135 (w135) hI hX  l135 u135 ((hC135.1 69 10 rfl).1.trans c25_0) ((hC135.1 69 2 rfl).1.trans c25_1) ((hC135.1 70 J0 (t_nG (lo := 0) (hi := 350) rfl (by omega) (by omega))).1.trans c25_2) ((hC135.1 70 1403 rfl).1.trans c25_3) ((hC135.1 70 3 rfl).1.trans c25_4) ((hC135.1 70 4 rfl).1.trans c25_5) (by have ff139 : (gi135 70 1403).toInt = (gi18 70 1403).toInt := congrArg Int32.toInt ((hC135.1 70 1403 rfl).1.trans c25_3); omega) (by omega) rfl
        refine ev_sub (lo := [(2, .int 1), (0, .ref 69), (1, .int ar1)]) rfl (t_sc rfl (t_sc rfl (t_sc rfl t_sn))) ?_
        exact L25 _ g24 gl18 gr18 (1) hI hX  (Int.le_trans (by decide : (0:Int) ≤ 1) (by decide : (1:Int) ≤ (1:Int32).toInt)) (by decide : (1:Int32).toInt ≤ (1:Int)) ((by rw [e24]; exact x_up2_off (Or.inr (by decide)) : g24 69 10 = g23 69 10).trans ((by rw [e23]; exact x_up2_off (Or.inl (by decide)) : g23 69 10 = gi18 69 10).trans c18_0)) ((by rw [e24]; exact x_up2_off (Or.inr (by decide)) : g24 69 2 = g23 69 2).trans ((by rw [e23]; exact x_up2_off (Or.inl (by decide)) : g23 69 2 = gi18 69 2).trans c18_3)) ((by rw [e24]; exact x_up2_off (Or.inl (by decide)) : g24 70 J0 = g23 70 J0).trans ((by rw [e23]; exact x_up2_off (Or.inr (by have : (1404 : Int32).toNatClampNeg = 1404 := rfl; omega)) : g23 70 J0 = gi18 70 J0).trans c18_4)) ((by rw [e24]; exact x_up2_off (Or.inr (by decide)) : g24 70 1403 = g23 70 1403).trans ((by rw [e23]; exact x_up2_off (Or.inr (by decide)) : g23 70 1403 = gi18 70 1403).trans rfl)) ((by rw [e24]; exact x_up2_off (Or.inr (by decide)) : g24 70 3 = g23 70 3).trans ((by rw [e23]; exact x_up2_off (Or.inr (by decide)) : g23 70 3 = gi18 70 3).trans c18_5)) ((by rw [e24]; exact x_up2_off (Or.inr (by decide)) : g24 70 4 = g23 70 4).trans ((by rw [e23]; exact x_up2_off (Or.inr (by decide)) : g23 70 4 = gi18 70 4).trans c18_6)) (by have ff140 : (g24 70 1403).toInt = (gi18 70 1403).toInt := congrArg Int32.toInt ((by rw [e24]; exact x_up2_off (Or.inr (by decide)) : g24 70 1403 = g23 70 1403).trans ((by rw [e23]; exact x_up2_off (Or.inr (by decide)) : g23 70 1403 = gi18 70 1403).trans rfl)); omega) (by have ff141 : (g24 70 1404).toInt = 5 := (congrArg Int32.toInt ((by rw [e24]; exact x_up2_off (Or.inr (by decide)) : g24 70 1404 = g23 70 1404).trans (by rw [e23]; exact x_up2_at _ _ _ _ : g23 70 1404 = 5))).trans (by decide); omega) rfl
      · have u142 : y18_2.toInt ≤ 349 := t_ltu (t_nle h21) (by decide : (350:Int32).toInt ≤ (350:Int)) rfl
        refine ev_loc f_X12_river (nx := 27) rfl rfl rfl rfl ?_
        refine ev_getR f_X12_river (nx := 30) rfl (hI.wf.s rfl) rfl rfl (hI.wf.r rfl) rfl rfl ?_
        refine ev_sp f_X12_river (nx := 33) (v := 1400) rfl (by decide) rfl ?_
        refine ev_loc f_X12_river (nx := 34) rfl rfl rfl rfl ?_
        refine ev_addK f_X12_river (nx := 35) (c := 1400) (l := 1400) (u := 1749) rfl (by decide) l18_2 u142 rfl rfl (by decide) (by decide) rfl (fun z143 e143 l143 u143 => ?_)
        refine ev_ic f_X12_river (nx := 36) (v := 0) rfl (by decide) rfl ?_
        refine ev_iastT f_X12_river (nx := 37) rfl (hI.wf.s rfl) l143 (by decide) u143 (by decide) rfl (hI.astL (hI.wf.s rfl) (by decide +kernel : t_abw 70 1400 1749 0 0 = true) (t_cl1 l143 (by decide)) (t_cl2 l143 u143 (by decide) (by decide)) (by decide : (0:Int) ≤ (0:Int32).toInt) (by decide : (0:Int32).toInt ≤ (0:Int)) rfl) (hX.upI (t_inR (p := 1400) (m := 1749) rfl l143 (by decide) u143 (by decide) (by decide))) (fun g144 e144 hI hX => ?_)
        refine ev_incR f_X12_river (nx := 40) (c := 1) (l := 1) (u := 350) rfl rfl (by decide) (by decide) l18_2 u142 rfl rfl (by decide) (by decide) rfl (fun z145 e145 l145 u145 => ?_)
        refine ev_jmp f_X12_river (nx := 19) rfl rfl rfl ?_
        refine ev_sub (lo := [(2, .int z145), (0, .ref 69), (1, .int ar1)]) rfl (t_sc rfl (t_sc rfl (t_sc rfl t_sn))) ?_
        exact ih18 _ (by omega) g144 gl18 gr18 (z145) hI hX  (Int.le_trans (by decide : (0:Int) ≤ 1) l145) u145 ((by rw [e144]; exact x_up2_off (Or.inl (by decide)) : g144 69 10 = gi18 69 10).trans c18_0) ((by rw [e144]; exact x_up2_off (Or.inl (by decide)) : g144 69 12 = gi18 69 12).trans c18_1) ((by rw [e144]; exact x_up2_off (Or.inl (by decide)) : g144 69 14 = gi18 69 14).trans c18_2) ((by rw [e144]; exact x_up2_off (Or.inl (by decide)) : g144 69 2 = gi18 69 2).trans c18_3) ((by rw [e144]; exact x_up2_off (Or.inr (by have := t_cl1 (p := 1400) l143 (by decide); omega)) : g144 70 J0 = gi18 70 J0).trans c18_4) ((by rw [e144]; exact x_up2_off (Or.inr (t_neCl l143 (by decide))) : g144 70 3 = gi18 70 3).trans c18_5) ((by rw [e144]; exact x_up2_off (Or.inr (t_neCl l143 (by decide))) : g144 70 4 = gi18 70 4).trans c18_6) (by rcases t_stc e144 1403 with ⟨h1, h2⟩ | ⟨h1, h2⟩ <;> rw [h2] <;> first | (intro _; decide) | (have hc := t_clamp (i := z143) (by omega); omega)) rfl
    refine ev_sub (lo := [(2, .int 0), (0, .ref 69), (1, .int ar1)]) rfl (t_sc rfl (t_sc rfl (t_sc rfl t_sn))) ?_
    exact L18 _ gi9 gl9 gr9 (0) hI hX  (by decide : (0:Int) ≤ (0:Int32).toInt) (Int.le_trans (by decide : (0:Int32).toInt ≤ (0:Int)) (by decide : (0:Int) ≤ 350)) rfl rfl rfl ((hC9.1 69 2 rfl).1.trans rfl) ((hC9.1 70 J0 (t_nG (lo := 0) (hi := 350) rfl (by omega) (by omega))).1.trans rfl) ((hC9.1 70 3 rfl).1.trans rfl) ((hC9.1 70 4 rfl).1.trans rfl) (by have kf146 : (0 : Int32).toInt = 0 := (by decide); have ff147 : (gi9 70 1403).toInt = (gi 70 1403).toInt := congrArg Int32.toInt ((hC9.1 70 1403 rfl).1.trans rfl); omega) rfl
noncomputable def wl_g_sound : List (Nat × Nat) := [(69, 2)]
noncomputable def Q_g_sound (gi : Nat → Nat → Int32) (gl : Nat → Nat → Int64) (gr : Nat → Nat → Value) (ar1 : Int32) : Int64 → (Nat → Nat → Int32) → (Nat → Nat → Int64) → (Nat → Nat → Value) → Prop := fun (v : Int64) (gi2 : Nat → Nat → Int32) (gl2 : Nat → Nat → Int64) (gr2 : Nat → Nat → Value) => (¬ (0 ≤ ar1.toInt ∧ ar1.toInt < (gi 70 0).toInt) → (gi2 69 2).toInt = 1) ∧ ((0 ≤ ar1.toInt ∧ ar1.toInt < (gi 70 0).toInt) → (gi2 69 2).toInt = 0)
theorem c_g_sound {X : x_Ext} {d : Nat} {sh : List (Nat ⊕ (Nat × Nat))} {gi : Nat → Nat → Int32} {gl : Nat → Nat → Int64} {gr : Nat → Nat → Value} (hI : t_I sh gi gr) (ar1 : Int32) : x_Me X (d + 3) n_X12_sound [.ref 69, .int ar1] (sh, gi, gl, gr) (t_PL wl_g_sound sh gi gl gr (Q_g_sound gi gl gr ar1)) := by
  have hX : t_X wl_g_sound sh gi gl gr gi gl gr := t_X.rf
  refine me_i f_X12_sound (hI.wf.s rfl) rfl rfl rfl ?_
  obtain ⟨l2, u2⟩ := hI.ab (by decide +kernel : t_abr 70 0 0 0 6 = true) (Nat.le_refl _) (Nat.le_refl _)
  refine ev_loc f_X12_sound (nx := 1) rfl rfl rfl rfl ?_
  refine ev_loc f_X12_sound (nx := 2) rfl rfl rfl rfl ?_
  refine ev_inV2 f_X12_sound (nx := 5) (lo2 := [(0, .ref 69), (1, .int ar1)]) rfl rfl rfl rfl f_X12_isPort (hI.wf.s rfl) rfl rfl rfl rfl rfl ?_
  refine ev_loc f_X12_isPort (nx := 1) rfl rfl rfl rfl ?_
  refine ev_if f_X12_isPort (t1 := 18) (t2 := 4) rfl rfl rfl (fun h3 => ?_) (fun h3 => ?_)
  · have u4 : ar1.toInt ≤ (-1) := t_ltu h3 (by decide : (0:Int32).toInt ≤ (0:Int)) rfl
    refine ev_ic f_X12_isPort (nx := 19) (v := 0) rfl (by decide) rfl ?_
    refine ev_retK1 f_X12_isPort rfl rfl rfl ?_
    refine ev_t f_X12_sound (t1 := 20) (t2 := 8) rfl rfl rfl (by decide) ?_
    refine ev_loc f_X12_sound (nx := 21) rfl rfl rfl rfl ?_
    refine ev_ic f_X12_sound (nx := 22) (v := 1) rfl (by decide) rfl ?_
    refine ev_inV2 f_X12_sound (nx := 25) (lo2 := [(0, .ref 69), (1, .int 1)]) rfl rfl rfl rfl f_X12_refuse (hI.wf.s rfl) rfl rfl rfl rfl rfl ?_
    refine ev_loc f_X12_refuse (nx := 1) rfl rfl rfl rfl ?_
    refine ev_loc f_X12_refuse (nx := 2) rfl rfl rfl rfl ?_
    refine ev_putIT f_X12_refuse (nx := 5) rfl (hI.wf.s rfl) rfl rfl rfl (hI.put0 (hI.wf.s rfl) rfl rfl) (hX.upI rfl) (fun g5 e5 hI hX => ?_)
    refine ev_ic f_X12_refuse (nx := 6) (v := -1) rfl (by decide) rfl ?_
    refine ev_retK1 f_X12_refuse rfl rfl rfl ?_
    refine ev_aluvL f_X12_sound (nx := 26) (w := -1) rfl rfl rfl (by decide) rfl ?_
    exact ev_ret f_X12_sound rfl rfl rfl ⟨_, _, _, rfl, hI, hX, ⟨_, rfl, (show (¬ (0 ≤ ar1.toInt ∧ ar1.toInt < (gi 70 0).toInt) → (g5 69 2).toInt = 1) ∧ ((0 ≤ ar1.toInt ∧ ar1.toInt < (gi 70 0).toInt) → (g5 69 2).toInt = 0) from ⟨fun h => (by have ffs : (g5 69 2).toInt = 1 := (congrArg Int32.toInt (by rw [e5]; exact x_up2_at _ _ _ _ : g5 69 2 = 1)).trans (by decide); omega), fun h => (by have ffs : (g5 69 2).toInt = 1 := (congrArg Int32.toInt (by rw [e5]; exact x_up2_at _ _ _ _ : g5 69 2 = 1)).trans (by decide); omega)⟩)⟩⟩
  · have l6 : 0 ≤ ar1.toInt := t_lel (t_nlt h3) (by decide : (0:Int) ≤ (0:Int32).toInt)
    refine ev_loc f_X12_isPort (nx := 5) rfl rfl rfl rfl ?_
    refine ev_loc f_X12_isPort (nx := 6) rfl rfl rfl rfl ?_
    refine ev_getR f_X12_isPort (nx := 9) rfl (hI.wf.s rfl) rfl rfl (hI.wf.r rfl) rfl rfl ?_
    refine ev_ic f_X12_isPort (nx := 10) (v := 0) rfl (by decide) rfl ?_
    refine ev_ialdv f_X12_isPort (nx := 11) (w := (gi 70 0)) rfl (hI.wf.s rfl) (by decide) (rfl : (0 : Int32).toNatClampNeg = 0) (by decide) rfl rfl ?_
    refine ev_if f_X12_isPort (t1 := 18) (t2 := 14) rfl rfl rfl (fun h8 => ?_) (fun h8 => ?_)
    · have r9 : (gi 70 0).toInt ≤ ar1.toInt := Int32.le_iff_toInt_le.mp h8
      refine ev_ic f_X12_isPort (nx := 19) (v := 0) rfl (by decide) rfl ?_
      refine ev_retK1 f_X12_isPort rfl rfl rfl ?_
      refine ev_t f_X12_sound (t1 := 20) (t2 := 8) rfl rfl rfl (by decide) ?_
      refine ev_loc f_X12_sound (nx := 21) rfl rfl rfl rfl ?_
      refine ev_ic f_X12_sound (nx := 22) (v := 1) rfl (by decide) rfl ?_
      refine ev_inV2 f_X12_sound (nx := 25) (lo2 := [(0, .ref 69), (1, .int 1)]) rfl rfl rfl rfl f_X12_refuse (hI.wf.s rfl) rfl rfl rfl rfl rfl ?_
      refine ev_loc f_X12_refuse (nx := 1) rfl rfl rfl rfl ?_
      refine ev_loc f_X12_refuse (nx := 2) rfl rfl rfl rfl ?_
      refine ev_putIT f_X12_refuse (nx := 5) rfl (hI.wf.s rfl) rfl rfl rfl (hI.put0 (hI.wf.s rfl) rfl rfl) (hX.upI rfl) (fun g10 e10 hI hX => ?_)
      refine ev_ic f_X12_refuse (nx := 6) (v := -1) rfl (by decide) rfl ?_
      refine ev_retK1 f_X12_refuse rfl rfl rfl ?_
      refine ev_aluvL f_X12_sound (nx := 26) (w := -1) rfl rfl rfl (by decide) rfl ?_
      exact ev_ret f_X12_sound rfl rfl rfl ⟨_, _, _, rfl, hI, hX, ⟨_, rfl, (show (¬ (0 ≤ ar1.toInt ∧ ar1.toInt < (gi 70 0).toInt) → (g10 69 2).toInt = 1) ∧ ((0 ≤ ar1.toInt ∧ ar1.toInt < (gi 70 0).toInt) → (g10 69 2).toInt = 0) from ⟨fun h => (by have ffs : (g10 69 2).toInt = 1 := (congrArg Int32.toInt (by rw [e10]; exact x_up2_at _ _ _ _ : g10 69 2 = 1)).trans (by decide); omega), fun h => (by have ffs : (g10 69 2).toInt = 1 := (congrArg Int32.toInt (by rw [e10]; exact x_up2_at _ _ _ _ : g10 69 2 = 1)).trans (by decide); omega)⟩)⟩⟩
    · have r11 : ar1.toInt < (gi 70 0).toInt := Int32.lt_iff_toInt_lt.mp (t_nle h8)
      have u12 : ar1.toInt ≤ 5 := t_ltu (t_nle h8) u2 rfl
      have l13 : 1 ≤ (gi 70 0).toInt := t_ltl (t_nle h8) l6 rfl
      refine ev_ic f_X12_isPort (nx := 15) (v := 1) rfl (by decide) rfl ?_
      refine ev_jmp f_X12_isPort (nx := 19) rfl rfl rfl ?_
      refine ev_retK1 f_X12_isPort rfl rfl rfl ?_
      refine ev_f f_X12_sound (t1 := 20) (t2 := 8) rfl rfl rfl (by decide) ?_
      refine ev_loc f_X12_sound (nx := 9) rfl rfl rfl rfl ?_
      refine ev_loc f_X12_sound (nx := 10) rfl rfl rfl rfl ?_
      refine ev_loc f_X12_sound (nx := 11) rfl rfl rfl rfl ?_
      refine ev_inV2 f_X12_sound (nx := 14) (lo2 := [(0, .ref 69), (1, .int ar1)]) rfl rfl rfl rfl f_X12_soundOf (hI.wf.s rfl) rfl rfl rfl rfl rfl ?_
      refine ev_loc f_X12_soundOf (nx := 1) rfl rfl rfl rfl ?_
      refine ev_bp f_X12_soundOf (nx := 3) (v := 10) rfl (by decide) rfl ?_
      refine ev_bp f_X12_soundOf (nx := 5) (v := 7) rfl (by decide) rfl ?_
      refine ev_loc f_X12_soundOf (nx := 6) rfl rfl rfl rfl ?_
      refine ev_mulL f_X12_soundOf (nx := 7) (c := 7) (l := 0) (u := 35) rfl (by decide) (by decide) l6 u12 rfl rfl (by decide) (by decide) rfl (fun z14 e14 l14 u14 => ?_)
      refine ev_addK f_X12_soundOf (nx := 8) (c := 10) (l := 10) (u := 45) rfl (by decide) l14 u14 rfl rfl (by decide) (by decide) rfl (fun z15 e15 l15 u15 => ?_)
      refine ev_ic f_X12_soundOf (nx := 9) (v := 1) rfl (by decide) rfl ?_
      refine ev_addC f_X12_soundOf (nx := 10) (c := 1) (l := 11) (u := 46) rfl (by decide) l15 u15 rfl rfl (by decide) (by decide) rfl (fun z16 e16 l16 u16 => ?_)
      refine ev_loc f_X12_soundOf (nx := 11) rfl rfl rfl rfl ?_
      refine ev_getR f_X12_soundOf (nx := 14) rfl (hI.wf.s rfl) rfl rfl (hI.wf.r rfl) rfl rfl ?_
      refine ev_bp f_X12_soundOf (nx := 16) (v := 10) rfl (by decide) rfl ?_
      refine ev_bp f_X12_soundOf (nx := 18) (v := 7) rfl (by decide) rfl ?_
      refine ev_loc f_X12_soundOf (nx := 19) rfl rfl rfl rfl ?_
      refine ev_mulL f_X12_soundOf (nx := 20) (c := 7) (l := 0) (u := 35) rfl (by decide) (by decide) l6 u12 rfl rfl (by decide) (by decide) rfl (fun z17 e17 l17 u17 => ?_)
      refine ev_addK f_X12_soundOf (nx := 21) (c := 10) (l := 10) (u := 45) rfl (by decide) l17 u17 rfl rfl (by decide) (by decide) rfl (fun z18 e18 l18 u18 => ?_)
      refine ev_ialdT f_X12_soundOf (nx := 22) rfl (hI.wf.s rfl) l18 (by decide) u18 (by decide) rfl (fun w19 e19 => ?_)
      obtain ⟨l19, u19⟩ := hI.abA (x := ar1) e19 (by decide +kernel : t_aba 70 10 7 0 5 (-900) 6 = true) (by omega) (by omega) (by omega)
      refine ev_qL f_X12_soundOf (nx := 25) (r := []) rfl rfl rfl rfl rfl rfl rfl (c_m_beatsOf hI (z16) l16 (Int.le_trans u16 (by decide : (46:Int) ≤ 1752)) (w19) u19) rfl hX rfl (fun w20 gi20 gl20 gr20 hI hX hC20 q20 => ?_)
      have q20 : 0 ≤ w20.toInt ∧ w20.toInt < 16777216 := q20
      refine ev_retK1 f_X12_soundOf rfl rfl rfl ?_
      refine ev_inV2 f_X12_sound (nx := 17) (lo2 := [(0, .ref 69), (1, .long w20)]) rfl rfl rfl rfl f_X12_givesLong (hI.wf.s rfl) rfl rfl rfl rfl rfl ?_
      refine ev_loc f_X12_givesLong (nx := 1) rfl rfl rfl rfl ?_
      refine ev_ic f_X12_givesLong (nx := 2) (v := 0) rfl (by decide) rfl ?_
      refine ev_putIT f_X12_givesLong (nx := 5) rfl (hI.wf.s rfl) rfl rfl rfl (hI.put0 (hI.wf.s rfl) rfl rfl) (hX.upI rfl) (fun g21 e21 hI hX => ?_)
      refine ev_loc f_X12_givesLong (nx := 6) rfl rfl rfl rfl ?_
      refine ev_retK1 f_X12_givesLong rfl rfl rfl ?_
      refine ev_jmp f_X12_sound (nx := 26) rfl rfl rfl ?_
      exact ev_ret f_X12_sound rfl rfl rfl ⟨_, _, _, rfl, hI, hX, ⟨_, rfl, (show (¬ (0 ≤ ar1.toInt ∧ ar1.toInt < (gi 70 0).toInt) → (g21 69 2).toInt = 1) ∧ ((0 ≤ ar1.toInt ∧ ar1.toInt < (gi 70 0).toInt) → (g21 69 2).toInt = 0) from ⟨fun h => (by have ffs : (g21 69 2).toInt = 0 := (congrArg Int32.toInt (by rw [e21]; exact x_up2_at _ _ _ _ : g21 69 2 = 0)).trans (by decide); omega), fun h => (by have ffs : (g21 69 2).toInt = 0 := (congrArg Int32.toInt (by rw [e21]; exact x_up2_at _ _ _ _ : g21 69 2 = 0)).trans (by decide); omega)⟩)⟩⟩
noncomputable def wl_g_heard : List (Nat × Nat) := [(69, 2)]
noncomputable def Q_g_heard (gi : Nat → Nat → Int32) (gl : Nat → Nat → Int64) (gr : Nat → Nat → Value) (ar1 : Int32) : Int64 → (Nat → Nat → Int32) → (Nat → Nat → Int64) → (Nat → Nat → Value) → Prop := fun (v : Int64) (gi2 : Nat → Nat → Int32) (gl2 : Nat → Nat → Int64) (gr2 : Nat → Nat → Value) => (¬ (0 ≤ ar1.toInt ∧ ar1.toInt < (gi 70 0).toInt) → (gi2 69 2).toInt = 1) ∧ ((0 ≤ ar1.toInt ∧ ar1.toInt < (gi 70 0).toInt) → (gi2 69 2).toInt = 0)
theorem c_g_heard {X : x_Ext} {d : Nat} {sh : List (Nat ⊕ (Nat × Nat))} {gi : Nat → Nat → Int32} {gl : Nat → Nat → Int64} {gr : Nat → Nat → Value} (hI : t_I sh gi gr) (ar1 : Int32) : x_Me X (d + 4) n_X12_heard [.ref 69, .int ar1] (sh, gi, gl, gr) (t_PL wl_g_heard sh gi gl gr (Q_g_heard gi gl gr ar1)) := by
  have hX : t_X wl_g_heard sh gi gl gr gi gl gr := t_X.rf
  refine me_i f_X12_heard (hI.wf.s rfl) rfl rfl rfl ?_
  obtain ⟨l2, u2⟩ := hI.ab (by decide +kernel : t_abr 70 0 0 0 6 = true) (Nat.le_refl _) (Nat.le_refl _)
  refine ev_loc f_X12_heard (nx := 1) rfl rfl rfl rfl ?_
  refine ev_loc f_X12_heard (nx := 2) rfl rfl rfl rfl ?_
  refine ev_inV2 f_X12_heard (nx := 5) (lo2 := [(0, .ref 69), (1, .int ar1)]) rfl rfl rfl rfl f_X12_isPort (hI.wf.s rfl) rfl rfl rfl rfl rfl ?_
  refine ev_loc f_X12_isPort (nx := 1) rfl rfl rfl rfl ?_
  refine ev_if f_X12_isPort (t1 := 18) (t2 := 4) rfl rfl rfl (fun h3 => ?_) (fun h3 => ?_)
  · have u4 : ar1.toInt ≤ (-1) := t_ltu h3 (by decide : (0:Int32).toInt ≤ (0:Int)) rfl
    refine ev_ic f_X12_isPort (nx := 19) (v := 0) rfl (by decide) rfl ?_
    refine ev_retK1 f_X12_isPort rfl rfl rfl ?_
    refine ev_t f_X12_heard (t1 := 20) (t2 := 8) rfl rfl rfl (by decide) ?_
    refine ev_loc f_X12_heard (nx := 21) rfl rfl rfl rfl ?_
    refine ev_ic f_X12_heard (nx := 22) (v := 1) rfl (by decide) rfl ?_
    refine ev_inV2 f_X12_heard (nx := 25) (lo2 := [(0, .ref 69), (1, .int 1)]) rfl rfl rfl rfl f_X12_refuse (hI.wf.s rfl) rfl rfl rfl rfl rfl ?_
    refine ev_loc f_X12_refuse (nx := 1) rfl rfl rfl rfl ?_
    refine ev_loc f_X12_refuse (nx := 2) rfl rfl rfl rfl ?_
    refine ev_putIT f_X12_refuse (nx := 5) rfl (hI.wf.s rfl) rfl rfl rfl (hI.put0 (hI.wf.s rfl) rfl rfl) (hX.upI rfl) (fun g5 e5 hI hX => ?_)
    refine ev_ic f_X12_refuse (nx := 6) (v := -1) rfl (by decide) rfl ?_
    refine ev_retK1 f_X12_refuse rfl rfl rfl ?_
    refine ev_aluvL f_X12_heard (nx := 26) (w := -1) rfl rfl rfl (by decide) rfl ?_
    exact ev_ret f_X12_heard rfl rfl rfl ⟨_, _, _, rfl, hI, hX, ⟨_, rfl, (show (¬ (0 ≤ ar1.toInt ∧ ar1.toInt < (gi 70 0).toInt) → (g5 69 2).toInt = 1) ∧ ((0 ≤ ar1.toInt ∧ ar1.toInt < (gi 70 0).toInt) → (g5 69 2).toInt = 0) from ⟨fun h => (by have ffs : (g5 69 2).toInt = 1 := (congrArg Int32.toInt (by rw [e5]; exact x_up2_at _ _ _ _ : g5 69 2 = 1)).trans (by decide); omega), fun h => (by have ffs : (g5 69 2).toInt = 1 := (congrArg Int32.toInt (by rw [e5]; exact x_up2_at _ _ _ _ : g5 69 2 = 1)).trans (by decide); omega)⟩)⟩⟩
  · have l6 : 0 ≤ ar1.toInt := t_lel (t_nlt h3) (by decide : (0:Int) ≤ (0:Int32).toInt)
    refine ev_loc f_X12_isPort (nx := 5) rfl rfl rfl rfl ?_
    refine ev_loc f_X12_isPort (nx := 6) rfl rfl rfl rfl ?_
    refine ev_getR f_X12_isPort (nx := 9) rfl (hI.wf.s rfl) rfl rfl (hI.wf.r rfl) rfl rfl ?_
    refine ev_ic f_X12_isPort (nx := 10) (v := 0) rfl (by decide) rfl ?_
    refine ev_ialdv f_X12_isPort (nx := 11) (w := (gi 70 0)) rfl (hI.wf.s rfl) (by decide) (rfl : (0 : Int32).toNatClampNeg = 0) (by decide) rfl rfl ?_
    refine ev_if f_X12_isPort (t1 := 18) (t2 := 14) rfl rfl rfl (fun h8 => ?_) (fun h8 => ?_)
    · have r9 : (gi 70 0).toInt ≤ ar1.toInt := Int32.le_iff_toInt_le.mp h8
      refine ev_ic f_X12_isPort (nx := 19) (v := 0) rfl (by decide) rfl ?_
      refine ev_retK1 f_X12_isPort rfl rfl rfl ?_
      refine ev_t f_X12_heard (t1 := 20) (t2 := 8) rfl rfl rfl (by decide) ?_
      refine ev_loc f_X12_heard (nx := 21) rfl rfl rfl rfl ?_
      refine ev_ic f_X12_heard (nx := 22) (v := 1) rfl (by decide) rfl ?_
      refine ev_inV2 f_X12_heard (nx := 25) (lo2 := [(0, .ref 69), (1, .int 1)]) rfl rfl rfl rfl f_X12_refuse (hI.wf.s rfl) rfl rfl rfl rfl rfl ?_
      refine ev_loc f_X12_refuse (nx := 1) rfl rfl rfl rfl ?_
      refine ev_loc f_X12_refuse (nx := 2) rfl rfl rfl rfl ?_
      refine ev_putIT f_X12_refuse (nx := 5) rfl (hI.wf.s rfl) rfl rfl rfl (hI.put0 (hI.wf.s rfl) rfl rfl) (hX.upI rfl) (fun g10 e10 hI hX => ?_)
      refine ev_ic f_X12_refuse (nx := 6) (v := -1) rfl (by decide) rfl ?_
      refine ev_retK1 f_X12_refuse rfl rfl rfl ?_
      refine ev_aluvL f_X12_heard (nx := 26) (w := -1) rfl rfl rfl (by decide) rfl ?_
      exact ev_ret f_X12_heard rfl rfl rfl ⟨_, _, _, rfl, hI, hX, ⟨_, rfl, (show (¬ (0 ≤ ar1.toInt ∧ ar1.toInt < (gi 70 0).toInt) → (g10 69 2).toInt = 1) ∧ ((0 ≤ ar1.toInt ∧ ar1.toInt < (gi 70 0).toInt) → (g10 69 2).toInt = 0) from ⟨fun h => (by have ffs : (g10 69 2).toInt = 1 := (congrArg Int32.toInt (by rw [e10]; exact x_up2_at _ _ _ _ : g10 69 2 = 1)).trans (by decide); omega), fun h => (by have ffs : (g10 69 2).toInt = 1 := (congrArg Int32.toInt (by rw [e10]; exact x_up2_at _ _ _ _ : g10 69 2 = 1)).trans (by decide); omega)⟩)⟩⟩
    · have r11 : ar1.toInt < (gi 70 0).toInt := Int32.lt_iff_toInt_lt.mp (t_nle h8)
      have u12 : ar1.toInt ≤ 5 := t_ltu (t_nle h8) u2 rfl
      have l13 : 1 ≤ (gi 70 0).toInt := t_ltl (t_nle h8) l6 rfl
      refine ev_ic f_X12_isPort (nx := 15) (v := 1) rfl (by decide) rfl ?_
      refine ev_jmp f_X12_isPort (nx := 19) rfl rfl rfl ?_
      refine ev_retK1 f_X12_isPort rfl rfl rfl ?_
      refine ev_f f_X12_heard (t1 := 20) (t2 := 8) rfl rfl rfl (by decide) ?_
      refine ev_loc f_X12_heard (nx := 9) rfl rfl rfl rfl ?_
      refine ev_loc f_X12_heard (nx := 10) rfl rfl rfl rfl ?_
      refine ev_loc f_X12_heard (nx := 11) rfl rfl rfl rfl ?_
      refine ev_qL f_X12_heard (nx := 14) (r := [.ref 69]) rfl rfl rfl rfl rfl rfl rfl (c_m_heardOf hI (ar1) l6 u12) rfl hX rfl (fun w14 gi14 gl14 gr14 hI hX hC14 q14 => ?_)
      have q14 : 0 ≤ w14.toInt ∧ w14.toInt < 8589934592 := q14
      refine ev_inV2 f_X12_heard (nx := 17) (lo2 := [(0, .ref 69), (1, .long w14)]) rfl rfl rfl rfl f_X12_givesLong (hI.wf.s rfl) rfl rfl rfl rfl rfl ?_
      refine ev_loc f_X12_givesLong (nx := 1) rfl rfl rfl rfl ?_
      refine ev_ic f_X12_givesLong (nx := 2) (v := 0) rfl (by decide) rfl ?_
      refine ev_putIT f_X12_givesLong (nx := 5) rfl (hI.wf.s rfl) rfl rfl rfl (hI.put0 (hI.wf.s rfl) rfl rfl) (hX.upI rfl) (fun g15 e15 hI hX => ?_)
      refine ev_loc f_X12_givesLong (nx := 6) rfl rfl rfl rfl ?_
      refine ev_retK1 f_X12_givesLong rfl rfl rfl ?_
      refine ev_jmp f_X12_heard (nx := 26) rfl rfl rfl ?_
      exact ev_ret f_X12_heard rfl rfl rfl ⟨_, _, _, rfl, hI, hX, ⟨_, rfl, (show (¬ (0 ≤ ar1.toInt ∧ ar1.toInt < (gi 70 0).toInt) → (g15 69 2).toInt = 1) ∧ ((0 ≤ ar1.toInt ∧ ar1.toInt < (gi 70 0).toInt) → (g15 69 2).toInt = 0) from ⟨fun h => (by have ffs : (g15 69 2).toInt = 0 := (congrArg Int32.toInt (by rw [e15]; exact x_up2_at _ _ _ _ : g15 69 2 = 0)).trans (by decide); omega), fun h => (by have ffs : (g15 69 2).toInt = 0 := (congrArg Int32.toInt (by rw [e15]; exact x_up2_at _ _ _ _ : g15 69 2 = 0)).trans (by decide); omega)⟩)⟩⟩
noncomputable def wl_g_together : List (Nat × Nat) := [(69, 2)]
noncomputable def Q_g_together (gi : Nat → Nat → Int32) (gl : Nat → Nat → Int64) (gr : Nat → Nat → Value) (ar1 : Int32) (ar2 : Int32) (ar3 : Int32) : Int64 → (Nat → Nat → Int32) → (Nat → Nat → Int64) → (Nat → Nat → Value) → Prop := fun (v : Int64) (gi2 : Nat → Nat → Int32) (gl2 : Nat → Nat → Int64) (gr2 : Nat → Nat → Value) => (¬ (0 ≤ ar1.toInt ∧ ar1.toInt < (gi 70 0).toInt ∧ 0 ≤ ar2.toInt ∧ ar2.toInt < (gi 70 0).toInt ∧ 0 ≤ ar3.toInt ∧ ar3.toInt ≤ 12) → (gi2 69 2).toInt = 1) ∧ ((0 ≤ ar1.toInt ∧ ar1.toInt < (gi 70 0).toInt ∧ 0 ≤ ar2.toInt ∧ ar2.toInt < (gi 70 0).toInt ∧ 0 ≤ ar3.toInt ∧ ar3.toInt ≤ 12) → (gi2 69 2).toInt = 0)
theorem c_g_together {X : x_Ext} {d : Nat} {sh : List (Nat ⊕ (Nat × Nat))} {gi : Nat → Nat → Int32} {gl : Nat → Nat → Int64} {gr : Nat → Nat → Value} (hI : t_I sh gi gr) (ar1 : Int32) (ar2 : Int32) (ar3 : Int32) : x_Me X (d + 4) n_X12_together [.ref 69, .int ar1, .int ar2, .int ar3] (sh, gi, gl, gr) (t_PL wl_g_together sh gi gl gr (Q_g_together gi gl gr ar1 ar2 ar3)) := by
  have hX : t_X wl_g_together sh gi gl gr gi gl gr := t_X.rf
  refine me_i f_X12_together (hI.wf.s rfl) rfl rfl rfl ?_
  obtain ⟨l2, u2⟩ := hI.ab (by decide +kernel : t_abr 70 0 0 0 6 = true) (Nat.le_refl _) (Nat.le_refl _)
  refine ev_loc f_X12_together (nx := 1) rfl rfl rfl rfl ?_
  refine ev_loc f_X12_together (nx := 2) rfl rfl rfl rfl ?_
  refine ev_inV2 f_X12_together (nx := 5) (lo2 := [(0, .ref 69), (1, .int ar1)]) rfl rfl rfl rfl f_X12_isPort (hI.wf.s rfl) rfl rfl rfl rfl rfl ?_
  refine ev_loc f_X12_isPort (nx := 1) rfl rfl rfl rfl ?_
  refine ev_if f_X12_isPort (t1 := 18) (t2 := 4) rfl rfl rfl (fun h3 => ?_) (fun h3 => ?_)
  · have u4 : ar1.toInt ≤ (-1) := t_ltu h3 (by decide : (0:Int32).toInt ≤ (0:Int)) rfl
    refine ev_ic f_X12_isPort (nx := 19) (v := 0) rfl (by decide) rfl ?_
    refine ev_retK1 f_X12_isPort rfl rfl rfl ?_
    refine ev_t f_X12_together (t1 := 48) (t2 := 8) rfl rfl rfl (by decide) ?_
    refine ev_loc f_X12_together (nx := 49) rfl rfl rfl rfl ?_
    refine ev_ic f_X12_together (nx := 50) (v := 1) rfl (by decide) rfl ?_
    refine ev_inV2 f_X12_together (nx := 53) (lo2 := [(0, .ref 69), (1, .int 1)]) rfl rfl rfl rfl f_X12_refuse (hI.wf.s rfl) rfl rfl rfl rfl rfl ?_
    refine ev_loc f_X12_refuse (nx := 1) rfl rfl rfl rfl ?_
    refine ev_loc f_X12_refuse (nx := 2) rfl rfl rfl rfl ?_
    refine ev_putIT f_X12_refuse (nx := 5) rfl (hI.wf.s rfl) rfl rfl rfl (hI.put0 (hI.wf.s rfl) rfl rfl) (hX.upI rfl) (fun g5 e5 hI hX => ?_)
    refine ev_ic f_X12_refuse (nx := 6) (v := -1) rfl (by decide) rfl ?_
    refine ev_retK1 f_X12_refuse rfl rfl rfl ?_
    refine ev_aluvL f_X12_together (nx := 54) (w := -1) rfl rfl rfl (by decide) rfl ?_
    exact ev_ret f_X12_together rfl rfl rfl ⟨_, _, _, rfl, hI, hX, ⟨_, rfl, (show (¬ (0 ≤ ar1.toInt ∧ ar1.toInt < (gi 70 0).toInt ∧ 0 ≤ ar2.toInt ∧ ar2.toInt < (gi 70 0).toInt ∧ 0 ≤ ar3.toInt ∧ ar3.toInt ≤ 12) → (g5 69 2).toInt = 1) ∧ ((0 ≤ ar1.toInt ∧ ar1.toInt < (gi 70 0).toInt ∧ 0 ≤ ar2.toInt ∧ ar2.toInt < (gi 70 0).toInt ∧ 0 ≤ ar3.toInt ∧ ar3.toInt ≤ 12) → (g5 69 2).toInt = 0) from ⟨fun h => (by have ffs : (g5 69 2).toInt = 1 := (congrArg Int32.toInt (by rw [e5]; exact x_up2_at _ _ _ _ : g5 69 2 = 1)).trans (by decide); omega), fun h => (by have ffs : (g5 69 2).toInt = 1 := (congrArg Int32.toInt (by rw [e5]; exact x_up2_at _ _ _ _ : g5 69 2 = 1)).trans (by decide); omega)⟩)⟩⟩
  · have l6 : 0 ≤ ar1.toInt := t_lel (t_nlt h3) (by decide : (0:Int) ≤ (0:Int32).toInt)
    refine ev_loc f_X12_isPort (nx := 5) rfl rfl rfl rfl ?_
    refine ev_loc f_X12_isPort (nx := 6) rfl rfl rfl rfl ?_
    refine ev_getR f_X12_isPort (nx := 9) rfl (hI.wf.s rfl) rfl rfl (hI.wf.r rfl) rfl rfl ?_
    refine ev_ic f_X12_isPort (nx := 10) (v := 0) rfl (by decide) rfl ?_
    refine ev_ialdv f_X12_isPort (nx := 11) (w := (gi 70 0)) rfl (hI.wf.s rfl) (by decide) (rfl : (0 : Int32).toNatClampNeg = 0) (by decide) rfl rfl ?_
    refine ev_if f_X12_isPort (t1 := 18) (t2 := 14) rfl rfl rfl (fun h8 => ?_) (fun h8 => ?_)
    · have r9 : (gi 70 0).toInt ≤ ar1.toInt := Int32.le_iff_toInt_le.mp h8
      refine ev_ic f_X12_isPort (nx := 19) (v := 0) rfl (by decide) rfl ?_
      refine ev_retK1 f_X12_isPort rfl rfl rfl ?_
      refine ev_t f_X12_together (t1 := 48) (t2 := 8) rfl rfl rfl (by decide) ?_
      refine ev_loc f_X12_together (nx := 49) rfl rfl rfl rfl ?_
      refine ev_ic f_X12_together (nx := 50) (v := 1) rfl (by decide) rfl ?_
      refine ev_inV2 f_X12_together (nx := 53) (lo2 := [(0, .ref 69), (1, .int 1)]) rfl rfl rfl rfl f_X12_refuse (hI.wf.s rfl) rfl rfl rfl rfl rfl ?_
      refine ev_loc f_X12_refuse (nx := 1) rfl rfl rfl rfl ?_
      refine ev_loc f_X12_refuse (nx := 2) rfl rfl rfl rfl ?_
      refine ev_putIT f_X12_refuse (nx := 5) rfl (hI.wf.s rfl) rfl rfl rfl (hI.put0 (hI.wf.s rfl) rfl rfl) (hX.upI rfl) (fun g10 e10 hI hX => ?_)
      refine ev_ic f_X12_refuse (nx := 6) (v := -1) rfl (by decide) rfl ?_
      refine ev_retK1 f_X12_refuse rfl rfl rfl ?_
      refine ev_aluvL f_X12_together (nx := 54) (w := -1) rfl rfl rfl (by decide) rfl ?_
      exact ev_ret f_X12_together rfl rfl rfl ⟨_, _, _, rfl, hI, hX, ⟨_, rfl, (show (¬ (0 ≤ ar1.toInt ∧ ar1.toInt < (gi 70 0).toInt ∧ 0 ≤ ar2.toInt ∧ ar2.toInt < (gi 70 0).toInt ∧ 0 ≤ ar3.toInt ∧ ar3.toInt ≤ 12) → (g10 69 2).toInt = 1) ∧ ((0 ≤ ar1.toInt ∧ ar1.toInt < (gi 70 0).toInt ∧ 0 ≤ ar2.toInt ∧ ar2.toInt < (gi 70 0).toInt ∧ 0 ≤ ar3.toInt ∧ ar3.toInt ≤ 12) → (g10 69 2).toInt = 0) from ⟨fun h => (by have ffs : (g10 69 2).toInt = 1 := (congrArg Int32.toInt (by rw [e10]; exact x_up2_at _ _ _ _ : g10 69 2 = 1)).trans (by decide); omega), fun h => (by have ffs : (g10 69 2).toInt = 1 := (congrArg Int32.toInt (by rw [e10]; exact x_up2_at _ _ _ _ : g10 69 2 = 1)).trans (by decide); omega)⟩)⟩⟩
    · have r11 : ar1.toInt < (gi 70 0).toInt := Int32.lt_iff_toInt_lt.mp (t_nle h8)
      have u12 : ar1.toInt ≤ 5 := t_ltu (t_nle h8) u2 rfl
      have l13 : 1 ≤ (gi 70 0).toInt := t_ltl (t_nle h8) l6 rfl
      refine ev_ic f_X12_isPort (nx := 15) (v := 1) rfl (by decide) rfl ?_
      refine ev_jmp f_X12_isPort (nx := 19) rfl rfl rfl ?_
      refine ev_retK1 f_X12_isPort rfl rfl rfl ?_
      refine ev_f f_X12_together (t1 := 48) (t2 := 8) rfl rfl rfl (by decide) ?_
      refine ev_loc f_X12_together (nx := 9) rfl rfl rfl rfl ?_
      refine ev_loc f_X12_together (nx := 10) rfl rfl rfl rfl ?_
      refine ev_inV2 f_X12_together (nx := 13) (lo2 := [(0, .ref 69), (1, .int ar2)]) rfl rfl rfl rfl f_X12_isPort (hI.wf.s rfl) rfl rfl rfl rfl rfl ?_
      refine ev_loc f_X12_isPort (nx := 1) rfl rfl rfl rfl ?_
      refine ev_if f_X12_isPort (t1 := 18) (t2 := 4) rfl rfl rfl (fun h14 => ?_) (fun h14 => ?_)
      · have u15 : ar2.toInt ≤ (-1) := t_ltu h14 (by decide : (0:Int32).toInt ≤ (0:Int)) rfl
        refine ev_ic f_X12_isPort (nx := 19) (v := 0) rfl (by decide) rfl ?_
        refine ev_retK1 f_X12_isPort rfl rfl rfl ?_
        refine ev_t f_X12_together (t1 := 48) (t2 := 16) rfl rfl rfl (by decide) ?_
        refine ev_loc f_X12_together (nx := 49) rfl rfl rfl rfl ?_
        refine ev_ic f_X12_together (nx := 50) (v := 1) rfl (by decide) rfl ?_
        refine ev_inV2 f_X12_together (nx := 53) (lo2 := [(0, .ref 69), (1, .int 1)]) rfl rfl rfl rfl f_X12_refuse (hI.wf.s rfl) rfl rfl rfl rfl rfl ?_
        refine ev_loc f_X12_refuse (nx := 1) rfl rfl rfl rfl ?_
        refine ev_loc f_X12_refuse (nx := 2) rfl rfl rfl rfl ?_
        refine ev_putIT f_X12_refuse (nx := 5) rfl (hI.wf.s rfl) rfl rfl rfl (hI.put0 (hI.wf.s rfl) rfl rfl) (hX.upI rfl) (fun g16 e16 hI hX => ?_)
        refine ev_ic f_X12_refuse (nx := 6) (v := -1) rfl (by decide) rfl ?_
        refine ev_retK1 f_X12_refuse rfl rfl rfl ?_
        refine ev_aluvL f_X12_together (nx := 54) (w := -1) rfl rfl rfl (by decide) rfl ?_
        exact ev_ret f_X12_together rfl rfl rfl ⟨_, _, _, rfl, hI, hX, ⟨_, rfl, (show (¬ (0 ≤ ar1.toInt ∧ ar1.toInt < (gi 70 0).toInt ∧ 0 ≤ ar2.toInt ∧ ar2.toInt < (gi 70 0).toInt ∧ 0 ≤ ar3.toInt ∧ ar3.toInt ≤ 12) → (g16 69 2).toInt = 1) ∧ ((0 ≤ ar1.toInt ∧ ar1.toInt < (gi 70 0).toInt ∧ 0 ≤ ar2.toInt ∧ ar2.toInt < (gi 70 0).toInt ∧ 0 ≤ ar3.toInt ∧ ar3.toInt ≤ 12) → (g16 69 2).toInt = 0) from ⟨fun h => (by have ffs : (g16 69 2).toInt = 1 := (congrArg Int32.toInt (by rw [e16]; exact x_up2_at _ _ _ _ : g16 69 2 = 1)).trans (by decide); omega), fun h => (by have ffs : (g16 69 2).toInt = 1 := (congrArg Int32.toInt (by rw [e16]; exact x_up2_at _ _ _ _ : g16 69 2 = 1)).trans (by decide); omega)⟩)⟩⟩
      · have l17 : 0 ≤ ar2.toInt := t_lel (t_nlt h14) (by decide : (0:Int) ≤ (0:Int32).toInt)
        refine ev_loc f_X12_isPort (nx := 5) rfl rfl rfl rfl ?_
        refine ev_loc f_X12_isPort (nx := 6) rfl rfl rfl rfl ?_
        refine ev_getR f_X12_isPort (nx := 9) rfl (hI.wf.s rfl) rfl rfl (hI.wf.r rfl) rfl rfl ?_
        refine ev_ic f_X12_isPort (nx := 10) (v := 0) rfl (by decide) rfl ?_
        refine ev_ialdv f_X12_isPort (nx := 11) (w := (gi 70 0)) rfl (hI.wf.s rfl) (by decide) (rfl : (0 : Int32).toNatClampNeg = 0) (by decide) rfl rfl ?_
        refine ev_if f_X12_isPort (t1 := 18) (t2 := 14) rfl rfl rfl (fun h19 => ?_) (fun h19 => ?_)
        · have r20 : (gi 70 0).toInt ≤ ar2.toInt := Int32.le_iff_toInt_le.mp h19
          have l21 : 1 ≤ ar2.toInt := t_lel h19 l13
          refine ev_ic f_X12_isPort (nx := 19) (v := 0) rfl (by decide) rfl ?_
          refine ev_retK1 f_X12_isPort rfl rfl rfl ?_
          refine ev_t f_X12_together (t1 := 48) (t2 := 16) rfl rfl rfl (by decide) ?_
          refine ev_loc f_X12_together (nx := 49) rfl rfl rfl rfl ?_
          refine ev_ic f_X12_together (nx := 50) (v := 1) rfl (by decide) rfl ?_
          refine ev_inV2 f_X12_together (nx := 53) (lo2 := [(0, .ref 69), (1, .int 1)]) rfl rfl rfl rfl f_X12_refuse (hI.wf.s rfl) rfl rfl rfl rfl rfl ?_
          refine ev_loc f_X12_refuse (nx := 1) rfl rfl rfl rfl ?_
          refine ev_loc f_X12_refuse (nx := 2) rfl rfl rfl rfl ?_
          refine ev_putIT f_X12_refuse (nx := 5) rfl (hI.wf.s rfl) rfl rfl rfl (hI.put0 (hI.wf.s rfl) rfl rfl) (hX.upI rfl) (fun g22 e22 hI hX => ?_)
          refine ev_ic f_X12_refuse (nx := 6) (v := -1) rfl (by decide) rfl ?_
          refine ev_retK1 f_X12_refuse rfl rfl rfl ?_
          refine ev_aluvL f_X12_together (nx := 54) (w := -1) rfl rfl rfl (by decide) rfl ?_
          exact ev_ret f_X12_together rfl rfl rfl ⟨_, _, _, rfl, hI, hX, ⟨_, rfl, (show (¬ (0 ≤ ar1.toInt ∧ ar1.toInt < (gi 70 0).toInt ∧ 0 ≤ ar2.toInt ∧ ar2.toInt < (gi 70 0).toInt ∧ 0 ≤ ar3.toInt ∧ ar3.toInt ≤ 12) → (g22 69 2).toInt = 1) ∧ ((0 ≤ ar1.toInt ∧ ar1.toInt < (gi 70 0).toInt ∧ 0 ≤ ar2.toInt ∧ ar2.toInt < (gi 70 0).toInt ∧ 0 ≤ ar3.toInt ∧ ar3.toInt ≤ 12) → (g22 69 2).toInt = 0) from ⟨fun h => (by have ffs : (g22 69 2).toInt = 1 := (congrArg Int32.toInt (by rw [e22]; exact x_up2_at _ _ _ _ : g22 69 2 = 1)).trans (by decide); omega), fun h => (by have ffs : (g22 69 2).toInt = 1 := (congrArg Int32.toInt (by rw [e22]; exact x_up2_at _ _ _ _ : g22 69 2 = 1)).trans (by decide); omega)⟩)⟩⟩
        · have r23 : ar2.toInt < (gi 70 0).toInt := Int32.lt_iff_toInt_lt.mp (t_nle h19)
          have u24 : ar2.toInt ≤ 5 := t_ltu (t_nle h19) u2 rfl
          refine ev_ic f_X12_isPort (nx := 15) (v := 1) rfl (by decide) rfl ?_
          refine ev_jmp f_X12_isPort (nx := 19) rfl rfl rfl ?_
          refine ev_retK1 f_X12_isPort rfl rfl rfl ?_
          refine ev_f f_X12_together (t1 := 48) (t2 := 16) rfl rfl rfl (by decide) ?_
          refine ev_loc f_X12_together (nx := 17) rfl rfl rfl rfl ?_
          refine ev_anyLE f_X12_together (nx := 18) rfl rfl rfl rfl (fun z25 e25 => ?_)
          have i25 : z25.toInt = ar3.toInt := by rw [e25]; exact Int32.toInt_toInt64 _
          refine ev_lc f_X12_together (nx := 19) (v := 0) rfl (by decide) rfl ?_
          refine ev_ldL f_X12_together (nx := 22) (v := 12) rfl (by decide) rfl ?_
          refine ev_inS3 f_X12_together (nx := 25) (lo2 := [(0, .long z25), (2, .long 0), (4, .long 12)]) rfl rfl rfl rfl f_X12_isFrom rfl rfl rfl rfl ?_
          refine ev_loc f_X12_isFrom (nx := 1) rfl rfl rfl rfl ?_
          refine ev_loc f_X12_isFrom (nx := 2) rfl rfl rfl rfl ?_
          refine ev_anyIE f_X12_isFrom (nx := 3) rfl rfl rfl rfl (fun z26 e26 => ?_)
          refine ev_if f_X12_isFrom (t1 := 17) (t2 := 6) rfl rfl rfl (fun h27 => ?_) (fun h27 => ?_)
          · have u28 : ar3.toInt ≤ ((-1):Int) := Int.le_sub_one_of_lt ((lgc_lt (by decide : (0 : Int64).toInt = 0)).mp (by have hh := h27; rw [e26, e25] at hh; exact hh))
            have u29 : z26.toInt ≤ (-1) := t_ltu h27 (by decide : (0:Int32).toInt ≤ (0:Int)) rfl
            refine ev_ic f_X12_isFrom (nx := 18) (v := 0) rfl (by decide) rfl ?_
            refine ev_retK1 f_X12_isFrom rfl rfl rfl ?_
            refine ev_t f_X12_together (t1 := 48) (t2 := 28) rfl rfl rfl (by decide) ?_
            refine ev_loc f_X12_together (nx := 49) rfl rfl rfl rfl ?_
            refine ev_ic f_X12_together (nx := 50) (v := 1) rfl (by decide) rfl ?_
            refine ev_inV2 f_X12_together (nx := 53) (lo2 := [(0, .ref 69), (1, .int 1)]) rfl rfl rfl rfl f_X12_refuse (hI.wf.s rfl) rfl rfl rfl rfl rfl ?_
            refine ev_loc f_X12_refuse (nx := 1) rfl rfl rfl rfl ?_
            refine ev_loc f_X12_refuse (nx := 2) rfl rfl rfl rfl ?_
            refine ev_putIT f_X12_refuse (nx := 5) rfl (hI.wf.s rfl) rfl rfl rfl (hI.put0 (hI.wf.s rfl) rfl rfl) (hX.upI rfl) (fun g30 e30 hI hX => ?_)
            refine ev_ic f_X12_refuse (nx := 6) (v := -1) rfl (by decide) rfl ?_
            refine ev_retK1 f_X12_refuse rfl rfl rfl ?_
            refine ev_aluvL f_X12_together (nx := 54) (w := -1) rfl rfl rfl (by decide) rfl ?_
            exact ev_ret f_X12_together rfl rfl rfl ⟨_, _, _, rfl, hI, hX, ⟨_, rfl, (show (¬ (0 ≤ ar1.toInt ∧ ar1.toInt < (gi 70 0).toInt ∧ 0 ≤ ar2.toInt ∧ ar2.toInt < (gi 70 0).toInt ∧ 0 ≤ ar3.toInt ∧ ar3.toInt ≤ 12) → (g30 69 2).toInt = 1) ∧ ((0 ≤ ar1.toInt ∧ ar1.toInt < (gi 70 0).toInt ∧ 0 ≤ ar2.toInt ∧ ar2.toInt < (gi 70 0).toInt ∧ 0 ≤ ar3.toInt ∧ ar3.toInt ≤ 12) → (g30 69 2).toInt = 0) from ⟨fun h => (by have ffs : (g30 69 2).toInt = 1 := (congrArg Int32.toInt (by rw [e30]; exact x_up2_at _ _ _ _ : g30 69 2 = 1)).trans (by decide); omega), fun h => (by have ffs : (g30 69 2).toInt = 1 := (congrArg Int32.toInt (by rw [e30]; exact x_up2_at _ _ _ _ : g30 69 2 = 1)).trans (by decide); omega)⟩)⟩⟩
          · have l31 : (0:Int) ≤ ar3.toInt := (lgc_ge (by decide : (0 : Int64).toInt = 0)).mp (by have hh := (t_nlt h27); rw [e26, e25] at hh; exact hh)
            have l32 : 0 ≤ z26.toInt := t_lel (t_nlt h27) (by decide : (0:Int) ≤ (0:Int32).toInt)
            refine ev_loc f_X12_isFrom (nx := 7) rfl rfl rfl rfl ?_
            refine ev_loc f_X12_isFrom (nx := 9) rfl rfl rfl rfl ?_
            refine ev_anyIE f_X12_isFrom (nx := 10) rfl rfl rfl rfl (fun z33 e33 => ?_)
            refine ev_if f_X12_isFrom (t1 := 17) (t2 := 13) rfl rfl rfl (fun h34 => ?_) (fun h34 => ?_)
            · have l35 : (13:Int) ≤ ar3.toInt := Int.add_one_le_of_lt ((lgc_gt (by decide : (12 : Int64).toInt = 12)).mp (by have hh := h34; rw [e33, e25] at hh; exact hh))
              have l36 : 1 ≤ z33.toInt := t_ltl h34 (by decide : (0:Int) ≤ (0:Int32).toInt) rfl
              refine ev_ic f_X12_isFrom (nx := 18) (v := 0) rfl (by decide) rfl ?_
              refine ev_retK1 f_X12_isFrom rfl rfl rfl ?_
              refine ev_t f_X12_together (t1 := 48) (t2 := 28) rfl rfl rfl (by decide) ?_
              refine ev_loc f_X12_together (nx := 49) rfl rfl rfl rfl ?_
              refine ev_ic f_X12_together (nx := 50) (v := 1) rfl (by decide) rfl ?_
              refine ev_inV2 f_X12_together (nx := 53) (lo2 := [(0, .ref 69), (1, .int 1)]) rfl rfl rfl rfl f_X12_refuse (hI.wf.s rfl) rfl rfl rfl rfl rfl ?_
              refine ev_loc f_X12_refuse (nx := 1) rfl rfl rfl rfl ?_
              refine ev_loc f_X12_refuse (nx := 2) rfl rfl rfl rfl ?_
              refine ev_putIT f_X12_refuse (nx := 5) rfl (hI.wf.s rfl) rfl rfl rfl (hI.put0 (hI.wf.s rfl) rfl rfl) (hX.upI rfl) (fun g37 e37 hI hX => ?_)
              refine ev_ic f_X12_refuse (nx := 6) (v := -1) rfl (by decide) rfl ?_
              refine ev_retK1 f_X12_refuse rfl rfl rfl ?_
              refine ev_aluvL f_X12_together (nx := 54) (w := -1) rfl rfl rfl (by decide) rfl ?_
              exact ev_ret f_X12_together rfl rfl rfl ⟨_, _, _, rfl, hI, hX, ⟨_, rfl, (show (¬ (0 ≤ ar1.toInt ∧ ar1.toInt < (gi 70 0).toInt ∧ 0 ≤ ar2.toInt ∧ ar2.toInt < (gi 70 0).toInt ∧ 0 ≤ ar3.toInt ∧ ar3.toInt ≤ 12) → (g37 69 2).toInt = 1) ∧ ((0 ≤ ar1.toInt ∧ ar1.toInt < (gi 70 0).toInt ∧ 0 ≤ ar2.toInt ∧ ar2.toInt < (gi 70 0).toInt ∧ 0 ≤ ar3.toInt ∧ ar3.toInt ≤ 12) → (g37 69 2).toInt = 0) from ⟨fun h => (by have ffs : (g37 69 2).toInt = 1 := (congrArg Int32.toInt (by rw [e37]; exact x_up2_at _ _ _ _ : g37 69 2 = 1)).trans (by decide); omega), fun h => (by have ffs : (g37 69 2).toInt = 1 := (congrArg Int32.toInt (by rw [e37]; exact x_up2_at _ _ _ _ : g37 69 2 = 1)).trans (by decide); omega)⟩)⟩⟩
            · have u38 : ar3.toInt ≤ (12:Int) := (lgc_le (by decide : (12 : Int64).toInt = 12)).mp (by have hh := (t_nlt h34); rw [e33, e25] at hh; exact hh)
              have u39 : z33.toInt ≤ 0 := t_leu (t_nlt h34) (by decide : (0:Int32).toInt ≤ (0:Int))
              refine ev_ic f_X12_isFrom (nx := 14) (v := 1) rfl (by decide) rfl ?_
              refine ev_jmp f_X12_isFrom (nx := 18) rfl rfl rfl ?_
              refine ev_retK1 f_X12_isFrom rfl rfl rfl ?_
              refine ev_f f_X12_together (t1 := 48) (t2 := 28) rfl rfl rfl (by decide) ?_
              refine ev_loc f_X12_together (nx := 29) rfl rfl rfl rfl ?_
              refine ev_loc f_X12_together (nx := 30) rfl rfl rfl rfl ?_
              refine ev_loc f_X12_together (nx := 31) rfl rfl rfl rfl ?_
              refine ev_qL f_X12_together (nx := 34) (r := [.ref 69]) rfl rfl rfl rfl rfl rfl rfl (c_m_heardOf hI (ar1) l6 u12) rfl hX rfl (fun w40 gi40 gl40 gr40 hI hX hC40 q40 => ?_)
              have q40 : 0 ≤ w40.toInt ∧ w40.toInt < 8589934592 := q40
              refine ev_loc f_X12_together (nx := 35) rfl rfl rfl rfl ?_
              refine ev_loc f_X12_together (nx := 36) rfl rfl rfl rfl ?_
              refine ev_qL f_X12_together (nx := 39) (r := [.long w40, .ref 69]) rfl rfl rfl rfl rfl rfl rfl (c_m_heardOf hI (ar2) l17 u24) rfl hX rfl (fun w41 gi41 gl41 gr41 hI hX hC41 q41 => ?_)
              have q41 : 0 ≤ w41.toInt ∧ w41.toInt < 8589934592 := q41
              refine ev_loc f_X12_together (nx := 40) rfl rfl rfl rfl ?_
              refine ev_anyLE f_X12_together (nx := 41) rfl rfl rfl rfl (fun z42 e42 => ?_)
              refine ev_anyLE f_X12_together (nx := 42) rfl rfl rfl rfl (fun z43 e43 => ?_)
              refine ev_inV2 f_X12_together (nx := 45) (lo2 := [(0, .ref 69), (1, .long z43)]) rfl rfl rfl rfl f_X12_givesLong (hI.wf.s rfl) rfl rfl rfl rfl rfl ?_
              refine ev_loc f_X12_givesLong (nx := 1) rfl rfl rfl rfl ?_
              refine ev_ic f_X12_givesLong (nx := 2) (v := 0) rfl (by decide) rfl ?_
              refine ev_putIT f_X12_givesLong (nx := 5) rfl (hI.wf.s rfl) rfl rfl rfl (hI.put0 (hI.wf.s rfl) rfl rfl) (hX.upI rfl) (fun g44 e44 hI hX => ?_)
              refine ev_loc f_X12_givesLong (nx := 6) rfl rfl rfl rfl ?_
              refine ev_retK1 f_X12_givesLong rfl rfl rfl ?_
              refine ev_jmp f_X12_together (nx := 54) rfl rfl rfl ?_
              exact ev_ret f_X12_together rfl rfl rfl ⟨_, _, _, rfl, hI, hX, ⟨_, rfl, (show (¬ (0 ≤ ar1.toInt ∧ ar1.toInt < (gi 70 0).toInt ∧ 0 ≤ ar2.toInt ∧ ar2.toInt < (gi 70 0).toInt ∧ 0 ≤ ar3.toInt ∧ ar3.toInt ≤ 12) → (g44 69 2).toInt = 1) ∧ ((0 ≤ ar1.toInt ∧ ar1.toInt < (gi 70 0).toInt ∧ 0 ≤ ar2.toInt ∧ ar2.toInt < (gi 70 0).toInt ∧ 0 ≤ ar3.toInt ∧ ar3.toInt ≤ 12) → (g44 69 2).toInt = 0) from ⟨fun h => (by have ffs : (g44 69 2).toInt = 0 := (congrArg Int32.toInt (by rw [e44]; exact x_up2_at _ _ _ _ : g44 69 2 = 0)).trans (by decide); omega), fun h => (by have ffs : (g44 69 2).toInt = 0 := (congrArg Int32.toInt (by rw [e44]; exact x_up2_at _ _ _ _ : g44 69 2 = 0)).trans (by decide); omega)⟩)⟩⟩
