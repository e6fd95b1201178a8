/-! ===== printed by riv.py: STATUS, the other side ===== -/
noncomputable def wl_g_pour : List (Nat × Nat) := [(69, 2), (74, 9999)]
noncomputable def Q_g_pour (gi : Nat → Nat → Int32) (gl : Nat → Nat → Int64) (gr : Nat → Nat → Value) (ar1 : Int32) (ar2 : Int32) (ar3 : Int32) (ar4 : Int32) (ar5 : Int32) : Int32 → (Nat → Nat → Int32) → (Nat → Nat → Int64) → (Nat → Nat → Value) → Prop := fun (v : Int32) (gi2 : Nat → Nat → Int32) (gl2 : Nat → Nat → Int64) (gr2 : Nat → Nat → Value) => (¬ ((0 ≤ ar1.toInt ∧ ar1.toInt ≤ 3) ∧ (0 ≤ ar3.toInt ∧ ar3.toInt ≤ 3) ∧ (0 ≤ ar2.toInt ∧ 0 ≤ ar4.toInt ∧ 0 ≤ ar5.toInt)) → (gi2 69 2).toInt = 1) ∧ ((0 ≤ ar1.toInt ∧ ar1.toInt ≤ 3) → (0 ≤ ar3.toInt ∧ ar3.toInt ≤ 3) → (0 ≤ ar2.toInt ∧ 0 ≤ ar4.toInt ∧ 0 ≤ ar5.toInt) → ((gi 73 ar1.toNatClampNeg).toInt = -1 ∨ (gi 73 ar3.toNatClampNeg).toInt = -1 → (gi2 69 2).toInt = 2) ∧ ((gi 73 ar1.toNatClampNeg).toInt ≠ -1 → (gi 73 ar3.toNatClampNeg).toInt ≠ -1 → ((gi 72 ar1.toNatClampNeg).toInt ≠ (gi 72 ar3.toNatClampNeg).toInt → (gi2 69 2).toInt = 8) ∧ ((gi 72 ar1.toNatClampNeg).toInt = (gi 72 ar3.toNatClampNeg).toInt → ((ar2.toInt + ar5.toInt ≤ (gi 73 ar1.toNatClampNeg).toInt ∧ ar4.toInt + ar5.toInt ≤ (gi 73 ar3.toNatClampNeg).toInt) → (gi2 69 2).toInt = 0) ∧ (¬ (ar2.toInt + ar5.toInt ≤ (gi 73 ar1.toNatClampNeg).toInt ∧ ar4.toInt + ar5.toInt ≤ (gi 73 ar3.toNatClampNeg).toInt) → (gi2 69 2).toInt = 3))))
theorem c_g_pour {X : x_Ext} {d : Nat} {sh : List (Nat ⊕ (Nat × Nat))} {gi : Nat → Nat → Int32} {gl : Nat → Nat → Int64} {gr : Nat → Nat → Value} (hI : t_I sh gi gr) (ar1 : Int32) (ar2 : Int32) (ar3 : Int32) (ar4 : Int32) (ar5 : Int32) : x_Me X (d + 2) n_X12_pour [.ref 69, .int ar1, .int ar2, .int ar3, .int ar4, .int ar5] (sh, gi, gl, gr) (t_PI wl_g_pour sh gi gl gr 0 1 (Q_g_pour gi gl gr ar1 ar2 ar3 ar4 ar5)) := by
  have hX : t_X wl_g_pour sh gi gl gr gi gl gr := t_X.rf
  refine me_i f_X12_pour (hI.wf.s rfl) rfl rfl rfl ?_
  refine ev_loc f_X12_pour (nx := 1) rfl rfl rfl rfl ?_
  refine ev_inS1 f_X12_pour (nx := 4) (lo2 := [(0, .int ar1)]) rfl rfl rfl rfl f_X12_isTray rfl rfl rfl rfl ?_
  refine ev_loc f_X12_isTray (nx := 1) rfl rfl rfl rfl ?_
  refine ev_if f_X12_isTray (t1 := 13) (t2 := 4) rfl rfl rfl (fun h2 => ?_) (fun h2 => ?_)
  · have u3 : ar1.toInt ≤ (-1) := t_ltu h2 (by decide : (0:Int32).toInt ≤ (0:Int)) rfl
    refine ev_ic f_X12_isTray (nx := 14) (v := 0) rfl (by decide) rfl ?_
    refine ev_retK1 f_X12_isTray rfl rfl rfl ?_
    refine ev_t f_X12_pour (t1 := 28) (t2 := 7) rfl rfl rfl (by decide) ?_
    refine ev_loc f_X12_pour (nx := 29) rfl rfl rfl rfl ?_
    refine ev_ic f_X12_pour (nx := 30) (v := 1) rfl (by decide) rfl ?_
    refine ev_inV2 f_X12_pour (nx := 33) (lo2 := [(0, .ref 69), (1, .int 1)]) rfl rfl rfl rfl f_X12_is (hI.wf.s rfl) rfl rfl rfl rfl rfl ?_
    refine ev_loc f_X12_is (nx := 1) rfl rfl rfl rfl ?_
    refine ev_loc f_X12_is (nx := 2) rfl rfl rfl rfl ?_
    refine ev_putIT f_X12_is (nx := 5) rfl (hI.wf.s rfl) rfl rfl rfl (hI.put0 (hI.wf.s rfl) rfl rfl) (hX.upI rfl) (fun g4 e4 hI hX => ?_)
    refine ev_loc f_X12_is (nx := 6) rfl rfl rfl rfl ?_
    refine ev_f f_X12_is (t1 := 9) (t2 := 13) rfl rfl rfl (by decide) ?_
    refine ev_ic f_X12_is (nx := 14) (v := 0) rfl (by decide) rfl ?_
    refine ev_retK1 f_X12_is rfl rfl rfl ?_
    exact ev_ret f_X12_pour rfl rfl rfl ⟨_, _, _, rfl, hI, hX, ⟨_, rfl, (by decide : (0:Int) ≤ (0:Int32).toInt), (Int.le_trans (by decide : (0:Int32).toInt ≤ (0:Int)) (by decide : (0:Int) ≤ 1)), (show (¬ ((0 ≤ ar1.toInt ∧ ar1.toInt ≤ 3) ∧ (0 ≤ ar3.toInt ∧ ar3.toInt ≤ 3) ∧ (0 ≤ ar2.toInt ∧ 0 ≤ ar4.toInt ∧ 0 ≤ ar5.toInt)) → (g4 69 2).toInt = 1) ∧ ((0 ≤ ar1.toInt ∧ ar1.toInt ≤ 3) → (0 ≤ ar3.toInt ∧ ar3.toInt ≤ 3) → (0 ≤ ar2.toInt ∧ 0 ≤ ar4.toInt ∧ 0 ≤ ar5.toInt) → ((gi 73 ar1.toNatClampNeg).toInt = -1 ∨ (gi 73 ar3.toNatClampNeg).toInt = -1 → (g4 69 2).toInt = 2) ∧ ((gi 73 ar1.toNatClampNeg).toInt ≠ -1 → (gi 73 ar3.toNatClampNeg).toInt ≠ -1 → ((gi 72 ar1.toNatClampNeg).toInt ≠ (gi 72 ar3.toNatClampNeg).toInt → (g4 69 2).toInt = 8) ∧ ((gi 72 ar1.toNatClampNeg).toInt = (gi 72 ar3.toNatClampNeg).toInt → ((ar2.toInt + ar5.toInt ≤ (gi 73 ar1.toNatClampNeg).toInt ∧ ar4.toInt + ar5.toInt ≤ (gi 73 ar3.toNatClampNeg).toInt) → (g4 69 2).toInt = 0) ∧ (¬ (ar2.toInt + ar5.toInt ≤ (gi 73 ar1.toNatClampNeg).toInt ∧ ar4.toInt + ar5.toInt ≤ (gi 73 ar3.toNatClampNeg).toInt) → (g4 69 2).toInt = 3)))) from (by have ffs : (g4 69 2).toInt = 1 := (congrArg Int32.toInt (by rw [e4]; exact x_up2_at _ _ _ _ : g4 69 2 = 1)).trans (by decide); refine ⟨fun h3 => by omega, fun hi1 hi3 hp => ?_⟩; refine ⟨fun h4 => ?_, fun h4 h5 => ⟨fun h6 => ?_, fun h6 => ⟨fun h7 => ?_, fun h7 => ?_⟩⟩⟩ <;> omega))⟩⟩
  · have l5 : 0 ≤ ar1.toInt := t_lel (t_nlt h2) (by decide : (0:Int) ≤ (0:Int32).toInt)
    refine ev_loc f_X12_isTray (nx := 5) rfl rfl rfl rfl ?_
    refine ev_ic f_X12_isTray (nx := 6) (v := 4) rfl (by decide) rfl ?_
    refine ev_if f_X12_isTray (t1 := 13) (t2 := 9) rfl rfl rfl (fun h6 => ?_) (fun h6 => ?_)
    · have l7 : 4 ≤ ar1.toInt := t_lel h6 (by decide : (4:Int) ≤ (4:Int32).toInt)
      refine ev_ic f_X12_isTray (nx := 14) (v := 0) rfl (by decide) rfl ?_
      refine ev_retK1 f_X12_isTray rfl rfl rfl ?_
      refine ev_t f_X12_pour (t1 := 28) (t2 := 7) rfl rfl rfl (by decide) ?_
      refine ev_loc f_X12_pour (nx := 29) rfl rfl rfl rfl ?_
      refine ev_ic f_X12_pour (nx := 30) (v := 1) rfl (by decide) rfl ?_
      refine ev_inV2 f_X12_pour (nx := 33) (lo2 := [(0, .ref 69), (1, .int 1)]) rfl rfl rfl rfl f_X12_is (hI.wf.s rfl) rfl rfl rfl rfl rfl ?_
      refine ev_loc f_X12_is (nx := 1) rfl rfl rfl rfl ?_
      refine ev_loc f_X12_is (nx := 2) rfl rfl rfl rfl ?_
      refine ev_putIT f_X12_is (nx := 5) rfl (hI.wf.s rfl) rfl rfl rfl (hI.put0 (hI.wf.s rfl) rfl rfl) (hX.upI rfl) (fun g8 e8 hI hX => ?_)
      refine ev_loc f_X12_is (nx := 6) rfl rfl rfl rfl ?_
      refine ev_f f_X12_is (t1 := 9) (t2 := 13) rfl rfl rfl (by decide) ?_
      refine ev_ic f_X12_is (nx := 14) (v := 0) rfl (by decide) rfl ?_
      refine ev_retK1 f_X12_is rfl rfl rfl ?_
      exact ev_ret f_X12_pour rfl rfl rfl ⟨_, _, _, rfl, hI, hX, ⟨_, rfl, (by decide : (0:Int) ≤ (0:Int32).toInt), (Int.le_trans (by decide : (0:Int32).toInt ≤ (0:Int)) (by decide : (0:Int) ≤ 1)), (show (¬ ((0 ≤ ar1.toInt ∧ ar1.toInt ≤ 3) ∧ (0 ≤ ar3.toInt ∧ ar3.toInt ≤ 3) ∧ (0 ≤ ar2.toInt ∧ 0 ≤ ar4.toInt ∧ 0 ≤ ar5.toInt)) → (g8 69 2).toInt = 1) ∧ ((0 ≤ ar1.toInt ∧ ar1.toInt ≤ 3) → (0 ≤ ar3.toInt ∧ ar3.toInt ≤ 3) → (0 ≤ ar2.toInt ∧ 0 ≤ ar4.toInt ∧ 0 ≤ ar5.toInt) → ((gi 73 ar1.toNatClampNeg).toInt = -1 ∨ (gi 73 ar3.toNatClampNeg).toInt = -1 → (g8 69 2).toInt = 2) ∧ ((gi 73 ar1.toNatClampNeg).toInt ≠ -1 → (gi 73 ar3.toNatClampNeg).toInt ≠ -1 → ((gi 72 ar1.toNatClampNeg).toInt ≠ (gi 72 ar3.toNatClampNeg).toInt → (g8 69 2).toInt = 8) ∧ ((gi 72 ar1.toNatClampNeg).toInt = (gi 72 ar3.toNatClampNeg).toInt → ((ar2.toInt + ar5.toInt ≤ (gi 73 ar1.toNatClampNeg).toInt ∧ ar4.toInt + ar5.toInt ≤ (gi 73 ar3.toNatClampNeg).toInt) → (g8 69 2).toInt = 0) ∧ (¬ (ar2.toInt + ar5.toInt ≤ (gi 73 ar1.toNatClampNeg).toInt ∧ ar4.toInt + ar5.toInt ≤ (gi 73 ar3.toNatClampNeg).toInt) → (g8 69 2).toInt = 3)))) from (by have ffs : (g8 69 2).toInt = 1 := (congrArg Int32.toInt (by rw [e8]; exact x_up2_at _ _ _ _ : g8 69 2 = 1)).trans (by decide); refine ⟨fun h3 => by omega, fun hi1 hi3 hp => ?_⟩; refine ⟨fun h4 => ?_, fun h4 h5 => ⟨fun h6 => ?_, fun h6 => ⟨fun h7 => ?_, fun h7 => ?_⟩⟩⟩ <;> omega))⟩⟩
    · have u9 : ar1.toInt ≤ 3 := t_ltu (t_nle h6) (by decide : (4:Int32).toInt ≤ (4:Int)) rfl
      refine ev_ic f_X12_isTray (nx := 10) (v := 1) rfl (by decide) rfl ?_
      refine ev_jmp f_X12_isTray (nx := 14) rfl rfl rfl ?_
      refine ev_retK1 f_X12_isTray rfl rfl rfl ?_
      refine ev_f f_X12_pour (t1 := 28) (t2 := 7) rfl rfl rfl (by decide) ?_
      refine ev_loc f_X12_pour (nx := 8) rfl rfl rfl rfl ?_
      refine ev_inS1 f_X12_pour (nx := 11) (lo2 := [(0, .int ar3)]) rfl rfl rfl rfl f_X12_isTray rfl rfl rfl rfl ?_
      refine ev_loc f_X12_isTray (nx := 1) rfl rfl rfl rfl ?_
      refine ev_if f_X12_isTray (t1 := 13) (t2 := 4) rfl rfl rfl (fun h10 => ?_) (fun h10 => ?_)
      · have u11 : ar3.toInt ≤ (-1) := t_ltu h10 (by decide : (0:Int32).toInt ≤ (0:Int)) rfl
        refine ev_ic f_X12_isTray (nx := 14) (v := 0) rfl (by decide) rfl ?_
        refine ev_retK1 f_X12_isTray rfl rfl rfl ?_
        refine ev_t f_X12_pour (t1 := 28) (t2 := 14) rfl rfl rfl (by decide) ?_
        refine ev_loc f_X12_pour (nx := 29) rfl rfl rfl rfl ?_
        refine ev_ic f_X12_pour (nx := 30) (v := 1) rfl (by decide) rfl ?_
        refine ev_inV2 f_X12_pour (nx := 33) (lo2 := [(0, .ref 69), (1, .int 1)]) rfl rfl rfl rfl f_X12_is (hI.wf.s rfl) rfl rfl rfl rfl rfl ?_
        refine ev_loc f_X12_is (nx := 1) rfl rfl rfl rfl ?_
        refine ev_loc f_X12_is (nx := 2) rfl rfl rfl rfl ?_
        refine ev_putIT f_X12_is (nx := 5) rfl (hI.wf.s rfl) rfl rfl rfl (hI.put0 (hI.wf.s rfl) rfl rfl) (hX.upI rfl) (fun g12 e12 hI hX => ?_)
        refine ev_loc f_X12_is (nx := 6) rfl rfl rfl rfl ?_
        refine ev_f f_X12_is (t1 := 9) (t2 := 13) rfl rfl rfl (by decide) ?_
        refine ev_ic f_X12_is (nx := 14) (v := 0) rfl (by decide) rfl ?_
        refine ev_retK1 f_X12_is rfl rfl rfl ?_
        exact ev_ret f_X12_pour rfl rfl rfl ⟨_, _, _, rfl, hI, hX, ⟨_, rfl, (by decide : (0:Int) ≤ (0:Int32).toInt), (Int.le_trans (by decide : (0:Int32).toInt ≤ (0:Int)) (by decide : (0:Int) ≤ 1)), (show (¬ ((0 ≤ ar1.toInt ∧ ar1.toInt ≤ 3) ∧ (0 ≤ ar3.toInt ∧ ar3.toInt ≤ 3) ∧ (0 ≤ ar2.toInt ∧ 0 ≤ ar4.toInt ∧ 0 ≤ ar5.toInt)) → (g12 69 2).toInt = 1) ∧ ((0 ≤ ar1.toInt ∧ ar1.toInt ≤ 3) → (0 ≤ ar3.toInt ∧ ar3.toInt ≤ 3) → (0 ≤ ar2.toInt ∧ 0 ≤ ar4.toInt ∧ 0 ≤ ar5.toInt) → ((gi 73 ar1.toNatClampNeg).toInt = -1 ∨ (gi 73 ar3.toNatClampNeg).toInt = -1 → (g12 69 2).toInt = 2) ∧ ((gi 73 ar1.toNatClampNeg).toInt ≠ -1 → (gi 73 ar3.toNatClampNeg).toInt ≠ -1 → ((gi 72 ar1.toNatClampNeg).toInt ≠ (gi 72 ar3.toNatClampNeg).toInt → (g12 69 2).toInt = 8) ∧ ((gi 72 ar1.toNatClampNeg).toInt = (gi 72 ar3.toNatClampNeg).toInt → ((ar2.toInt + ar5.toInt ≤ (gi 73 ar1.toNatClampNeg).toInt ∧ ar4.toInt + ar5.toInt ≤ (gi 73 ar3.toNatClampNeg).toInt) → (g12 69 2).toInt = 0) ∧ (¬ (ar2.toInt + ar5.toInt ≤ (gi 73 ar1.toNatClampNeg).toInt ∧ ar4.toInt + ar5.toInt ≤ (gi 73 ar3.toNatClampNeg).toInt) → (g12 69 2).toInt = 3)))) from (by have ffs : (g12 69 2).toInt = 1 := (congrArg Int32.toInt (by rw [e12]; exact x_up2_at _ _ _ _ : g12 69 2 = 1)).trans (by decide); refine ⟨fun h3 => by omega, fun hi1 hi3 hp => ?_⟩; refine ⟨fun h4 => ?_, fun h4 h5 => ⟨fun h6 => ?_, fun h6 => ⟨fun h7 => ?_, fun h7 => ?_⟩⟩⟩ <;> omega))⟩⟩
      · have l13 : 0 ≤ ar3.toInt := t_lel (t_nlt h10) (by decide : (0:Int) ≤ (0:Int32).toInt)
        refine ev_loc f_X12_isTray (nx := 5) rfl rfl rfl rfl ?_
        refine ev_ic f_X12_isTray (nx := 6) (v := 4) rfl (by decide) rfl ?_
        refine ev_if f_X12_isTray (t1 := 13) (t2 := 9) rfl rfl rfl (fun h14 => ?_) (fun h14 => ?_)
        · have l15 : 4 ≤ ar3.toInt := t_lel h14 (by decide : (4:Int) ≤ (4:Int32).toInt)
          refine ev_ic f_X12_isTray (nx := 14) (v := 0) rfl (by decide) rfl ?_
          refine ev_retK1 f_X12_isTray rfl rfl rfl ?_
          refine ev_t f_X12_pour (t1 := 28) (t2 := 14) rfl rfl rfl (by decide) ?_
          refine ev_loc f_X12_pour (nx := 29) rfl rfl rfl rfl ?_
          refine ev_ic f_X12_pour (nx := 30) (v := 1) rfl (by decide) rfl ?_
          refine ev_inV2 f_X12_pour (nx := 33) (lo2 := [(0, .ref 69), (1, .int 1)]) rfl rfl rfl rfl f_X12_is (hI.wf.s rfl) rfl rfl rfl rfl rfl ?_
          refine ev_loc f_X12_is (nx := 1) rfl rfl rfl rfl ?_
          refine ev_loc f_X12_is (nx := 2) rfl rfl rfl rfl ?_
          refine ev_putIT f_X12_is (nx := 5) rfl (hI.wf.s rfl) rfl rfl rfl (hI.put0 (hI.wf.s rfl) rfl rfl) (hX.upI rfl) (fun g16 e16 hI hX => ?_)
          refine ev_loc f_X12_is (nx := 6) rfl rfl rfl rfl ?_
          refine ev_f f_X12_is (t1 := 9) (t2 := 13) rfl rfl rfl (by decide) ?_
          refine ev_ic f_X12_is (nx := 14) (v := 0) rfl (by decide) rfl ?_
          refine ev_retK1 f_X12_is rfl rfl rfl ?_
          exact ev_ret f_X12_pour rfl rfl rfl ⟨_, _, _, rfl, hI, hX, ⟨_, rfl, (by decide : (0:Int) ≤ (0:Int32).toInt), (Int.le_trans (by decide : (0:Int32).toInt ≤ (0:Int)) (by decide : (0:Int) ≤ 1)), (show (¬ ((0 ≤ ar1.toInt ∧ ar1.toInt ≤ 3) ∧ (0 ≤ ar3.toInt ∧ ar3.toInt ≤ 3) ∧ (0 ≤ ar2.toInt ∧ 0 ≤ ar4.toInt ∧ 0 ≤ ar5.toInt)) → (g16 69 2).toInt = 1) ∧ ((0 ≤ ar1.toInt ∧ ar1.toInt ≤ 3) → (0 ≤ ar3.toInt ∧ ar3.toInt ≤ 3) → (0 ≤ ar2.toInt ∧ 0 ≤ ar4.toInt ∧ 0 ≤ ar5.toInt) → ((gi 73 ar1.toNatClampNeg).toInt = -1 ∨ (gi 73 ar3.toNatClampNeg).toInt = -1 → (g16 69 2).toInt = 2) ∧ ((gi 73 ar1.toNatClampNeg).toInt ≠ -1 → (gi 73 ar3.toNatClampNeg).toInt ≠ -1 → ((gi 72 ar1.toNatClampNeg).toInt ≠ (gi 72 ar3.toNatClampNeg).toInt → (g16 69 2).toInt = 8) ∧ ((gi 72 ar1.toNatClampNeg).toInt = (gi 72 ar3.toNatClampNeg).toInt → ((ar2.toInt + ar5.toInt ≤ (gi 73 ar1.toNatClampNeg).toInt ∧ ar4.toInt + ar5.toInt ≤ (gi 73 ar3.toNatClampNeg).toInt) → (g16 69 2).toInt = 0) ∧ (¬ (ar2.toInt + ar5.toInt ≤ (gi 73 ar1.toNatClampNeg).toInt ∧ ar4.toInt + ar5.toInt ≤ (gi 73 ar3.toNatClampNeg).toInt) → (g16 69 2).toInt = 3)))) from (by have ffs : (g16 69 2).toInt = 1 := (congrArg Int32.toInt (by rw [e16]; exact x_up2_at _ _ _ _ : g16 69 2 = 1)).trans (by decide); refine ⟨fun h3 => by omega, fun hi1 hi3 hp => ?_⟩; refine ⟨fun h4 => ?_, fun h4 h5 => ⟨fun h6 => ?_, fun h6 => ⟨fun h7 => ?_, fun h7 => ?_⟩⟩⟩ <;> omega))⟩⟩
        · have u17 : ar3.toInt ≤ 3 := t_ltu (t_nle h14) (by decide : (4:Int32).toInt ≤ (4:Int)) rfl
          refine ev_ic f_X12_isTray (nx := 10) (v := 1) rfl (by decide) rfl ?_
          refine ev_jmp f_X12_isTray (nx := 14) rfl rfl rfl ?_
          refine ev_retK1 f_X12_isTray rfl rfl rfl ?_
          refine ev_f f_X12_pour (t1 := 28) (t2 := 14) rfl rfl rfl (by decide) ?_
          refine ev_loc f_X12_pour (nx := 15) rfl rfl rfl rfl ?_
          refine ev_if f_X12_pour (t1 := 28) (t2 := 18) rfl rfl rfl (fun h18 => ?_) (fun h18 => ?_)
          · have u19 : ar2.toInt ≤ (-1) := t_ltu h18 (by decide : (0:Int32).toInt ≤ (0:Int)) rfl
            refine ev_loc f_X12_pour (nx := 29) rfl rfl rfl rfl ?_
            refine ev_ic f_X12_pour (nx := 30) (v := 1) rfl (by decide) rfl ?_
            refine ev_inV2 f_X12_pour (nx := 33) (lo2 := [(0, .ref 69), (1, .int 1)]) rfl rfl rfl rfl f_X12_is (hI.wf.s rfl) rfl rfl rfl rfl rfl ?_
            refine ev_loc f_X12_is (nx := 1) rfl rfl rfl rfl ?_
            refine ev_loc f_X12_is (nx := 2) rfl rfl rfl rfl ?_
            refine ev_putIT f_X12_is (nx := 5) rfl (hI.wf.s rfl) rfl rfl rfl (hI.put0 (hI.wf.s rfl) rfl rfl) (hX.upI rfl) (fun g20 e20 hI hX => ?_)
            refine ev_loc f_X12_is (nx := 6) rfl rfl rfl rfl ?_
            refine ev_f f_X12_is (t1 := 9) (t2 := 13) rfl rfl rfl (by decide) ?_
            refine ev_ic f_X12_is (nx := 14) (v := 0) rfl (by decide) rfl ?_
            refine ev_retK1 f_X12_is rfl rfl rfl ?_
            exact ev_ret f_X12_pour rfl rfl rfl ⟨_, _, _, rfl, hI, hX, ⟨_, rfl, (by decide : (0:Int) ≤ (0:Int32).toInt), (Int.le_trans (by decide : (0:Int32).toInt ≤ (0:Int)) (by decide : (0:Int) ≤ 1)), (show (¬ ((0 ≤ ar1.toInt ∧ ar1.toInt ≤ 3) ∧ (0 ≤ ar3.toInt ∧ ar3.toInt ≤ 3) ∧ (0 ≤ ar2.toInt ∧ 0 ≤ ar4.toInt ∧ 0 ≤ ar5.toInt)) → (g20 69 2).toInt = 1) ∧ ((0 ≤ ar1.toInt ∧ ar1.toInt ≤ 3) → (0 ≤ ar3.toInt ∧ ar3.toInt ≤ 3) → (0 ≤ ar2.toInt ∧ 0 ≤ ar4.toInt ∧ 0 ≤ ar5.toInt) → ((gi 73 ar1.toNatClampNeg).toInt = -1 ∨ (gi 73 ar3.toNatClampNeg).toInt = -1 → (g20 69 2).toInt = 2) ∧ ((gi 73 ar1.toNatClampNeg).toInt ≠ -1 → (gi 73 ar3.toNatClampNeg).toInt ≠ -1 → ((gi 72 ar1.toNatClampNeg).toInt ≠ (gi 72 ar3.toNatClampNeg).toInt → (g20 69 2).toInt = 8) ∧ ((gi 72 ar1.toNatClampNeg).toInt = (gi 72 ar3.toNatClampNeg).toInt → ((ar2.toInt + ar5.toInt ≤ (gi 73 ar1.toNatClampNeg).toInt ∧ ar4.toInt + ar5.toInt ≤ (gi 73 ar3.toNatClampNeg).toInt) → (g20 69 2).toInt = 0) ∧ (¬ (ar2.toInt + ar5.toInt ≤ (gi 73 ar1.toNatClampNeg).toInt ∧ ar4.toInt + ar5.toInt ≤ (gi 73 ar3.toNatClampNeg).toInt) → (g20 69 2).toInt = 3)))) from (by have ffs : (g20 69 2).toInt = 1 := (congrArg Int32.toInt (by rw [e20]; exact x_up2_at _ _ _ _ : g20 69 2 = 1)).trans (by decide); refine ⟨fun h3 => by omega, fun hi1 hi3 hp => ?_⟩; refine ⟨fun h4 => ?_, fun h4 h5 => ⟨fun h6 => ?_, fun h6 => ⟨fun h7 => ?_, fun h7 => ?_⟩⟩⟩ <;> omega))⟩⟩
          · have l21 : 0 ≤ ar2.toInt := t_lel (t_nlt h18) (by decide : (0:Int) ≤ (0:Int32).toInt)
            refine ev_loc f_X12_pour (nx := 20) rfl rfl rfl rfl ?_
            refine ev_if f_X12_pour (t1 := 28) (t2 := 23) rfl rfl rfl (fun h22 => ?_) (fun h22 => ?_)
            · have u23 : ar4.toInt ≤ (-1) := t_ltu h22 (by decide : (0:Int32).toInt ≤ (0:Int)) rfl
              refine ev_loc f_X12_pour (nx := 29) rfl rfl rfl rfl ?_
              refine ev_ic f_X12_pour (nx := 30) (v := 1) rfl (by decide) rfl ?_
              refine ev_inV2 f_X12_pour (nx := 33) (lo2 := [(0, .ref 69), (1, .int 1)]) rfl rfl rfl rfl f_X12_is (hI.wf.s rfl) rfl rfl rfl rfl rfl ?_
              refine ev_loc f_X12_is (nx := 1) rfl rfl rfl rfl ?_
              refine ev_loc f_X12_is (nx := 2) rfl rfl rfl rfl ?_
              refine ev_putIT f_X12_is (nx := 5) rfl (hI.wf.s rfl) rfl rfl rfl (hI.put0 (hI.wf.s rfl) rfl rfl) (hX.upI rfl) (fun g24 e24 hI hX => ?_)
              refine ev_loc f_X12_is (nx := 6) rfl rfl rfl rfl ?_
              refine ev_f f_X12_is (t1 := 9) (t2 := 13) rfl rfl rfl (by decide) ?_
              refine ev_ic f_X12_is (nx := 14) (v := 0) rfl (by decide) rfl ?_
              refine ev_retK1 f_X12_is rfl rfl rfl ?_
              exact ev_ret f_X12_pour rfl rfl rfl ⟨_, _, _, rfl, hI, hX, ⟨_, rfl, (by decide : (0:Int) ≤ (0:Int32).toInt), (Int.le_trans (by decide : (0:Int32).toInt ≤ (0:Int)) (by decide : (0:Int) ≤ 1)), (show (¬ ((0 ≤ ar1.toInt ∧ ar1.toInt ≤ 3) ∧ (0 ≤ ar3.toInt ∧ ar3.toInt ≤ 3) ∧ (0 ≤ ar2.toInt ∧ 0 ≤ ar4.toInt ∧ 0 ≤ ar5.toInt)) → (g24 69 2).toInt = 1) ∧ ((0 ≤ ar1.toInt ∧ ar1.toInt ≤ 3) → (0 ≤ ar3.toInt ∧ ar3.toInt ≤ 3) → (0 ≤ ar2.toInt ∧ 0 ≤ ar4.toInt ∧ 0 ≤ ar5.toInt) → ((gi 73 ar1.toNatClampNeg).toInt = -1 ∨ (gi 73 ar3.toNatClampNeg).toInt = -1 → (g24 69 2).toInt = 2) ∧ ((gi 73 ar1.toNatClampNeg).toInt ≠ -1 → (gi 73 ar3.toNatClampNeg).toInt ≠ -1 → ((gi 72 ar1.toNatClampNeg).toInt ≠ (gi 72 ar3.toNatClampNeg).toInt → (g24 69 2).toInt = 8) ∧ ((gi 72 ar1.toNatClampNeg).toInt = (gi 72 ar3.toNatClampNeg).toInt → ((ar2.toInt + ar5.toInt ≤ (gi 73 ar1.toNatClampNeg).toInt ∧ ar4.toInt + ar5.toInt ≤ (gi 73 ar3.toNatClampNeg).toInt) → (g24 69 2).toInt = 0) ∧ (¬ (ar2.toInt + ar5.toInt ≤ (gi 73 ar1.toNatClampNeg).toInt ∧ ar4.toInt + ar5.toInt ≤ (gi 73 ar3.toNatClampNeg).toInt) → (g24 69 2).toInt = 3)))) from (by have ffs : (g24 69 2).toInt = 1 := (congrArg Int32.toInt (by rw [e24]; exact x_up2_at _ _ _ _ : g24 69 2 = 1)).trans (by decide); refine ⟨fun h3 => by omega, fun hi1 hi3 hp => ?_⟩; refine ⟨fun h4 => ?_, fun h4 h5 => ⟨fun h6 => ?_, fun h6 => ⟨fun h7 => ?_, fun h7 => ?_⟩⟩⟩ <;> omega))⟩⟩
            · have l25 : 0 ≤ ar4.toInt := t_lel (t_nlt h22) (by decide : (0:Int) ≤ (0:Int32).toInt)
              refine ev_loc f_X12_pour (nx := 25) rfl rfl rfl rfl ?_
              refine ev_if f_X12_pour (t1 := 34) (t2 := 28) rfl rfl rfl (fun h26 => ?_) (fun h26 => ?_)
              · have l27 : 0 ≤ ar5.toInt := t_lel h26 (by decide : (0:Int) ≤ (0:Int32).toInt)
                refine ev_loc f_X12_pour (nx := 35) rfl rfl rfl rfl ?_
                refine ev_getR f_X12_pour (nx := 38) rfl (hI.wf.s rfl) rfl rfl (hI.wf.r rfl) rfl rfl ?_
                refine ev_loc f_X12_pour (nx := 39) rfl rfl rfl rfl ?_
                refine ev_ialdT f_X12_pour (nx := 40) rfl (hI.wf.s rfl) l5 (by decide) u9 (by decide) rfl (fun w28 e28 => ?_)
                obtain ⟨l28, u28⟩ := hI.abi e28 (by decide +kernel : t_abr 73 0 3 (-1) 60 = true) l5 (by decide) u9 (by decide)
                refine ev_ic f_X12_pour (nx := 41) (v := -1) rfl (by decide) rfl ?_
                refine ev_if f_X12_pour (t1 := 54) (t2 := 44) rfl rfl rfl (fun h29 => ?_) (fun h29 => ?_)
                · have u30 : w28.toInt ≤ (-1) := t_equ h29 (by decide : ((-1):Int32).toInt ≤ ((-1):Int))
                  refine ev_loc f_X12_pour (nx := 55) rfl rfl rfl rfl ?_
                  refine ev_ic f_X12_pour (nx := 56) (v := 2) rfl (by decide) rfl ?_
                  refine ev_inV2 f_X12_pour (nx := 59) (lo2 := [(0, .ref 69), (1, .int 2)]) rfl rfl rfl rfl f_X12_is (hI.wf.s rfl) rfl rfl rfl rfl rfl ?_
                  refine ev_loc f_X12_is (nx := 1) rfl rfl rfl rfl ?_
                  refine ev_loc f_X12_is (nx := 2) rfl rfl rfl rfl ?_
                  refine ev_putIT f_X12_is (nx := 5) rfl (hI.wf.s rfl) rfl rfl rfl (hI.put0 (hI.wf.s rfl) rfl rfl) (hX.upI rfl) (fun g31 e31 hI hX => ?_)
                  refine ev_loc f_X12_is (nx := 6) rfl rfl rfl rfl ?_
                  refine ev_f f_X12_is (t1 := 9) (t2 := 13) rfl rfl rfl (by decide) ?_
                  refine ev_ic f_X12_is (nx := 14) (v := 0) rfl (by decide) rfl ?_
                  refine ev_retK1 f_X12_is rfl rfl rfl ?_
                  exact ev_ret f_X12_pour rfl rfl rfl ⟨_, _, _, rfl, hI, hX, ⟨_, rfl, (by decide : (0:Int) ≤ (0:Int32).toInt), (Int.le_trans (by decide : (0:Int32).toInt ≤ (0:Int)) (by decide : (0:Int) ≤ 1)), (show (¬ ((0 ≤ ar1.toInt ∧ ar1.toInt ≤ 3) ∧ (0 ≤ ar3.toInt ∧ ar3.toInt ≤ 3) ∧ (0 ≤ ar2.toInt ∧ 0 ≤ ar4.toInt ∧ 0 ≤ ar5.toInt)) → (g31 69 2).toInt = 1) ∧ ((0 ≤ ar1.toInt ∧ ar1.toInt ≤ 3) → (0 ≤ ar3.toInt ∧ ar3.toInt ≤ 3) → (0 ≤ ar2.toInt ∧ 0 ≤ ar4.toInt ∧ 0 ≤ ar5.toInt) → ((gi 73 ar1.toNatClampNeg).toInt = -1 ∨ (gi 73 ar3.toNatClampNeg).toInt = -1 → (g31 69 2).toInt = 2) ∧ ((gi 73 ar1.toNatClampNeg).toInt ≠ -1 → (gi 73 ar3.toNatClampNeg).toInt ≠ -1 → ((gi 72 ar1.toNatClampNeg).toInt ≠ (gi 72 ar3.toNatClampNeg).toInt → (g31 69 2).toInt = 8) ∧ ((gi 72 ar1.toNatClampNeg).toInt = (gi 72 ar3.toNatClampNeg).toInt → ((ar2.toInt + ar5.toInt ≤ (gi 73 ar1.toNatClampNeg).toInt ∧ ar4.toInt + ar5.toInt ≤ (gi 73 ar3.toNatClampNeg).toInt) → (g31 69 2).toInt = 0) ∧ (¬ (ar2.toInt + ar5.toInt ≤ (gi 73 ar1.toNatClampNeg).toInt ∧ ar4.toInt + ar5.toInt ≤ (gi 73 ar3.toNatClampNeg).toInt) → (g31 69 2).toInt = 3)))) from (by have ffs : (g31 69 2).toInt = 2 := (congrArg Int32.toInt (by rw [e31]; exact x_up2_at _ _ _ _ : g31 69 2 = 2)).trans (by decide); have hfw28 : (gi 73 ar1.toNatClampNeg).toInt = w28.toInt := congrArg Int32.toInt e28.symm; refine ⟨fun h3 => by omega, fun hi1 hi3 hp => ?_⟩; refine ⟨fun h4 => ?_, fun h4 h5 => ⟨fun h6 => ?_, fun h6 => ⟨fun h7 => ?_, fun h7 => ?_⟩⟩⟩ <;> omega))⟩⟩
                · have r32 : w28.toInt ≠ (-1) := fun e => h29 (Int32.toInt_inj.mp (e.trans (by decide : ((-1):Int) = ((-1) : Int32).toInt)))
                  have l33 : 0 ≤ w28.toInt := t_nel h29 l28 rfl rfl
                  refine ev_loc f_X12_pour (nx := 45) rfl rfl rfl rfl ?_
                  refine ev_getR f_X12_pour (nx := 48) rfl (hI.wf.s rfl) rfl rfl (hI.wf.r rfl) rfl rfl ?_
                  refine ev_loc f_X12_pour (nx := 49) rfl rfl rfl rfl ?_
                  refine ev_ialdT f_X12_pour (nx := 50) rfl (hI.wf.s rfl) l13 (by decide) u17 (by decide) rfl (fun w34 e34 => ?_)
                  obtain ⟨l34, u34⟩ := hI.abi e34 (by decide +kernel : t_abr 73 0 3 (-1) 60 = true) l13 (by decide) u17 (by decide)
                  refine ev_ic f_X12_pour (nx := 51) (v := -1) rfl (by decide) rfl ?_
                  refine ev_if f_X12_pour (t1 := 54) (t2 := 60) rfl rfl rfl (fun h35 => ?_) (fun h35 => ?_)
                  · have u36 : w34.toInt ≤ (-1) := t_equ h35 (by decide : ((-1):Int32).toInt ≤ ((-1):Int))
                    refine ev_loc f_X12_pour (nx := 55) rfl rfl rfl rfl ?_
                    refine ev_ic f_X12_pour (nx := 56) (v := 2) rfl (by decide) rfl ?_
                    refine ev_inV2 f_X12_pour (nx := 59) (lo2 := [(0, .ref 69), (1, .int 2)]) rfl rfl rfl rfl f_X12_is (hI.wf.s rfl) rfl rfl rfl rfl rfl ?_
                    refine ev_loc f_X12_is (nx := 1) rfl rfl rfl rfl ?_
                    refine ev_loc f_X12_is (nx := 2) rfl rfl rfl rfl ?_
                    refine ev_putIT f_X12_is (nx := 5) rfl (hI.wf.s rfl) rfl rfl rfl (hI.put0 (hI.wf.s rfl) rfl rfl) (hX.upI rfl) (fun g37 e37 hI hX => ?_)
                    refine ev_loc f_X12_is (nx := 6) rfl rfl rfl rfl ?_
                    refine ev_f f_X12_is (t1 := 9) (t2 := 13) rfl rfl rfl (by decide) ?_
                    refine ev_ic f_X12_is (nx := 14) (v := 0) rfl (by decide) rfl ?_
                    refine ev_retK1 f_X12_is rfl rfl rfl ?_
                    exact ev_ret f_X12_pour rfl rfl rfl ⟨_, _, _, rfl, hI, hX, ⟨_, rfl, (by decide : (0:Int) ≤ (0:Int32).toInt), (Int.le_trans (by decide : (0:Int32).toInt ≤ (0:Int)) (by decide : (0:Int) ≤ 1)), (show (¬ ((0 ≤ ar1.toInt ∧ ar1.toInt ≤ 3) ∧ (0 ≤ ar3.toInt ∧ ar3.toInt ≤ 3) ∧ (0 ≤ ar2.toInt ∧ 0 ≤ ar4.toInt ∧ 0 ≤ ar5.toInt)) → (g37 69 2).toInt = 1) ∧ ((0 ≤ ar1.toInt ∧ ar1.toInt ≤ 3) → (0 ≤ ar3.toInt ∧ ar3.toInt ≤ 3) → (0 ≤ ar2.toInt ∧ 0 ≤ ar4.toInt ∧ 0 ≤ ar5.toInt) → ((gi 73 ar1.toNatClampNeg).toInt = -1 ∨ (gi 73 ar3.toNatClampNeg).toInt = -1 → (g37 69 2).toInt = 2) ∧ ((gi 73 ar1.toNatClampNeg).toInt ≠ -1 → (gi 73 ar3.toNatClampNeg).toInt ≠ -1 → ((gi 72 ar1.toNatClampNeg).toInt ≠ (gi 72 ar3.toNatClampNeg).toInt → (g37 69 2).toInt = 8) ∧ ((gi 72 ar1.toNatClampNeg).toInt = (gi 72 ar3.toNatClampNeg).toInt → ((ar2.toInt + ar5.toInt ≤ (gi 73 ar1.toNatClampNeg).toInt ∧ ar4.toInt + ar5.toInt ≤ (gi 73 ar3.toNatClampNeg).toInt) → (g37 69 2).toInt = 0) ∧ (¬ (ar2.toInt + ar5.toInt ≤ (gi 73 ar1.toNatClampNeg).toInt ∧ ar4.toInt + ar5.toInt ≤ (gi 73 ar3.toNatClampNeg).toInt) → (g37 69 2).toInt = 3)))) from (by have ffs : (g37 69 2).toInt = 2 := (congrArg Int32.toInt (by rw [e37]; exact x_up2_at _ _ _ _ : g37 69 2 = 2)).trans (by decide); have hfw28 : (gi 73 ar1.toNatClampNeg).toInt = w28.toInt := congrArg Int32.toInt e28.symm; have hfw34 : (gi 73 ar3.toNatClampNeg).toInt = w34.toInt := congrArg Int32.toInt e34.symm; refine ⟨fun h3 => by omega, fun hi1 hi3 hp => ?_⟩; refine ⟨fun h4 => ?_, fun h4 h5 => ⟨fun h6 => ?_, fun h6 => ⟨fun h7 => ?_, fun h7 => ?_⟩⟩⟩ <;> omega))⟩⟩
                  · have r38 : w34.toInt ≠ (-1) := fun e => h35 (Int32.toInt_inj.mp (e.trans (by decide : ((-1):Int) = ((-1) : Int32).toInt)))
                    have l39 : 0 ≤ w34.toInt := t_nel h35 l34 rfl rfl
                    refine ev_loc f_X12_pour (nx := 61) rfl rfl rfl rfl ?_
                    refine ev_getR f_X12_pour (nx := 64) rfl (hI.wf.s rfl) rfl rfl (hI.wf.r rfl) rfl rfl ?_
                    refine ev_loc f_X12_pour (nx := 65) rfl rfl rfl rfl ?_
                    refine ev_ialdT f_X12_pour (nx := 66) rfl (hI.wf.s rfl) l5 (by decide) u9 (by decide) rfl (fun w40 e40 => ?_)
                    obtain ⟨l40, u40⟩ := hI.abi e40 (by decide +kernel : t_abr 72 0 3 0 3 = true) l5 (by decide) u9 (by decide)
                    refine ev_loc f_X12_pour (nx := 67) rfl rfl rfl rfl ?_
                    refine ev_getR f_X12_pour (nx := 70) rfl (hI.wf.s rfl) rfl rfl (hI.wf.r rfl) rfl rfl ?_
                    refine ev_loc f_X12_pour (nx := 71) rfl rfl rfl rfl ?_
                    refine ev_ialdT f_X12_pour (nx := 72) rfl (hI.wf.s rfl) l13 (by decide) u17 (by decide) rfl (fun w41 e41 => ?_)
                    obtain ⟨l41, u41⟩ := hI.abi e41 (by decide +kernel : t_abr 72 0 3 0 3 = true) l13 (by decide) u17 (by decide)
                    refine ev_if f_X12_pour (t1 := 82) (t2 := 75) rfl rfl rfl (fun h42 => ?_) (fun h42 => ?_)
                    · have r43 : w40.toInt = w41.toInt := t_eqi h42
                      refine ev_loc f_X12_pour (nx := 84) rfl rfl rfl rfl ?_
                      refine ev_loc f_X12_pour (nx := 85) rfl rfl rfl rfl ?_
                      refine ev_getR f_X12_pour (nx := 88) rfl (hI.wf.s rfl) rfl rfl (hI.wf.r rfl) rfl rfl ?_
                      refine ev_loc f_X12_pour (nx := 89) rfl rfl rfl rfl ?_
                      refine ev_ialdT f_X12_pour (nx := 90) rfl (hI.wf.s rfl) l5 (by decide) u9 (by decide) rfl (fun w44 e44 => ?_)
                      rw [e44.trans e28.symm]
                      refine ev_loc f_X12_pour (nx := 91) rfl rfl rfl rfl ?_
                      refine ev_subR f_X12_pour (nx := 92) (l := (-2147483647)) (u := 60) rfl l33 u28 l21 (t_hi ar2) rfl rfl (by decide) (by decide) rfl (fun z45 e45 l45 u45 => ?_)
                      refine ev_if f_X12_pour (t1 := 109) (t2 := 95) rfl rfl rfl (fun h46 => ?_) (fun h46 => ?_)
                      · have r47 : z45.toInt < ar5.toInt := Int32.lt_iff_toInt_lt.mp h46
                        refine ev_loc f_X12_pour (nx := 110) rfl rfl rfl rfl ?_
                        refine ev_ic f_X12_pour (nx := 111) (v := 3) rfl (by decide) rfl ?_
                        refine ev_inV2 f_X12_pour (nx := 114) (lo2 := [(0, .ref 69), (1, .int 3)]) rfl rfl rfl rfl f_X12_is (hI.wf.s rfl) rfl rfl rfl rfl rfl ?_
                        refine ev_loc f_X12_is (nx := 1) rfl rfl rfl rfl ?_
                        refine ev_loc f_X12_is (nx := 2) rfl rfl rfl rfl ?_
                        refine ev_putIT f_X12_is (nx := 5) rfl (hI.wf.s rfl) rfl rfl rfl (hI.put0 (hI.wf.s rfl) rfl rfl) (hX.upI rfl) (fun g48 e48 hI hX => ?_)
                        refine ev_loc f_X12_is (nx := 6) rfl rfl rfl rfl ?_
                        refine ev_f f_X12_is (t1 := 9) (t2 := 13) rfl rfl rfl (by decide) ?_
                        refine ev_ic f_X12_is (nx := 14) (v := 0) rfl (by decide) rfl ?_
                        refine ev_retK1 f_X12_is rfl rfl rfl ?_
                        exact ev_ret f_X12_pour rfl rfl rfl ⟨_, _, _, rfl, hI, hX, ⟨_, rfl, (by decide : (0:Int) ≤ (0:Int32).toInt), (Int.le_trans (by decide : (0:Int32).toInt ≤ (0:Int)) (by decide : (0:Int) ≤ 1)), (show (¬ ((0 ≤ ar1.toInt ∧ ar1.toInt ≤ 3) ∧ (0 ≤ ar3.toInt ∧ ar3.toInt ≤ 3) ∧ (0 ≤ ar2.toInt ∧ 0 ≤ ar4.toInt ∧ 0 ≤ ar5.toInt)) → (g48 69 2).toInt = 1) ∧ ((0 ≤ ar1.toInt ∧ ar1.toInt ≤ 3) → (0 ≤ ar3.toInt ∧ ar3.toInt ≤ 3) → (0 ≤ ar2.toInt ∧ 0 ≤ ar4.toInt ∧ 0 ≤ ar5.toInt) → ((gi 73 ar1.toNatClampNeg).toInt = -1 ∨ (gi 73 ar3.toNatClampNeg).toInt = -1 → (g48 69 2).toInt = 2) ∧ ((gi 73 ar1.toNatClampNeg).toInt ≠ -1 → (gi 73 ar3.toNatClampNeg).toInt ≠ -1 → ((gi 72 ar1.toNatClampNeg).toInt ≠ (gi 72 ar3.toNatClampNeg).toInt → (g48 69 2).toInt = 8) ∧ ((gi 72 ar1.toNatClampNeg).toInt = (gi 72 ar3.toNatClampNeg).toInt → ((ar2.toInt + ar5.toInt ≤ (gi 73 ar1.toNatClampNeg).toInt ∧ ar4.toInt + ar5.toInt ≤ (gi 73 ar3.toNatClampNeg).toInt) → (g48 69 2).toInt = 0) ∧ (¬ (ar2.toInt + ar5.toInt ≤ (gi 73 ar1.toNatClampNeg).toInt ∧ ar4.toInt + ar5.toInt ≤ (gi 73 ar3.toNatClampNeg).toInt) → (g48 69 2).toInt = 3)))) from (by have ffs : (g48 69 2).toInt = 3 := (congrArg Int32.toInt (by rw [e48]; exact x_up2_at _ _ _ _ : g48 69 2 = 3)).trans (by decide); have hfw28 : (gi 73 ar1.toNatClampNeg).toInt = w28.toInt := congrArg Int32.toInt e28.symm; have hfw34 : (gi 73 ar3.toNatClampNeg).toInt = w34.toInt := congrArg Int32.toInt e34.symm; have hfw40 : (gi 72 ar1.toNatClampNeg).toInt = w40.toInt := congrArg Int32.toInt e40.symm; have hfw41 : (gi 72 ar3.toNatClampNeg).toInt = w41.toInt := congrArg Int32.toInt e41.symm; refine ⟨fun h3 => by omega, fun hi1 hi3 hp => ?_⟩; refine ⟨fun h4 => ?_, fun h4 h5 => ⟨fun h6 => ?_, fun h6 => ⟨fun h7 => ?_, fun h7 => ?_⟩⟩⟩ <;> omega))⟩⟩
                      · have r49 : ar5.toInt ≤ z45.toInt := Int32.le_iff_toInt_le.mp (t_nlt h46)
                        have u50 : ar5.toInt ≤ 60 := t_leu (t_nlt h46) u45
                        have l51 : 0 ≤ z45.toInt := t_lel (t_nlt h46) l27
                        have u52 : ar2.toInt ≤ 60 := by have := u28; omega
                        refine ev_loc f_X12_pour (nx := 97) rfl rfl rfl rfl ?_
                        refine ev_loc f_X12_pour (nx := 98) rfl rfl rfl rfl ?_
                        refine ev_getR f_X12_pour (nx := 101) rfl (hI.wf.s rfl) rfl rfl (hI.wf.r rfl) rfl rfl ?_
                        refine ev_loc f_X12_pour (nx := 102) rfl rfl rfl rfl ?_
                        refine ev_ialdT f_X12_pour (nx := 103) rfl (hI.wf.s rfl) l13 (by decide) u17 (by decide) rfl (fun w53 e53 => ?_)
                        rw [e53.trans e34.symm]
                        refine ev_loc f_X12_pour (nx := 105) rfl rfl rfl rfl ?_
                        refine ev_subR f_X12_pour (nx := 106) (l := (-2147483647)) (u := 60) rfl l39 u34 l25 (t_hi ar4) rfl rfl (by decide) (by decide) rfl (fun z54 e54 l54 u54 => ?_)
                        refine ev_if f_X12_pour (t1 := 115) (t2 := 109) rfl rfl rfl (fun h55 => ?_) (fun h55 => ?_)
                        · have r56 : ar5.toInt ≤ z54.toInt := Int32.le_iff_toInt_le.mp h55
                          have l57 : 0 ≤ z54.toInt := t_lel h55 l27
                          have u58 : ar4.toInt ≤ 60 := by have := u34; omega
                          refine ev_ic f_X12_pour (nx := 116) (v := 0) rfl (by decide) rfl ?_
                          refine ev_loc f_X12_pour (nx := 118) (lo' := [(6, .int 0), (0, .ref 69), (1, .int ar1), (2, .int ar2), (3, .int ar3), (4, .int ar4), (5, .int ar5)]) rfl rfl rfl rfl ?_
                          have L59 : ∀ (m59 : Nat) (gi59 : Nat → Nat → Int32) (gl59 : Nat → Nat → Int64) (gr59 : Nat → Nat → Value) (y59_6 : Int32), t_I sh gi59 gr59 → t_X wl_g_pour sh gi gl gr gi59 gl59 gr59 → 0 ≤ y59_6.toInt → y59_6.toInt ≤ 60 → gi59 69 2 = (gi 69 2) → gi59 72 ar1.toNatClampNeg = w40 → gi59 72 ar3.toNatClampNeg = w41 → gi59 73 ar1.toNatClampNeg = w28 → gi59 73 ar3.toNatClampNeg = w34 → (60 - y59_6.toInt).toNat = m59 → x_Ev X (d + 2) n_X12_pour 118 [(6, .int y59_6), (0, .ref 69), (1, .int ar1), (2, .int ar2), (3, .int ar3), (4, .int ar4), (5, .int ar5)] [] (sh, gi59, gl59, gr59) (t_PI wl_g_pour sh gi gl gr 0 1 (Q_g_pour gi gl gr ar1 ar2 ar3 ar4 ar5)) := by
                            intro m59
                            induction m59 using Nat.strongRecOn with
                            | _ m59 ih59 =>
                            intro gi59 gl59 gr59 y59_6 hI hX l59_6 u59_6 c59_0 c59_1 c59_2 c59_3 c59_4 hm59
                            refine ev_loc f_X12_pour (nx := 120) rfl rfl rfl rfl ?_
                            refine ev_loc f_X12_pour (nx := 122) rfl rfl rfl rfl ?_
                            refine ev_if f_X12_pour (t1 := 180) (t2 := 125) rfl rfl rfl (fun h60 => ?_) (fun h60 => ?_)
                            · have r61 : ar5.toInt ≤ y59_6.toInt := Int32.le_iff_toInt_le.mp h60
                              refine ev_loc f_X12_pour (nx := 181) rfl rfl rfl rfl ?_
                              refine ev_ic f_X12_pour (nx := 182) (v := 0) rfl (by decide) rfl ?_
                              refine ev_inV2 f_X12_pour (nx := 185) (lo2 := [(0, .ref 69), (1, .int 0)]) rfl rfl rfl rfl f_X12_is (hI.wf.s rfl) rfl rfl rfl rfl rfl ?_
                              refine ev_loc f_X12_is (nx := 1) rfl rfl rfl rfl ?_
                              refine ev_loc f_X12_is (nx := 2) rfl rfl rfl rfl ?_
                              refine ev_putIT f_X12_is (nx := 5) rfl (hI.wf.s rfl) rfl rfl rfl (hI.put0 (hI.wf.s rfl) rfl rfl) (hX.upI rfl) (fun g62 e62 hI hX => ?_)
                              refine ev_loc f_X12_is (nx := 6) rfl rfl rfl rfl ?_
                              refine ev_t f_X12_is (t1 := 9) (t2 := 13) rfl rfl rfl (by decide) ?_
                              refine ev_ic f_X12_is (nx := 10) (v := 1) rfl (by decide) rfl ?_
                              refine ev_jmp f_X12_is (nx := 14) rfl rfl rfl ?_
                              refine ev_retK1 f_X12_is rfl rfl rfl ?_
                              exact ev_ret f_X12_pour rfl rfl rfl ⟨_, _, _, rfl, hI, hX, ⟨_, rfl, (Int.le_trans (by decide : (0:Int) ≤ 1) (by decide : (1:Int) ≤ (1:Int32).toInt)), (by decide : (1:Int32).toInt ≤ (1:Int)), (show (¬ ((0 ≤ ar1.toInt ∧ ar1.toInt ≤ 3) ∧ (0 ≤ ar3.toInt ∧ ar3.toInt ≤ 3) ∧ (0 ≤ ar2.toInt ∧ 0 ≤ ar4.toInt ∧ 0 ≤ ar5.toInt)) → (g62 69 2).toInt = 1) ∧ ((0 ≤ ar1.toInt ∧ ar1.toInt ≤ 3) → (0 ≤ ar3.toInt ∧ ar3.toInt ≤ 3) → (0 ≤ ar2.toInt ∧ 0 ≤ ar4.toInt ∧ 0 ≤ ar5.toInt) → ((gi 73 ar1.toNatClampNeg).toInt = -1 ∨ (gi 73 ar3.toNatClampNeg).toInt = -1 → (g62 69 2).toInt = 2) ∧ ((gi 73 ar1.toNatClampNeg).toInt ≠ -1 → (gi 73 ar3.toNatClampNeg).toInt ≠ -1 → ((gi 72 ar1.toNatClampNeg).toInt ≠ (gi 72 ar3.toNatClampNeg).toInt → (g62 69 2).toInt = 8) ∧ ((gi 72 ar1.toNatClampNeg).toInt = (gi 72 ar3.toNatClampNeg).toInt → ((ar2.toInt + ar5.toInt ≤ (gi 73 ar1.toNatClampNeg).toInt ∧ ar4.toInt + ar5.toInt ≤ (gi 73 ar3.toNatClampNeg).toInt) → (g62 69 2).toInt = 0) ∧ (¬ (ar2.toInt + ar5.toInt ≤ (gi 73 ar1.toNatClampNeg).toInt ∧ ar4.toInt + ar5.toInt ≤ (gi 73 ar3.toNatClampNeg).toInt) → (g62 69 2).toInt = 3)))) from (by have ffs : (g62 69 2).toInt = 0 := (congrArg Int32.toInt (by rw [e62]; exact x_up2_at _ _ _ _ : g62 69 2 = 0)).trans (by decide); have hfw28 : (gi 73 ar1.toNatClampNeg).toInt = w28.toInt := congrArg Int32.toInt e28.symm; have hfw34 : (gi 73 ar3.toNatClampNeg).toInt = w34.toInt := congrArg Int32.toInt e34.symm; have hfw40 : (gi 72 ar1.toNatClampNeg).toInt = w40.toInt := congrArg Int32.toInt e40.symm; have hfw41 : (gi 72 ar3.toNatClampNeg).toInt = w41.toInt := congrArg Int32.toInt e41.symm; refine ⟨fun h3 => by omega, fun hi1 hi3 hp => ?_⟩; refine ⟨fun h4 => ?_, fun h4 h5 => ⟨fun h6 => ?_, fun h6 => ⟨fun h7 => ?_, fun h7 => ?_⟩⟩⟩ <;> omega))⟩⟩
                            · have r63 : y59_6.toInt < ar5.toInt := Int32.lt_iff_toInt_lt.mp (t_nle h60)
                              have u64 : y59_6.toInt ≤ 59 := t_ltu (t_nle h60) u50 rfl
                              have l65 : 1 ≤ ar5.toInt := t_ltl (t_nle h60) l59_6 rfl
                              refine ev_loc f_X12_pour (nx := 126) rfl rfl rfl rfl ?_
                              refine ev_loc f_X12_pour (nx := 128) rfl rfl rfl rfl ?_
                              refine ev_if f_X12_pour (t1 := 141) (t2 := 131) rfl rfl rfl (fun h66 => ?_) (fun h66 => ?_)
                              · have r67 : ar4.toInt ≤ ar2.toInt := Int32.le_iff_toInt_le.mp h66
                                refine ev_loc f_X12_pour (nx := 143) rfl rfl rfl rfl ?_
                                refine ev_loc f_X12_pour (nx := 145) (lo' := [(7, .int y59_6), (6, .int y59_6), (0, .ref 69), (1, .int ar1), (2, .int ar2), (3, .int ar3), (4, .int ar4), (5, .int ar5)]) rfl rfl rfl rfl ?_
                                refine ev_loc f_X12_pour (nx := 146) rfl rfl rfl rfl ?_
                                refine ev_getR f_X12_pour (nx := 149) rfl (hI.wf.s rfl) rfl rfl (hI.wf.r rfl) rfl rfl ?_
                                refine ev_bp f_X12_pour (nx := 151) (v := 60) rfl (by decide) rfl ?_
                                refine ev_loc f_X12_pour (nx := 152) rfl rfl rfl rfl ?_
                                refine ev_mulL f_X12_pour (nx := 153) (c := 60) (l := 0) (u := 180) rfl (by decide) (by decide) l13 u17 rfl rfl (by decide) (by decide) rfl (fun z68 e68 l68 u68 => ?_)
                                refine ev_loc f_X12_pour (nx := 155) rfl rfl rfl rfl ?_
                                refine ev_addR f_X12_pour (nx := 156) (l := 0) (u := 240) rfl l68 u68 l25 u58 rfl rfl (by decide) (by decide) rfl (fun z69 e69 l69 u69 => ?_)
                                refine ev_loc f_X12_pour (nx := 158) rfl rfl rfl rfl ?_
                                refine ev_addR f_X12_pour (nx := 159) (l := 0) (u := 299) rfl l69 u69 l59_6 u64 rfl rfl (by decide) (by decide) rfl (fun z70 e70 l70 u70 => ?_)
                                refine ev_loc f_X12_pour (nx := 160) rfl rfl rfl rfl ?_
                                refine ev_getR f_X12_pour (nx := 163) rfl (hI.wf.s rfl) rfl rfl (hI.wf.r rfl) rfl rfl ?_
                                refine ev_bp f_X12_pour (nx := 165) (v := 60) rfl (by decide) rfl ?_
                                refine ev_loc f_X12_pour (nx := 166) rfl rfl rfl rfl ?_
                                refine ev_mulL f_X12_pour (nx := 167) (c := 60) (l := 0) (u := 180) rfl (by decide) (by decide) l5 u9 rfl rfl (by decide) (by decide) rfl (fun z71 e71 l71 u71 => ?_)
                                refine ev_loc f_X12_pour (nx := 168) rfl rfl rfl rfl ?_
                                refine ev_addR f_X12_pour (nx := 169) (l := 0) (u := 240) rfl l71 u71 l21 u52 rfl rfl (by decide) (by decide) rfl (fun z72 e72 l72 u72 => ?_)
                                refine ev_loc f_X12_pour (nx := 171) rfl rfl rfl rfl ?_
                                refine ev_addR f_X12_pour (nx := 172) (l := 0) (u := 299) rfl l72 u72 l59_6 u64 rfl rfl (by decide) (by decide) rfl (fun z73 e73 l73 u73 => ?_)
                                have u75 : z73.toInt ≤ (239:Int) := (by omega)
                                refine ev_laldT f_X12_pour (nx := 173) rfl (hI.wf.s rfl) l73 (by decide) u75 (by decide) rfl (fun w74 e74 => ?_)
                                have u77 : z70.toInt ≤ (239:Int) := (by omega)
                                refine ev_lastT f_X12_pour (nx := 174) rfl (hI.wf.s rfl) l70 (by decide) u77 (by decide) rfl (hX.upL (t_inA_ok rfl)) (fun g76 e76 hX => ?_)
                                refine ev_incR f_X12_pour (nx := 177) (c := 1) (l := 1) (u := 60) rfl rfl (by decide) (by decide) l59_6 u64 rfl rfl (by decide) (by decide) rfl (fun z78 e78 l78 u78 => ?_)
                                refine ev_jmp f_X12_pour (nx := 118) rfl rfl rfl ?_
                                refine ev_sub (lo := [(6, .int z78), (0, .ref 69), (1, .int ar1), (2, .int ar2), (3, .int ar3), (4, .int ar4), (5, .int ar5)]) rfl (t_sc rfl (t_sc rfl (t_sc rfl (t_sc rfl (t_sc rfl (t_sc rfl (t_sc rfl t_sn))))))) ?_
                                exact ih59 _ (by omega) gi59 g76 gr59 (z78) hI hX  (Int.le_trans (by decide : (0:Int) ≤ 1) l78) u78 c59_0 c59_1 c59_2 c59_3 c59_4 rfl
                              · have r79 : ar2.toInt < ar4.toInt := Int32.lt_iff_toInt_lt.mp (t_nle h66)
                                have u80 : ar2.toInt ≤ 59 := t_ltu (t_nle h66) u58 rfl
                                have l81 : 1 ≤ ar4.toInt := t_ltl (t_nle h66) l21 rfl
                                refine ev_loc f_X12_pour (nx := 133) rfl rfl rfl rfl ?_
                                refine ev_ic f_X12_pour (nx := 134) (v := 1) rfl (by decide) rfl ?_
                                refine ev_subC f_X12_pour (nx := 135) (c := 1) (l := 0) (u := 59) rfl (by decide) l65 u50 rfl rfl (by decide) (by decide) rfl (fun z82 e82 l82 u82 => ?_)
                                refine ev_loc f_X12_pour (nx := 137) rfl rfl rfl rfl ?_
                                refine ev_subR f_X12_pour (nx := 138) (l := (-59)) (u := 59) rfl l82 u82 l59_6 u64 rfl rfl (by decide) (by decide) rfl (fun z83 e83 l83 u83 => ?_)
                                refine ev_jmp f_X12_pour (nx := 143) rfl rfl rfl ?_
                                refine ev_loc f_X12_pour (nx := 145) (lo' := [(7, .int z83), (6, .int y59_6), (0, .ref 69), (1, .int ar1), (2, .int ar2), (3, .int ar3), (4, .int ar4), (5, .int ar5)]) rfl rfl rfl rfl ?_
                                refine ev_loc f_X12_pour (nx := 146) rfl rfl rfl rfl ?_
                                refine ev_getR f_X12_pour (nx := 149) rfl (hI.wf.s rfl) rfl rfl (hI.wf.r rfl) rfl rfl ?_
                                refine ev_bp f_X12_pour (nx := 151) (v := 60) rfl (by decide) rfl ?_
                                refine ev_loc f_X12_pour (nx := 152) rfl rfl rfl rfl ?_
                                refine ev_mulL f_X12_pour (nx := 153) (c := 60) (l := 0) (u := 180) rfl (by decide) (by decide) l13 u17 rfl rfl (by decide) (by decide) rfl (fun z84 e84 l84 u84 => ?_)
                                refine ev_loc f_X12_pour (nx := 155) rfl rfl rfl rfl ?_
                                refine ev_addR f_X12_pour (nx := 156) (l := 1) (u := 240) rfl l84 u84 l81 u58 rfl rfl (by decide) (by decide) rfl (fun z85 e85 l85 u85 => ?_)
                                refine ev_loc f_X12_pour (nx := 158) rfl rfl rfl rfl ?_
                                refine ev_addR f_X12_pour (nx := 159) (l := (-58)) (u := 299) rfl l85 u85 l83 u83 rfl rfl (by decide) (by decide) rfl (fun z86 e86 l86 u86 => ?_)
                                refine ev_loc f_X12_pour (nx := 160) rfl rfl rfl rfl ?_
                                refine ev_getR f_X12_pour (nx := 163) rfl (hI.wf.s rfl) rfl rfl (hI.wf.r rfl) rfl rfl ?_
                                refine ev_bp f_X12_pour (nx := 165) (v := 60) rfl (by decide) rfl ?_
                                refine ev_loc f_X12_pour (nx := 166) rfl rfl rfl rfl ?_
                                refine ev_mulL f_X12_pour (nx := 167) (c := 60) (l := 0) (u := 180) rfl (by decide) (by decide) l5 u9 rfl rfl (by decide) (by decide) rfl (fun z87 e87 l87 u87 => ?_)
                                refine ev_loc f_X12_pour (nx := 168) rfl rfl rfl rfl ?_
                                refine ev_addR f_X12_pour (nx := 169) (l := 0) (u := 239) rfl l87 u87 l21 u80 rfl rfl (by decide) (by decide) rfl (fun z88 e88 l88 u88 => ?_)
                                refine ev_loc f_X12_pour (nx := 171) rfl rfl rfl rfl ?_
                                refine ev_addR f_X12_pour (nx := 172) (l := (-59)) (u := 298) rfl l88 u88 l83 u83 rfl rfl (by decide) (by decide) rfl (fun z89 e89 l89 u89 => ?_)
                                have l91 : (0:Int) ≤ z89.toInt := (by omega)
                                have u91 : z89.toInt ≤ (239:Int) := (by omega)
                                refine ev_laldT f_X12_pour (nx := 173) rfl (hI.wf.s rfl) l91 (by decide) u91 (by decide) rfl (fun w90 e90 => ?_)
                                have l93 : (0:Int) ≤ z86.toInt := (by omega)
                                have u93 : z86.toInt ≤ (239:Int) := (by omega)
                                refine ev_lastT f_X12_pour (nx := 174) rfl (hI.wf.s rfl) l93 (by decide) u93 (by decide) rfl (hX.upL (t_inA_ok rfl)) (fun g92 e92 hX => ?_)
                                refine ev_incR f_X12_pour (nx := 177) (c := 1) (l := 1) (u := 60) rfl rfl (by decide) (by decide) l59_6 u64 rfl rfl (by decide) (by decide) rfl (fun z94 e94 l94 u94 => ?_)
                                refine ev_jmp f_X12_pour (nx := 118) rfl rfl rfl ?_
                                refine ev_sub (lo := [(6, .int z94), (0, .ref 69), (1, .int ar1), (2, .int ar2), (3, .int ar3), (4, .int ar4), (5, .int ar5)]) rfl (t_sc rfl (t_sc rfl (t_sc rfl (t_sc rfl (t_sc rfl (t_sc rfl (t_sc rfl t_sn))))))) ?_
                                exact ih59 _ (by omega) gi59 g92 gr59 (z94) hI hX  (Int.le_trans (by decide : (0:Int) ≤ 1) l94) u94 c59_0 c59_1 c59_2 c59_3 c59_4 rfl
                          refine ev_sub (lo := [(6, .int 0), (0, .ref 69), (1, .int ar1), (2, .int ar2), (3, .int ar3), (4, .int ar4), (5, .int ar5)]) rfl (t_sc rfl (t_sc rfl (t_sc rfl (t_sc rfl (t_sc rfl (t_sc rfl (t_sc rfl t_sn))))))) ?_
                          exact L59 _ gi gl gr (0) hI hX  (by decide : (0:Int) ≤ (0:Int32).toInt) (Int.le_trans (by decide : (0:Int32).toInt ≤ (0:Int)) (by decide : (0:Int) ≤ 60)) rfl e40.symm e41.symm e28.symm e34.symm rfl
                        · have r95 : z54.toInt < ar5.toInt := Int32.lt_iff_toInt_lt.mp (t_nle h55)
                          have u96 : z54.toInt ≤ 59 := t_ltu (t_nle h55) u50 rfl
                          refine ev_loc f_X12_pour (nx := 110) rfl rfl rfl rfl ?_
                          refine ev_ic f_X12_pour (nx := 111) (v := 3) rfl (by decide) rfl ?_
                          refine ev_inV2 f_X12_pour (nx := 114) (lo2 := [(0, .ref 69), (1, .int 3)]) rfl rfl rfl rfl f_X12_is (hI.wf.s rfl) rfl rfl rfl rfl rfl ?_
                          refine ev_loc f_X12_is (nx := 1) rfl rfl rfl rfl ?_
                          refine ev_loc f_X12_is (nx := 2) rfl rfl rfl rfl ?_
                          refine ev_putIT f_X12_is (nx := 5) rfl (hI.wf.s rfl) rfl rfl rfl (hI.put0 (hI.wf.s rfl) rfl rfl) (hX.upI rfl) (fun g97 e97 hI hX => ?_)
                          refine ev_loc f_X12_is (nx := 6) rfl rfl rfl rfl ?_
                          refine ev_f f_X12_is (t1 := 9) (t2 := 13) rfl rfl rfl (by decide) ?_
                          refine ev_ic f_X12_is (nx := 14) (v := 0) rfl (by decide) rfl ?_
                          refine ev_retK1 f_X12_is rfl rfl rfl ?_
                          exact ev_ret f_X12_pour rfl rfl rfl ⟨_, _, _, rfl, hI, hX, ⟨_, rfl, (by decide : (0:Int) ≤ (0:Int32).toInt), (Int.le_trans (by decide : (0:Int32).toInt ≤ (0:Int)) (by decide : (0:Int) ≤ 1)), (show (¬ ((0 ≤ ar1.toInt ∧ ar1.toInt ≤ 3) ∧ (0 ≤ ar3.toInt ∧ ar3.toInt ≤ 3) ∧ (0 ≤ ar2.toInt ∧ 0 ≤ ar4.toInt ∧ 0 ≤ ar5.toInt)) → (g97 69 2).toInt = 1) ∧ ((0 ≤ ar1.toInt ∧ ar1.toInt ≤ 3) → (0 ≤ ar3.toInt ∧ ar3.toInt ≤ 3) → (0 ≤ ar2.toInt ∧ 0 ≤ ar4.toInt ∧ 0 ≤ ar5.toInt) → ((gi 73 ar1.toNatClampNeg).toInt = -1 ∨ (gi 73 ar3.toNatClampNeg).toInt = -1 → (g97 69 2).toInt = 2) ∧ ((gi 73 ar1.toNatClampNeg).toInt ≠ -1 → (gi 73 ar3.toNatClampNeg).toInt ≠ -1 → ((gi 72 ar1.toNatClampNeg).toInt ≠ (gi 72 ar3.toNatClampNeg).toInt → (g97 69 2).toInt = 8) ∧ ((gi 72 ar1.toNatClampNeg).toInt = (gi 72 ar3.toNatClampNeg).toInt → ((ar2.toInt + ar5.toInt ≤ (gi 73 ar1.toNatClampNeg).toInt ∧ ar4.toInt + ar5.toInt ≤ (gi 73 ar3.toNatClampNeg).toInt) → (g97 69 2).toInt = 0) ∧ (¬ (ar2.toInt + ar5.toInt ≤ (gi 73 ar1.toNatClampNeg).toInt ∧ ar4.toInt + ar5.toInt ≤ (gi 73 ar3.toNatClampNeg).toInt) → (g97 69 2).toInt = 3)))) from (by have ffs : (g97 69 2).toInt = 3 := (congrArg Int32.toInt (by rw [e97]; exact x_up2_at _ _ _ _ : g97 69 2 = 3)).trans (by decide); have hfw28 : (gi 73 ar1.toNatClampNeg).toInt = w28.toInt := congrArg Int32.toInt e28.symm; have hfw34 : (gi 73 ar3.toNatClampNeg).toInt = w34.toInt := congrArg Int32.toInt e34.symm; have hfw40 : (gi 72 ar1.toNatClampNeg).toInt = w40.toInt := congrArg Int32.toInt e40.symm; have hfw41 : (gi 72 ar3.toNatClampNeg).toInt = w41.toInt := congrArg Int32.toInt e41.symm; refine ⟨fun h3 => by omega, fun hi1 hi3 hp => ?_⟩; refine ⟨fun h4 => ?_, fun h4 h5 => ⟨fun h6 => ?_, fun h6 => ⟨fun h7 => ?_, fun h7 => ?_⟩⟩⟩ <;> omega))⟩⟩
                    · have r98 : w40.toInt ≠ w41.toInt := t_nei h42
                      refine ev_loc f_X12_pour (nx := 76) rfl rfl rfl rfl ?_
                      refine ev_bp f_X12_pour (nx := 78) (v := 8) rfl (by decide) rfl ?_
                      refine ev_inV2 f_X12_pour (nx := 81) (lo2 := [(0, .ref 69), (1, .int 8)]) rfl rfl rfl rfl f_X12_is (hI.wf.s rfl) rfl rfl rfl rfl rfl ?_
                      refine ev_loc f_X12_is (nx := 1) rfl rfl rfl rfl ?_
                      refine ev_loc f_X12_is (nx := 2) rfl rfl rfl rfl ?_
                      refine ev_putIT f_X12_is (nx := 5) rfl (hI.wf.s rfl) rfl rfl rfl (hI.put0 (hI.wf.s rfl) rfl rfl) (hX.upI rfl) (fun g99 e99 hI hX => ?_)
                      refine ev_loc f_X12_is (nx := 6) rfl rfl rfl rfl ?_
                      refine ev_f f_X12_is (t1 := 9) (t2 := 13) rfl rfl rfl (by decide) ?_
                      refine ev_ic f_X12_is (nx := 14) (v := 0) rfl (by decide) rfl ?_
                      refine ev_retK1 f_X12_is rfl rfl rfl ?_
                      exact ev_ret f_X12_pour rfl rfl rfl ⟨_, _, _, rfl, hI, hX, ⟨_, rfl, (by decide : (0:Int) ≤ (0:Int32).toInt), (Int.le_trans (by decide : (0:Int32).toInt ≤ (0:Int)) (by decide : (0:Int) ≤ 1)), (show (¬ ((0 ≤ ar1.toInt ∧ ar1.toInt ≤ 3) ∧ (0 ≤ ar3.toInt ∧ ar3.toInt ≤ 3) ∧ (0 ≤ ar2.toInt ∧ 0 ≤ ar4.toInt ∧ 0 ≤ ar5.toInt)) → (g99 69 2).toInt = 1) ∧ ((0 ≤ ar1.toInt ∧ ar1.toInt ≤ 3) → (0 ≤ ar3.toInt ∧ ar3.toInt ≤ 3) → (0 ≤ ar2.toInt ∧ 0 ≤ ar4.toInt ∧ 0 ≤ ar5.toInt) → ((gi 73 ar1.toNatClampNeg).toInt = -1 ∨ (gi 73 ar3.toNatClampNeg).toInt = -1 → (g99 69 2).toInt = 2) ∧ ((gi 73 ar1.toNatClampNeg).toInt ≠ -1 → (gi 73 ar3.toNatClampNeg).toInt ≠ -1 → ((gi 72 ar1.toNatClampNeg).toInt ≠ (gi 72 ar3.toNatClampNeg).toInt → (g99 69 2).toInt = 8) ∧ ((gi 72 ar1.toNatClampNeg).toInt = (gi 72 ar3.toNatClampNeg).toInt → ((ar2.toInt + ar5.toInt ≤ (gi 73 ar1.toNatClampNeg).toInt ∧ ar4.toInt + ar5.toInt ≤ (gi 73 ar3.toNatClampNeg).toInt) → (g99 69 2).toInt = 0) ∧ (¬ (ar2.toInt + ar5.toInt ≤ (gi 73 ar1.toNatClampNeg).toInt ∧ ar4.toInt + ar5.toInt ≤ (gi 73 ar3.toNatClampNeg).toInt) → (g99 69 2).toInt = 3)))) from (by have ffs : (g99 69 2).toInt = 8 := (congrArg Int32.toInt (by rw [e99]; exact x_up2_at _ _ _ _ : g99 69 2 = 8)).trans (by decide); have hfw28 : (gi 73 ar1.toNatClampNeg).toInt = w28.toInt := congrArg Int32.toInt e28.symm; have hfw34 : (gi 73 ar3.toNatClampNeg).toInt = w34.toInt := congrArg Int32.toInt e34.symm; have hfw40 : (gi 72 ar1.toNatClampNeg).toInt = w40.toInt := congrArg Int32.toInt e40.symm; have hfw41 : (gi 72 ar3.toNatClampNeg).toInt = w41.toInt := congrArg Int32.toInt e41.symm; refine ⟨fun h3 => by omega, fun hi1 hi3 hp => ?_⟩; refine ⟨fun h4 => ?_, fun h4 h5 => ⟨fun h6 => ?_, fun h6 => ⟨fun h7 => ?_, fun h7 => ?_⟩⟩⟩ <;> omega))⟩⟩
              · have u100 : ar5.toInt ≤ (-1) := t_ltu (t_nle h26) (by decide : (0:Int32).toInt ≤ (0:Int)) rfl
                refine ev_loc f_X12_pour (nx := 29) rfl rfl rfl rfl ?_
                refine ev_ic f_X12_pour (nx := 30) (v := 1) rfl (by decide) rfl ?_
                refine ev_inV2 f_X12_pour (nx := 33) (lo2 := [(0, .ref 69), (1, .int 1)]) rfl rfl rfl rfl f_X12_is (hI.wf.s rfl) rfl rfl rfl rfl rfl ?_
                refine ev_loc f_X12_is (nx := 1) rfl rfl rfl rfl ?_
                refine ev_loc f_X12_is (nx := 2) rfl rfl rfl rfl ?_
                refine ev_putIT f_X12_is (nx := 5) rfl (hI.wf.s rfl) rfl rfl rfl (hI.put0 (hI.wf.s rfl) rfl rfl) (hX.upI rfl) (fun g101 e101 hI hX => ?_)
                refine ev_loc f_X12_is (nx := 6) rfl rfl rfl rfl ?_
                refine ev_f f_X12_is (t1 := 9) (t2 := 13) rfl rfl rfl (by decide) ?_
                refine ev_ic f_X12_is (nx := 14) (v := 0) rfl (by decide) rfl ?_
                refine ev_retK1 f_X12_is rfl rfl rfl ?_
                exact ev_ret f_X12_pour rfl rfl rfl ⟨_, _, _, rfl, hI, hX, ⟨_, rfl, (by decide : (0:Int) ≤ (0:Int32).toInt), (Int.le_trans (by decide : (0:Int32).toInt ≤ (0:Int)) (by decide : (0:Int) ≤ 1)), (show (¬ ((0 ≤ ar1.toInt ∧ ar1.toInt ≤ 3) ∧ (0 ≤ ar3.toInt ∧ ar3.toInt ≤ 3) ∧ (0 ≤ ar2.toInt ∧ 0 ≤ ar4.toInt ∧ 0 ≤ ar5.toInt)) → (g101 69 2).toInt = 1) ∧ ((0 ≤ ar1.toInt ∧ ar1.toInt ≤ 3) → (0 ≤ ar3.toInt ∧ ar3.toInt ≤ 3) → (0 ≤ ar2.toInt ∧ 0 ≤ ar4.toInt ∧ 0 ≤ ar5.toInt) → ((gi 73 ar1.toNatClampNeg).toInt = -1 ∨ (gi 73 ar3.toNatClampNeg).toInt = -1 → (g101 69 2).toInt = 2) ∧ ((gi 73 ar1.toNatClampNeg).toInt ≠ -1 → (gi 73 ar3.toNatClampNeg).toInt ≠ -1 → ((gi 72 ar1.toNatClampNeg).toInt ≠ (gi 72 ar3.toNatClampNeg).toInt → (g101 69 2).toInt = 8) ∧ ((gi 72 ar1.toNatClampNeg).toInt = (gi 72 ar3.toNatClampNeg).toInt → ((ar2.toInt + ar5.toInt ≤ (gi 73 ar1.toNatClampNeg).toInt ∧ ar4.toInt + ar5.toInt ≤ (gi 73 ar3.toNatClampNeg).toInt) → (g101 69 2).toInt = 0) ∧ (¬ (ar2.toInt + ar5.toInt ≤ (gi 73 ar1.toNatClampNeg).toInt ∧ ar4.toInt + ar5.toInt ≤ (gi 73 ar3.toNatClampNeg).toInt) → (g101 69 2).toInt = 3)))) from (by have ffs : (g101 69 2).toInt = 1 := (congrArg Int32.toInt (by rw [e101]; exact x_up2_at _ _ _ _ : g101 69 2 = 1)).trans (by decide); refine ⟨fun h3 => by omega, fun hi1 hi3 hp => ?_⟩; refine ⟨fun h4 => ?_, fun h4 h5 => ⟨fun h6 => ?_, fun h6 => ⟨fun h7 => ?_, fun h7 => ?_⟩⟩⟩ <;> omega))⟩⟩
noncomputable def wl_e_status : List (Nat × Nat) := []
noncomputable def Q_e_status (gi : Nat → Nat → Int32) (gl : Nat → Nat → Int64) (gr : Nat → Nat → Value) : Int32 → (Nat → Nat → Int32) → (Nat → Nat → Int64) → (Nat → Nat → Value) → Prop := fun (v : Int32) (gi2 : Nat → Nat → Int32) (gl2 : Nat → Nat → Int64) (gr2 : Nat → Nat → Value) => v.toInt = (gi 69 2).toInt
theorem c_e_status {X : x_Ext} {d : Nat} {sh : List (Nat ⊕ (Nat × Nat))} {gi : Nat → Nat → Int32} {gl : Nat → Nat → Int64} {gr : Nat → Nat → Value} (hI : t_I sh gi gr) : x_Me X (d + 1) n_X12_status [.ref 69] (sh, gi, gl, gr) (t_PI wl_e_status sh gi gl gr (-2147483648) 2147483647 (Q_e_status gi gl gr)) := by
  have hX : t_X wl_e_status sh gi gl gr gi gl gr := t_X.rf
  refine me_i f_X12_status (hI.wf.s rfl) rfl rfl rfl ?_
  refine ev_loc f_X12_status (nx := 1) rfl rfl rfl rfl ?_
  refine ev_gvI f_X12_status (nx := 4) (w := (gi 69 2)) rfl (hI.wf.s rfl) rfl rfl rfl rfl ?_
  exact ev_ret f_X12_status rfl rfl rfl ⟨_, _, _, rfl, hI, hX, ⟨_, rfl, (t_lo (gi 69 2)), (t_hi (gi 69 2)), (show (gi 69 2).toInt = (gi 69 2).toInt from rfl)⟩⟩
/-! ===== STATUS: the same on both sides behind each call ===== -/
section STS
variable {sh : List (Nat ⊕ (Nat × Nat))} {gi g1 g2 : Nat → Nat → Int32} {gl l1 l2 : Nat → Nat → Int64} {gr r1 r2 : Nat → Nat → Value} {w1 w2 : List (Nat × Nat)}
noncomputable def t_ms (w : List (Nat × Nat)) : Bool := t_nc w 72 && t_nc w 73
theorem t_S_m73 (hR : t_R gi gr) (f1 : t_F w1 gi gl gr g1 l1 r1) (h : t_ms w1 = true) {i : Int32} (hi : 0 ≤ i.toInt ∧ i.toInt ≤ 3) : gi (61 + 2 * i.toNatClampNeg) 2 = g1 73 i.toNatClampNeg ∧ gi (61 + 2 * i.toNatClampNeg) 1 = g1 72 i.toNatClampNeg := by
  unfold t_ms at h
  rw [Bool.and_eq_true] at h
  have hc := t_clamp hi.1
  have e := t_R_t hR (t := i.toNatClampNeg) (by omega)
  rw [t_F_nc f1 h.1 (by decide), t_F_nc f1 h.2 (by decide)]
  exact e
theorem t_S_tray {B1 : Int32} {B2 : Int32} {B3 : Int32} {x1 x2 : Int32} (e0 : (g2 0 0).toInt = (g1 0 0).toInt) (hA : x1 = x2) (q1 : Q_f_tray gi gl gr B1 B2 B3 x1 g1 l1 r1) (q2 : Q_g_tray g1 l1 r1 B1 B2 B3 x2 g2 l2 r2) : (g2 0 0).toInt = (g2 69 2).toInt := by
  subst hA
  unfold Q_f_tray at q1
  unfold Q_g_tray at q2
  omega
theorem t_S_clearEcho  {x1 x2 : Int32} (e0 : (g2 0 0).toInt = (g1 0 0).toInt) (hA : x1 = x2) (q1 : Q_f_clearEcho gi gl gr x1 g1 l1 r1) (q2 : Q_g_clearEcho g1 l1 r1 x2 g2 l2 r2) : (g2 0 0).toInt = (g2 69 2).toInt := by
  subst hA
  unfold Q_f_clearEcho at q1
  unfold Q_g_clearEcho at q2
  omega
theorem t_S_plan  {x1 x2 : Int32} (e0 : (g2 0 0).toInt = (g1 0 0).toInt) (hA : x1 = x2) (q1 : Q_f_plan gi gl gr x1 g1 l1 r1) (q2 : Q_g_plan g1 l1 r1 x2 g2 l2 r2) : (g2 0 0).toInt = (g2 69 2).toInt := by
  subst hA
  unfold Q_f_plan at q1
  unfold Q_g_plan at q2
  omega
theorem t_S_away  {x1 x2 : Int32} (e0 : (g2 0 0).toInt = (g1 0 0).toInt) (hA : x1 = x2) (q1 : Q_f_away gi gl gr x1 g1 l1 r1) (q2 : Q_g_away g1 l1 r1 x2 g2 l2 r2) : (g2 0 0).toInt = (g2 69 2).toInt := by
  subst hA
  unfold Q_f_away at q1
  unfold Q_g_away at q2
  omega
theorem t_S_dearest  {x1 x2 : Int32} (e0 : (g2 0 0).toInt = (g1 0 0).toInt) (hA : x1 = x2) (q1 : Q_f_dearest gi gl gr x1 g1 l1 r1) (q2 : Q_g_dearest g1 l1 r1 x2 g2 l2 r2) : (g2 0 0).toInt = (g2 69 2).toInt := by
  subst hA
  unfold Q_f_dearest at q1
  unfold Q_g_dearest at q2
  omega
theorem t_S_busiest  {x1 x2 : Int32} (e0 : (g2 0 0).toInt = (g1 0 0).toInt) (hA : x1 = x2) (q1 : Q_f_busiest gi gl gr x1 g1 l1 r1) (q2 : Q_g_busiest g1 l1 r1 x2 g2 l2 r2) : (g2 0 0).toInt = (g2 69 2).toInt := by
  subst hA
  unfold Q_f_busiest at q1
  unfold Q_g_busiest at q2
  omega
theorem t_S_mark  {x1 x2 : Int32} (e0 : (g2 0 0).toInt = (g1 0 0).toInt) (hA : x1 = x2) (q1 : Q_f_mark gi gl gr x1 g1 l1 r1) (q2 : Q_g_mark g1 l1 r1 x2 g2 l2 r2) : (g2 0 0).toInt = (g2 69 2).toInt := by
  subst hA
  unfold Q_f_mark at q1
  unfold Q_g_mark at q2
  omega
theorem t_S_back  {x1 x2 : Int32} (e0 : (g2 0 0).toInt = (g1 0 0).toInt) (hA : x1 = x2) (q1 : Q_f_back gi gl gr x1 g1 l1 r1) (q2 : Q_g_back g1 l1 r1 x2 g2 l2 r2) : (g2 0 0).toInt = (g2 69 2).toInt := by
  subst hA
  unfold Q_f_back at q1
  unfold Q_g_back at q2
  omega
theorem t_S_told {B1 : Int32} {x1 x2 : Int32} (e0 : (g2 0 0).toInt = (g1 0 0).toInt)  (q1 : Q_f_told gi gl gr B1 x1 g1 l1 r1) (q2 : Q_g_told g1 l1 r1 B1 x2 g2 l2 r2) : (g2 0 0).toInt = (g2 69 2).toInt := by
  unfold Q_f_told at q1
  unfold Q_g_told at q2
  omega
theorem t_S_readings {B1 : Int64} {x1 x2 : Int32} (e0 : (g2 0 0).toInt = (g1 0 0).toInt)  (q1 : Q_f_readings gi gl gr B1 x1 g1 l1 r1) (q2 : Q_g_readings g1 l1 r1 B1 x2 g2 l2 r2) : (g2 0 0).toInt = (g2 69 2).toInt := by
  unfold Q_f_readings at q1
  unfold Q_g_readings at q2
  omega
theorem t_S_parts {B1 : Int64} {x1 x2 : Int32} (e0 : (g2 0 0).toInt = (g1 0 0).toInt)  (q1 : Q_f_parts gi gl gr B1 x1 g1 l1 r1) (q2 : Q_g_parts g1 l1 r1 B1 x2 g2 l2 r2) : (g2 0 0).toInt = (g2 69 2).toInt := by
  unfold Q_f_parts at q1
  unfold Q_g_parts at q2
  omega
theorem t_S_alike  {x1 x2 : Int32} (e0 : (g2 0 0).toInt = (g1 0 0).toInt)  (q1 : Q_f_alike gi gl gr x1 g1 l1 r1) (q2 : Q_g_alike g1 l1 r1 x2 g2 l2 r2) : (g2 0 0).toInt = (g2 69 2).toInt := by
  unfold Q_f_alike at q1
  unfold Q_g_alike at q2
  omega
theorem t_S_silent  {x1 x2 : Int32} (e0 : (g2 0 0).toInt = (g1 0 0).toInt)  (q1 : Q_f_silent gi gl gr x1 g1 l1 r1) (q2 : Q_g_silent g1 l1 r1 x2 g2 l2 r2) : (g2 0 0).toInt = (g2 69 2).toInt := by
  unfold Q_f_silent at q1
  unfold Q_g_silent at q2
  omega
theorem t_S_ship {B1 : Int32} {B2 : Int32} {x1 x2 : Int32} (e0 : (g2 0 0).toInt = (g1 0 0).toInt) (hD : t_DR sh.length gi gl gr) (f1 : t_F w1 gi gl gr g1 l1 r1) (h70 : t_nc w1 70 = true) (q1 : Q_f_ship gi gl gr B1 B2 x1 g1 l1 r1) (q2 : Q_g_ship g1 l1 r1 B1 B2 x2 g2 l2 r2) : (g2 0 0).toInt = (g2 69 2).toInt := by
  obtain ⟨u, hu, D, hb, hv, hl, hc, hm⟩ := hD.1
  have r70 : g1 70 = gi 70 := t_F_nc f1 h70 (by decide)
  have hm2 : t_ME 0 g1 D := by unfold t_ME; rw [r70]; exact hm
  have m0 : (g1 70 0).toInt = D 0 := hm2.1.1.1
  have m1 : (g1 70 1).toInt = D 1 := hm2.1.1.2.1
  have m2 : (g1 70 2).toInt = D 2 := hm2.1.1.2.2
  unfold Q_f_ship at q1
  unfold Q_g_ship at q2
  have k1 := q1 u D hu hl hc hb
  omega
theorem t_S_cart {B1 : Int32} {B2 : Int32} {x1 x2 : Int32} (e0 : (g2 0 0).toInt = (g1 0 0).toInt) (hD : t_DR sh.length gi gl gr) (f1 : t_F w1 gi gl gr g1 l1 r1) (h70 : t_nc w1 70 = true) (q1 : Q_f_cart gi gl gr B1 B2 x1 g1 l1 r1) (q2 : Q_g_cart g1 l1 r1 B1 B2 x2 g2 l2 r2) : (g2 0 0).toInt = (g2 69 2).toInt := by
  obtain ⟨u, hu, D, hb, hv, hl, hc, hm⟩ := hD.1
  have r70 : g1 70 = gi 70 := t_F_nc f1 h70 (by decide)
  have hm2 : t_ME 0 g1 D := by unfold t_ME; rw [r70]; exact hm
  have m0 : (g1 70 0).toInt = D 0 := hm2.1.1.1
  have m1 : (g1 70 1).toInt = D 1 := hm2.1.1.2.1
  have m2 : (g1 70 2).toInt = D 2 := hm2.1.1.2.2
  unfold Q_f_cart at q1
  unfold Q_g_cart at q2
  have k1 := q1 u D hu hl hc hb
  omega
theorem t_S_sound {B1 : Int32} {x1 x2 : Int64} (e0 : (g2 0 0).toInt = (g1 0 0).toInt) (hD : t_DR sh.length gi gl gr) (f1 : t_F w1 gi gl gr g1 l1 r1) (h70 : t_nc w1 70 = true) (q1 : Q_f_sound gi gl gr B1 x1 g1 l1 r1) (q2 : Q_g_sound g1 l1 r1 B1 x2 g2 l2 r2) : (g2 0 0).toInt = (g2 69 2).toInt := by
  obtain ⟨u, hu, D, hb, hv, hl, hc, hm⟩ := hD.1
  have r70 : g1 70 = gi 70 := t_F_nc f1 h70 (by decide)
  have hm2 : t_ME 0 g1 D := by unfold t_ME; rw [r70]; exact hm
  have m0 : (g1 70 0).toInt = D 0 := hm2.1.1.1
  have m1 : (g1 70 1).toInt = D 1 := hm2.1.1.2.1
  have m2 : (g1 70 2).toInt = D 2 := hm2.1.1.2.2
  unfold Q_f_sound at q1
  unfold Q_g_sound at q2
  have k1 := q1 u D hu hl hc hb
  omega
theorem t_S_heard {B1 : Int32} {x1 x2 : Int64} (e0 : (g2 0 0).toInt = (g1 0 0).toInt) (hD : t_DR sh.length gi gl gr) (f1 : t_F w1 gi gl gr g1 l1 r1) (h70 : t_nc w1 70 = true) (q1 : Q_f_heard gi gl gr B1 x1 g1 l1 r1) (q2 : Q_g_heard g1 l1 r1 B1 x2 g2 l2 r2) : (g2 0 0).toInt = (g2 69 2).toInt := by
  obtain ⟨u, hu, D, hb, hv, hl, hc, hm⟩ := hD.1
  have r70 : g1 70 = gi 70 := t_F_nc f1 h70 (by decide)
  have hm2 : t_ME 0 g1 D := by unfold t_ME; rw [r70]; exact hm
  have m0 : (g1 70 0).toInt = D 0 := hm2.1.1.1
  have m1 : (g1 70 1).toInt = D 1 := hm2.1.1.2.1
  have m2 : (g1 70 2).toInt = D 2 := hm2.1.1.2.2
  unfold Q_f_heard at q1
  unfold Q_g_heard at q2
  have k1 := q1 u D hu hl hc hb
  omega
theorem t_S_together {B1 : Int32} {B2 : Int32} {B3 : Int32} {x1 x2 : Int64} (e0 : (g2 0 0).toInt = (g1 0 0).toInt) (hD : t_DR sh.length gi gl gr) (f1 : t_F w1 gi gl gr g1 l1 r1) (h70 : t_nc w1 70 = true) (q1 : Q_f_together gi gl gr B1 B2 B3 x1 g1 l1 r1) (q2 : Q_g_together g1 l1 r1 B1 B2 B3 x2 g2 l2 r2) : (g2 0 0).toInt = (g2 69 2).toInt := by
  obtain ⟨u, hu, D, hb, hv, hl, hc, hm⟩ := hD.1
  have r70 : g1 70 = gi 70 := t_F_nc f1 h70 (by decide)
  have hm2 : t_ME 0 g1 D := by unfold t_ME; rw [r70]; exact hm
  have m0 : (g1 70 0).toInt = D 0 := hm2.1.1.1
  have m1 : (g1 70 1).toInt = D 1 := hm2.1.1.2.1
  have m2 : (g1 70 2).toInt = D 2 := hm2.1.1.2.2
  unfold Q_f_together at q1
  unfold Q_g_together at q2
  have k1 := q1 u D hu hl hc hb
  omega
theorem t_S_lasts {B1 : Int32} {x1 x2 : Int32} (e0 : (g2 0 0).toInt = (g1 0 0).toInt) (hD : t_DR sh.length gi gl gr) (f1 : t_F w1 gi gl gr g1 l1 r1) (h70 : t_nc w1 70 = true) (q1 : Q_f_lasts gi gl gr B1 x1 g1 l1 r1) (q2 : Q_g_lasts g1 l1 r1 B1 x2 g2 l2 r2) : (g2 0 0).toInt = (g2 69 2).toInt := by
  obtain ⟨u, hu, D, hb, hv, hl, hc, hm⟩ := hD.1
  have r70 : g1 70 = gi 70 := t_F_nc f1 h70 (by decide)
  have hm2 : t_ME 0 g1 D := by unfold t_ME; rw [r70]; exact hm
  have m0 : (g1 70 0).toInt = D 0 := hm2.1.1.1
  have m1 : (g1 70 1).toInt = D 1 := hm2.1.1.2.1
  have m2 : (g1 70 2).toInt = D 2 := hm2.1.1.2.2
  unfold Q_f_lasts at q1
  unfold Q_g_lasts at q2
  have k1 := q1 u D hu hl hc hb
  omega
theorem t_S_far {B1 : Int32} {B2 : Int32} {x1 x2 : Int32} (e0 : (g2 0 0).toInt = (g1 0 0).toInt) (hD : t_DR sh.length gi gl gr) (f1 : t_F w1 gi gl gr g1 l1 r1) (h70 : t_nc w1 70 = true) (q1 : Q_f_far gi gl gr B1 B2 x1 g1 l1 r1) (q2 : Q_g_far g1 l1 r1 B1 B2 x2 g2 l2 r2) : (g2 0 0).toInt = (g2 69 2).toInt := by
  obtain ⟨u, hu, D, hb, hv, hl, hc, hm⟩ := hD.1
  have r70 : g1 70 = gi 70 := t_F_nc f1 h70 (by decide)
  have hm2 : t_ME 0 g1 D := by unfold t_ME; rw [r70]; exact hm
  have m0 : (g1 70 0).toInt = D 0 := hm2.1.1.1
  have m1 : (g1 70 1).toInt = D 1 := hm2.1.1.2.1
  have m2 : (g1 70 2).toInt = D 2 := hm2.1.1.2.2
  unfold Q_f_far at q1
  unfold Q_g_far at q2
  have k1 := q1 u D hu hl hc hb
  omega
theorem t_S_doubt {B1 : Int64} {B2 : Int32} {x1 x2 : Int32} (e0 : (g2 0 0).toInt = (g1 0 0).toInt) (hA : x1 = x2) (hD : t_DR sh.length gi gl gr) (f1 : t_F w1 gi gl gr g1 l1 r1) (h70 : t_nc w1 70 = true) (q1 : Q_f_doubt gi gl gr B1 B2 x1 g1 l1 r1) (q2 : Q_g_doubt g1 l1 r1 B1 B2 x2 g2 l2 r2) : (g2 0 0).toInt = (g2 69 2).toInt := by
  subst hA
  obtain ⟨u, hu, D, hb, hv, hl, hc, hm⟩ := hD.1
  have r70 : g1 70 = gi 70 := t_F_nc f1 h70 (by decide)
  have hm2 : t_ME 0 g1 D := by unfold t_ME; rw [r70]; exact hm
  have m0 : (g1 70 0).toInt = D 0 := hm2.1.1.1
  have m1 : (g1 70 1).toInt = D 1 := hm2.1.1.2.1
  have m2 : (g1 70 2).toInt = D 2 := hm2.1.1.2.2
  unfold Q_f_doubt at q1
  unfold Q_g_doubt at q2
  have k1 := q1 u D hu hl hc hb
  omega
theorem t_S_clearBeats {B1 : Int32} {B2 : Int32} {x1 x2 : Int32} (e0 : (g2 0 0).toInt = (g1 0 0).toInt) (hA : x1 = x2) (hD : t_DR sh.length gi gl gr) (f1 : t_F w1 gi gl gr g1 l1 r1) (h70 : t_nc w1 70 = true) (q1 : Q_f_clearBeats gi gl gr B1 B2 x1 g1 l1 r1) (q2 : Q_g_clearBeats g1 l1 r1 B1 B2 x2 g2 l2 r2) : (g2 0 0).toInt = (g2 69 2).toInt := by
  subst hA
  obtain ⟨u, hu, D, hb, hv, hl, hc, hm⟩ := hD.1
  have r70 : g1 70 = gi 70 := t_F_nc f1 h70 (by decide)
  have hm2 : t_ME 0 g1 D := by unfold t_ME; rw [r70]; exact hm
  have m0 : (g1 70 0).toInt = D 0 := hm2.1.1.1
  have m1 : (g1 70 1).toInt = D 1 := hm2.1.1.2.1
  have m2 : (g1 70 2).toInt = D 2 := hm2.1.1.2.2
  unfold Q_f_clearBeats at q1
  unfold Q_g_clearBeats at q2
  have k1 := q1 u D hu hl hc hb
  omega
theorem t_S_nextShip {B1 : Int32} {x1 x2 : Int32} (e0 : (g2 0 0).toInt = (g1 0 0).toInt) (hD : t_DR sh.length gi gl gr) (f1 : t_F w1 gi gl gr g1 l1 r1) (h70 : t_nc w1 70 = true)  (q1 : Q_f_nextShip gi gl gr B1 x1 g1 l1 r1) (q2 : Q_g_nextShip g1 l1 r1 B1 x2 g2 l2 r2) (q3 : Q_e_nextShip g1 l1 r1 B1 x2 g2 l2 r2) : (g2 0 0).toInt = (g2 69 2).toInt := by
  obtain ⟨u, hu, D, hb, hv, hl, hc, hm⟩ := hD.1
  have r70 : g1 70 = gi 70 := t_F_nc f1 h70 (by decide)
  have hm2 : t_ME 0 g1 D := by unfold t_ME; rw [r70]; exact hm
  have m0 : (g1 70 0).toInt = D 0 := hm2.1.1.1
  have m1 : (g1 70 1).toInt = D 1 := hm2.1.1.2.1
  have m2 : (g1 70 2).toInt = D 2 := hm2.1.1.2.2
  unfold Q_f_nextShip at q1
  unfold Q_g_nextShip at q2
  have k1 := q1 u D hu hl hc hb
  have k3 := q3 D hm2 hb
  by_cases hin : 0 ≤ B1.toInt ∧ B1.toInt < D 1
  · have h3 := k3.1 hin
    have h4 := k1.2 hin
    have h5 := q2.2 (by omega)
    omega
  · have h3 := k3.2 hin
    have h4 := k1.1 hin
    have h5 := q2.1 h3
    omega
theorem t_S_nextCart {B1 : Int32} {x1 x2 : Int32} (e0 : (g2 0 0).toInt = (g1 0 0).toInt) (hD : t_DR sh.length gi gl gr) (f1 : t_F w1 gi gl gr g1 l1 r1) (h70 : t_nc w1 70 = true) (hN1 : (g1 69 46).toInt = -1) (q1 : Q_f_nextCart gi gl gr B1 x1 g1 l1 r1) (q2 : Q_g_nextCart g1 l1 r1 B1 x2 g2 l2 r2) (q3 : Q_e_nextCart g1 l1 r1 B1 x2 g2 l2 r2) : (g2 0 0).toInt = (g2 69 2).toInt := by
  obtain ⟨u, hu, D, hb, hv, hl, hc, hm⟩ := hD.1
  have r70 : g1 70 = gi 70 := t_F_nc f1 h70 (by decide)
  have hm2 : t_ME 0 g1 D := by unfold t_ME; rw [r70]; exact hm
  have m0 : (g1 70 0).toInt = D 0 := hm2.1.1.1
  have m1 : (g1 70 1).toInt = D 1 := hm2.1.1.2.1
  have m2 : (g1 70 2).toInt = D 2 := hm2.1.1.2.2
  unfold Q_f_nextCart at q1
  unfold Q_g_nextCart at q2
  have k1 := q1 u D hu hl hc hb
  have k3 := q3 D hm2 hb hN1
  by_cases hin : 0 ≤ B1.toInt ∧ B1.toInt < D 2
  · have h3 := k3.1 hin
    have h4 := k1.2 hin
    have h5 := q2.2 (by omega)
    omega
  · have h3 := k3.2 hin
    have h4 := k1.1 hin
    have h5 := q2.1 h3
    omega
theorem t_S_least  {x1 x2 : Int32} (e0 : (g2 0 0).toInt = (g1 0 0).toInt) (hA : x1 = x2) (hI : t_I sh gi gr) (hD : t_DR sh.length gi gl gr) (f1 : t_F w1 gi gl gr g1 l1 r1) (h70 : t_nc w1 70 = true) (h4 : 1 ≤ (g1 70 4).toInt) (q1 : Q_f_least gi gl gr x1 g1 l1 r1) (q2 : Q_g_least g1 l1 r1 x2 g2 l2 r2) : (g2 0 0).toInt = (g2 69 2).toInt := by
  subst hA
  obtain ⟨u, hu, D, hb, hv, hl, hc, hm⟩ := hD.1
  have r70 : g1 70 = gi 70 := t_F_nc f1 h70 (by decide)
  have hm2 : t_ME 0 g1 D := by unfold t_ME; rw [r70]; exact hm
  have m0 : (g1 70 0).toInt = D 0 := hm2.1.1.1
  have m1 : (g1 70 1).toInt = D 1 := hm2.1.1.2.1
  have m2 : (g1 70 2).toInt = D 2 := hm2.1.1.2.2
  have hd : s_DB D := s_DB_of hI hm hb (by rw [← r70]; exact h4)
  unfold Q_f_least at q1
  unfold Q_g_least at q2
  have k1 := q1 u D hu hl hc hb hv.1 (t_D_sail hI hb hm) hd
  omega
theorem t_S_quicker {B1 : Int32} {x1 x2 : Int32} (e0 : (g2 0 0).toInt = (g1 0 0).toInt) (hA : x1 = x2) (hI : t_I sh gi gr) (hD : t_DR sh.length gi gl gr) (f1 : t_F w1 gi gl gr g1 l1 r1) (h70 : t_nc w1 70 = true) (h4 : 1 ≤ (g1 70 4).toInt) (q1 : Q_f_quicker gi gl gr B1 x1 g1 l1 r1) (q2 : Q_g_quicker g1 l1 r1 B1 x2 g2 l2 r2) : (g2 0 0).toInt = (g2 69 2).toInt := by
  subst hA
  obtain ⟨u, hu, D, hb, hv, hl, hc, hm⟩ := hD.1
  have r70 : g1 70 = gi 70 := t_F_nc f1 h70 (by decide)
  have hm2 : t_ME 0 g1 D := by unfold t_ME; rw [r70]; exact hm
  have m0 : (g1 70 0).toInt = D 0 := hm2.1.1.1
  have m1 : (g1 70 1).toInt = D 1 := hm2.1.1.2.1
  have m2 : (g1 70 2).toInt = D 2 := hm2.1.1.2.2
  have hd : s_DB D := s_DB_of hI hm hb (by rw [← r70]; exact h4)
  unfold Q_f_quicker at q1
  unfold Q_g_quicker at q2
  have k1 := q1 u D hu hl hc hb hv.1 (t_D_sail hI hb hm) hd
  omega
theorem t_S_later {B1 : Int32} {B2 : Int32} {x1 x2 : Int32} (e0 : (g2 0 0).toInt = (g1 0 0).toInt) (hA : x1 = x2) (hI : t_I sh gi gr) (hD : t_DR sh.length gi gl gr) (f1 : t_F w1 gi gl gr g1 l1 r1) (h70 : t_nc w1 70 = true) (h4 : 1 ≤ (g1 70 4).toInt) (q1 : Q_f_later gi gl gr B1 B2 x1 g1 l1 r1) (q2 : Q_g_later g1 l1 r1 B1 B2 x2 g2 l2 r2) : (g2 0 0).toInt = (g2 69 2).toInt := by
  subst hA
  obtain ⟨u, hu, D, hb, hv, hl, hc, hm⟩ := hD.1
  have r70 : g1 70 = gi 70 := t_F_nc f1 h70 (by decide)
  have hm2 : t_ME 0 g1 D := by unfold t_ME; rw [r70]; exact hm
  have m0 : (g1 70 0).toInt = D 0 := hm2.1.1.1
  have m1 : (g1 70 1).toInt = D 1 := hm2.1.1.2.1
  have m2 : (g1 70 2).toInt = D 2 := hm2.1.1.2.2
  have hd : s_DB D := s_DB_of hI hm hb (by rw [← r70]; exact h4)
  unfold Q_f_later at q1
  unfold Q_g_later at q2
  have k1 := q1 u D hu hl hc hb hv.1 (t_D_sail hI hb hm) hd
  omega
theorem t_S_without {B1 : Int32} {x1 x2 : Int32} (e0 : (g2 0 0).toInt = (g1 0 0).toInt) (hA : x1 = x2) (hI : t_I sh gi gr) (hD : t_DR sh.length gi gl gr) (f1 : t_F w1 gi gl gr g1 l1 r1) (h70 : t_nc w1 70 = true) (h4 : 1 ≤ (g1 70 4).toInt) (q1 : Q_f_without gi gl gr B1 x1 g1 l1 r1) (q2 : Q_g_without g1 l1 r1 B1 x2 g2 l2 r2) : (g2 0 0).toInt = (g2 69 2).toInt := by
  subst hA
  obtain ⟨u, hu, D, hb, hv, hl, hc, hm⟩ := hD.1
  have r70 : g1 70 = gi 70 := t_F_nc f1 h70 (by decide)
  have hm2 : t_ME 0 g1 D := by unfold t_ME; rw [r70]; exact hm
  have m0 : (g1 70 0).toInt = D 0 := hm2.1.1.1
  have m1 : (g1 70 1).toInt = D 1 := hm2.1.1.2.1
  have m2 : (g1 70 2).toInt = D 2 := hm2.1.1.2.2
  have hd : s_DB D := s_DB_of hI hm hb (by rw [← r70]; exact h4)
  unfold Q_f_without at q1
  unfold Q_g_without at q2
  have k1 := q1 u D hu hl hc hb hv.1 (t_D_sail hI hb hm) hd
  omega
theorem t_S_slack {B1 : Int32} {x1 x2 : Int32} (e0 : (g2 0 0).toInt = (g1 0 0).toInt) (hA : x1 = x2) (hI : t_I sh gi gr) (hD : t_DR sh.length gi gl gr) (f1 : t_F w1 gi gl gr g1 l1 r1) (h70 : t_nc w1 70 = true) (h4 : 1 ≤ (g1 70 4).toInt) (q1 : Q_f_slack gi gl gr B1 x1 g1 l1 r1) (q2 : Q_g_slack g1 l1 r1 B1 x2 g2 l2 r2) : (g2 0 0).toInt = (g2 69 2).toInt := by
  subst hA
  obtain ⟨u, hu, D, hb, hv, hl, hc, hm⟩ := hD.1
  have r70 : g1 70 = gi 70 := t_F_nc f1 h70 (by decide)
  have hm2 : t_ME 0 g1 D := by unfold t_ME; rw [r70]; exact hm
  have m0 : (g1 70 0).toInt = D 0 := hm2.1.1.1
  have m1 : (g1 70 1).toInt = D 1 := hm2.1.1.2.1
  have m2 : (g1 70 2).toInt = D 2 := hm2.1.1.2.2
  have hd : s_DB D := s_DB_of hI hm hb (by rw [← r70]; exact h4)
  unfold Q_f_slack at q1
  unfold Q_g_slack at q2
  have k1 := q1 u D hu hl hc hb hv.1 (t_D_sail hI hb hm) hd
  omega
theorem t_S_worth {B1 : Int32} {x1 x2 : Int32} (e0 : (g2 0 0).toInt = (g1 0 0).toInt) (hI : t_I sh gi gr) (hD : t_DR sh.length gi gl gr) (f1 : t_F w1 gi gl gr g1 l1 r1) (h70 : t_nc w1 70 = true) (h4 : 1 ≤ (g1 70 4).toInt) (hN1 : (g1 69 46).toInt = -1) (q1 : Q_f_worth gi gl gr B1 x1 g1 l1 r1) (q2 : Q_g_worth g1 l1 r1 B1 x2 g2 l2 r2) : (g2 0 0).toInt = (g2 69 2).toInt := by
  obtain ⟨u, hu, D, hb, hv, hl, hc, hm⟩ := hD.1
  have r70 : g1 70 = gi 70 := t_F_nc f1 h70 (by decide)
  have hm2 : t_ME 0 g1 D := by unfold t_ME; rw [r70]; exact hm
  have m0 : (g1 70 0).toInt = D 0 := hm2.1.1.1
  have m1 : (g1 70 1).toInt = D 1 := hm2.1.1.2.1
  have m2 : (g1 70 2).toInt = D 2 := hm2.1.1.2.2
  have hd : s_DB D := s_DB_of hI hm hb (by rw [← r70]; exact h4)
  unfold Q_f_worth at q1
  unfold Q_g_worth at q2
  have k1 := q1 u D hu hl hc hb hv.1 (t_D_sail hI hb hm) hd
  have k2 := q2 D hm2 hb hd hN1
  by_cases hin : 0 ≤ B1.toInt ∧ B1.toInt < D 1
  · by_cases hy : s_LS (s_PD D (D 4)) 0 0 0 0 < 1000000000
    · have h5 := (k1.2 hin).1 hy
      have h6 := (k2.2 hin).1 hy
      omega
    · have h5 := (k1.2 hin).2 hy
      have h6 := (k2.2 hin).2 hy
      omega
  · have h5 := k1.1 hin
    have h6 := k2.1 hin
    omega
theorem t_S_opened  {x1 x2 : Int32} (e0 : (g2 0 0).toInt = (g1 0 0).toInt) (hI : t_I sh gi gr) (hD : t_DR sh.length gi gl gr) (hK : t_KQ gi) (f1 : t_F w1 gi gl gr g1 l1 r1) (h70 : t_nc w1 70 = true) (h4 : 1 ≤ (g1 70 4).toInt) (hN1 : (g1 69 46).toInt = -1) (q1 : Q_f_opened gi gl gr x1 g1 l1 r1) (q2 : Q_g_opened g1 l1 r1 x2 g2 l2 r2) : (g2 0 0).toInt = (g2 69 2).toInt := by
  obtain ⟨u, D, hu, hl, hc, hb, hv, hsl, hd, htk, hm2⟩ := t_P_h hI hD hK f1 h70 h4
  unfold Q_f_opened at q1
  unfold Q_g_opened at q2
  have k1 := q1 u D hu hl hc hb hv hsl hd htk
  have k2 := q2 D hm2 hb hd hN1 htk
  by_cases hy : s_LS (s_PD D (D 4)) 0 0 0 0 < 1000000000
  · have h5 := k1.1 hy
    have h6 := k2.1 hy
    omega
  · have h5 := k1.2 hy
    have h6 := k2.2 hy
    omega
theorem t_S_reading {B1 : Int32} {B2 : Int32} {x1 x2 : Int32} (e0 : (g2 0 0).toInt = (g1 0 0).toInt) (hA : x1 = x2) (hG : t_RG gi) (q1 : Q_f_reading gi gl gr B1 B2 x1 g1 l1 r1) (q2 : Q_g_reading g1 l1 r1 B1 B2 x2 g2 l2 r2) : (g2 0 0).toInt = (g2 69 2).toInt := by
  subst hA
  obtain ⟨L, a, b, c⟩ := hG
  unfold Q_f_reading at q1
  unfold Q_g_reading at q2
  have k1 := q1 L a c
  omega
theorem t_S_planAt {B1 : Int32} {B2 : Int32} {x1 x2 : Int32} (e0 : (g2 0 0).toInt = (g1 0 0).toInt) (hG : t_PQ gi) (f1 : t_F w1 gi gl gr g1 l1 r1) (h3 : t_pg3 w1 = true) (q1 : Q_f_planAt gi gl gr B1 B2 x1 g1 l1 r1) (q2 : Q_g_planAt g1 l1 r1 B1 B2 x2 g2 l2 r2) : (g2 0 0).toInt = (g2 69 2).toInt := by
  obtain ⟨L, a, b, c⟩ := hG
  unfold Q_f_planAt at q1
  unfold Q_g_planAt at q2
  have k1 := q1 L a c
  have k2 := q2 L (b.fr f1 h3) c
  omega
theorem t_S_code {B1 : Int32} {B2 : Int32} {B3 : Int32} {x1 x2 : Int32} (e0 : (g2 0 0).toInt = (g1 0 0).toInt) (h : t_CC gi gl) (q1 : Q_f_code gi gl gr B1 B2 B3 x1 g1 l1 r1) (q2 : Q_g_code g1 l1 r1 B1 B2 B3 x2 g2 l2 r2) : (g2 0 0).toInt = (g2 69 2).toInt := by
  unfold Q_f_code at q1
  unfold Q_g_code at q2
  have k1 := q1 h.1
  by_cases hin : 1 ≤ B1.toInt ∧ B1.toInt ≤ 4 ∧ 1 ≤ B2.toInt ∧ B2.toInt ≤ 4 ∧ 0 ≤ B3.toInt ∧ B3.toInt ≤ 9
  · by_cases hy : s_X (s_ch B3.toInt) (s_cE B2.toNatClampNeg) B1.toNatClampNeg [] 0 = none
    · have h5 := (k1.2 hin).1 hy
      have h6 := (q2.2 hin).1 hy
      omega
    · have h5 := (k1.2 hin).2 hy
      have h6 := (q2.2 hin).2 hy
      omega
  · have h5 := k1.1 hin
    have h6 := q2.1 hin
    omega
theorem t_S_codeAt {B1 : Int32} {x1 x2 : Int64} (e0 : (g2 0 0).toInt = (g1 0 0).toInt) (h : t_CC gi gl) (f1 : t_F w1 gi gl gr g1 l1 r1) (hw : t_ceB w1 = true) (q1 : Q_f_codeAt gi gl gr B1 x1 g1 l1 r1) (q2 : Q_g_codeAt g1 l1 r1 B1 x2 g2 l2 r2) : (g2 0 0).toInt = (g2 69 2).toInt := by
  unfold Q_f_codeAt at q1
  unfold Q_g_codeAt at q2
  have e1 : (g1 69 40).toInt = (gi 22 6).toInt := by rw [(t_ce_fr f1 hw).1, ← h.2.1]
  omega
theorem t_S_kept {B1 : Int32} {x1 x2 : Int32} (e0 : (g2 0 0).toInt = (g1 0 0).toInt) (hT : (gi 45 15).toInt = (gi 69 74).toInt) (e74 : g1 69 74 = gi 69 74) (q1 : Q_f_kept gi gl gr B1 x1 g1 l1 r1) (q2 : Q_g_kept g1 l1 r1 B1 x2 g2 l2 r2) : (g2 0 0).toInt = (g2 69 2).toInt := by
  unfold Q_f_kept at q1
  unfold Q_g_kept at q2
  rw [e74] at q2
  omega
theorem t_S_odds {B1 : Int32} {B2 : Int32} {x1 x2 : Int32} (e0 : (g2 0 0).toInt = (g1 0 0).toInt) (hS : t_RnN sh.length gi gr) (f1 : t_F w1 gi gl gr g1 l1 r1) (h70 : t_nc w1 70 = true) (q1 : Q_f_odds gi gl gr B1 B2 x1 g1 l1 r1) (q2 : Q_g_odds g1 l1 r1 B1 B2 x2 g2 l2 r2) : (g2 0 0).toInt = (g2 69 2).toInt := by
  have r70 : g1 70 = gi 70 := t_F_nc f1 h70 (by decide)
  have h8 := t_RN_8 hS.1
  unfold Q_f_odds at q1
  unfold Q_g_odds at q2
  rw [r70] at q2
  by_cases hin : 0 ≤ B1.toInt ∧ B1.toInt ≤ 9999 ∧ 1 ≤ B2.toInt ∧ B2.toInt ≤ 20 ∧ B1.toInt + B2.toInt ≤ 10000
  · by_cases hr : gr 0 7 ≠ .null
    · have a := (q1.2 hin).2 hr
      have b := (q2.2 hin).2 (h8.mp hr)
      omega
    · have a := (q1.2 hin).1 hr
      have b := (q2.2 hin).1 (fun h => hr (h8.mpr h))
      omega
  · have a := q1.1 hin
    have b := q2.1 hin
    omega
theorem t_S_waits {B1 : Int32} {B2 : Int32} {x1 x2 : Int32} (e0 : (g2 0 0).toInt = (g1 0 0).toInt) (hS : t_RnN sh.length gi gr) (f1 : t_F w1 gi gl gr g1 l1 r1) (h70 : t_nc w1 70 = true) (q1 : Q_f_waits gi gl gr B1 B2 x1 g1 l1 r1) (q2 : Q_g_waits g1 l1 r1 B1 B2 x2 g2 l2 r2) : (g2 0 0).toInt = (g2 69 2).toInt := by
  have r70 : g1 70 = gi 70 := t_F_nc f1 h70 (by decide)
  have h8 := t_RN_8 hS.1
  unfold Q_f_waits at q1
  unfold Q_g_waits at q2
  rw [r70] at q2
  by_cases hin : 0 ≤ B1.toInt ∧ B1.toInt ≤ 9999 ∧ 1 ≤ B2.toInt ∧ B2.toInt ≤ 20 ∧ B1.toInt + B2.toInt ≤ 10000
  · by_cases hr : gr 0 7 ≠ .null
    · have a := (q1.2 hin).2 hr
      have b := (q2.2 hin).2 (h8.mp hr)
      omega
    · have a := (q1.2 hin).1 hr
      have b := (q2.2 hin).1 (fun h => hr (h8.mpr h))
      omega
  · have a := q1.1 hin
    have b := q2.1 hin
    omega
theorem t_S_keep {B1 : Int32} {x1 x2 : Int32} (e0 : (g2 0 0).toInt = (g1 0 0).toInt) (hS : t_RnN sh.length gi gr) (f1 : t_F w1 gi gl gr g1 l1 r1) (h70 : t_nc w1 70 = true) (hT : (gi 45 15).toInt = (gi 69 74).toInt) (e15 : (g2 45 15).toInt = (g1 45 15).toInt) (e74 : g1 69 74 = gi 69 74) (q1 : Q_f_keep gi gl gr B1 x1 g1 l1 r1) (q2 : Q_g_keep g1 l1 r1 B1 x2 g2 l2 r2) : ((g2 0 0).toInt = (g2 69 2).toInt) ∧ (g2 45 15).toInt = (g2 69 74).toInt := by
  have r70 : g1 70 = gi 70 := t_F_nc f1 h70 (by decide)
  have h8 := t_RN_8 hS.1
  unfold Q_f_keep at q1
  unfold Q_g_keep at q2
  rw [r70, e74] at q2
  by_cases hin : -1 ≤ B1.toInt ∧ B1.toInt ≤ 9999
  · by_cases hr : gr 0 7 ≠ .null
    · have a := (q1.2 hin).2 hr
      have b := (q2.2 hin).2 (h8.mp hr)
      exact ⟨by omega, by omega⟩
    · have a := (q1.2 hin).1 hr
      have b := (q2.2 hin).1 (fun h => hr (h8.mpr h))
      exact ⟨by omega, by omega⟩
  · have a := q1.1 hin
    have b := q2.1 hin
    exact ⟨by omega, by omega⟩
theorem t_S_write {B1 : Int32} {B2 : Int32} {B3 : Int64} {x1 x2 : Int32} (e0 : (g2 0 0).toInt = (g1 0 0).toInt) (hI : t_I sh gi gr) (hR : t_R gi gr) (f1 : t_F w1 gi gl gr g1 l1 r1) (h8 : t_ms w1 = true) (q1 : Q_f_write gi gl gr B1 B2 B3 x1 g1 l1 r1) (q2 : Q_g_write g1 l1 r1 B1 B2 B3 x2 g2 l2 r2) : (g2 0 0).toInt = (g2 69 2).toInt := by
  unfold Q_f_write at q1
  unfold Q_g_write at q2
  by_cases hin : 0 ≤ B1.toInt ∧ B1.toInt ≤ 3
  · have hg := t_gr1 hI.wf (i := B1) hin.1 hin.2
    have k1 := q1.2 _ _ hg.1 (t_gr0 hI.wf hg.2) hin
    have k2 := q2.2 hin
    have e := t_S_m73 hR f1 h8 hin
    rw [← e.1] at k2
    omega
  · have a := q1.1 hin
    have b := q2.1 hin
    omega
theorem t_S_read {B1 : Int32} {B2 : Int32} {x1 x2 : Int64} (e0 : (g2 0 0).toInt = (g1 0 0).toInt) (hI : t_I sh gi gr) (hR : t_R gi gr) (f1 : t_F w1 gi gl gr g1 l1 r1) (h8 : t_ms w1 = true) (q1 : Q_f_read gi gl gr B1 B2 x1 g1 l1 r1) (q2 : Q_g_read g1 l1 r1 B1 B2 x2 g2 l2 r2) : (g2 0 0).toInt = (g2 69 2).toInt := by
  unfold Q_f_read at q1
  unfold Q_g_read at q2
  by_cases hin : 0 ≤ B1.toInt ∧ B1.toInt ≤ 3
  · have hg := t_gr1 hI.wf (i := B1) hin.1 hin.2
    have k1 := q1.2 _ _ hg.1 (t_gr0 hI.wf hg.2) hin
    have k2 := q2.2 hin
    have e := t_S_m73 hR f1 h8 hin
    rw [← e.1] at k2
    omega
  · have a := q1.1 hin
    have b := q2.1 hin
    omega
theorem t_S_pour {B1 : Int32} {B2 : Int32} {B3 : Int32} {B4 : Int32} {B5 : Int32} {x1 x2 : Int32} (e0 : (g2 0 0).toInt = (g1 0 0).toInt) (hI : t_I sh gi gr) (hR : t_R gi gr) (f1 : t_F w1 gi gl gr g1 l1 r1) (h8 : t_ms w1 = true) (q1 : Q_f_pour gi gl gr B1 B2 B3 B4 B5 x1 g1 l1 r1) (q2 : Q_g_pour g1 l1 r1 B1 B2 B3 B4 B5 x2 g2 l2 r2) : (g2 0 0).toInt = (g2 69 2).toInt := by
  unfold Q_f_pour at q1
  unfold Q_g_pour at q2
  by_cases hin : (0 ≤ B1.toInt ∧ B1.toInt ≤ 3) ∧ (0 ≤ B3.toInt ∧ B3.toInt ≤ 3) ∧ (0 ≤ B2.toInt ∧ 0 ≤ B4.toInt ∧ 0 ≤ B5.toInt)
  · have hg := t_gr1 hI.wf (i := B1) hin.1.1 hin.1.2
    have hg3 := t_gr1 hI.wf (i := B3) hin.2.1.1 hin.2.1.2
    have k1 := q1.2 _ _ _ _ hg.1 hg3.1 (t_gr0 hI.wf hg.2) (t_gr0 hI.wf hg3.2) hin.1 hin.2.1 hin.2.2
    have k2 := q2.2 hin.1 hin.2.1 hin.2.2
    have e := t_S_m73 hR f1 h8 hin.1
    have e3 := t_S_m73 hR f1 h8 hin.2.1
    rw [← e.1, ← e.2, ← e3.1, ← e3.2] at k2
    omega
  · have a := q1.1 hin
    have b := q2.1 hin
    omega
theorem t_S_river {B1 : Int32} {x1 x2 : Int32} {J : Nat} (e0 : (g2 0 0).toInt = (g1 0 0).toInt) (hA : x1 = x2) (e5 : gi 0 5 = gi 69 10) (e10 : g1 69 10 = gi 69 10) (q1 : ((0 ≤ B1.toInt ∧ B1.toInt ≤ (gi 0 5).toInt) → (x1.toInt = -1 → (g1 0 0).toInt = 9) ∧ (x1.toInt ≠ -1 → (g1 0 0).toInt = 0)) ∧ (¬ (0 ≤ B1.toInt ∧ B1.toInt ≤ (gi 0 5).toInt) → (g1 0 0).toInt = 1)) (q2 : Q_g_river g1 l1 r1 J B1 x2 g2 l2 r2) : (g2 0 0).toInt = (g2 69 2).toInt := by
  subst hA
  unfold Q_g_river at q2
  rw [e10, ← e5] at q2
  omega
theorem t_S_rules {B1 : Int32} {x1 x2 : Int32} {J : Nat} (e0 : (g2 0 0).toInt = (g1 0 0).toInt) (hA : x1 = x2) (e5 : gi 0 5 = gi 69 10) (e10 : g1 69 10 = gi 69 10) (q1 : ((0 ≤ B1.toInt ∧ B1.toInt ≤ (gi 0 5).toInt ∧ B1.toInt ≤ 300) → (x1.toInt = -1 → (g1 0 0).toInt = 9) ∧ (x1.toInt ≠ -1 → (g1 0 0).toInt = 0)) ∧ (¬ (0 ≤ B1.toInt ∧ B1.toInt ≤ (gi 0 5).toInt ∧ B1.toInt ≤ 300) → (g1 0 0).toInt = 1)) (q2 : Q_g_rules g1 l1 r1 J B1 x2 g2 l2 r2) : (g2 0 0).toInt = (g2 69 2).toInt := by
  subst hA
  unfold Q_g_rules at q2
  rw [e10, ← e5] at q2
  omega
theorem t_L_status {x1 x2 : Int32} (hS : (gi 0 0).toInt = (gi 69 2).toInt ∧ (gi 45 15).toInt = (gi 69 74).toInt) (f1 : t_F w1 gi gl gr g1 l1 r1) (h2 : t_un w1 (69, 2) = true) (q1 : Q_d_status gi gl gr x1 g1 l1 r1) (q2 : Q_e_status g1 l1 r1 x2 g2 l2 r2) : x1 = x2 := by
  unfold Q_d_status at q1
  unfold Q_e_status at q2
  rw [(f1 69 2 (by decide) (t_un_ok h2)).1] at q2
  exact Int32.toInt_inj.mp (by omega)
noncomputable def t_ST (gi : Nat → Nat → Int32) : Prop := (gi 0 0).toInt = (gi 69 2).toInt ∧ (gi 45 15).toInt = (gi 69 74).toInt
theorem t_ST_of (h : t_ST gi) (f1 : t_F w1 gi gl gr g1 l1 r1) (f2 : t_F w2 g1 l1 r1 g2 l2 r2) (hw : (t_un w1 (45, 15) && (t_un w1 (69, 74) && (t_un w2 (45, 15) && t_un w2 (69, 74)))) = true) (hs : (g2 0 0).toInt = (g2 69 2).toInt) : t_ST g2 := by
  simp only [Bool.and_eq_true] at hw
  obtain ⟨a, b, c, d⟩ := hw
  refine ⟨hs, ?_⟩
  rw [(f2 45 15 (by decide) (t_un_ok c)).1, (f1 45 15 (by decide) (t_un_ok a)).1, (f2 69 74 (by decide) (t_un_ok d)).1, (f1 69 74 (by decide) (t_un_ok b)).1]
  exact h.2
/-- a call that has no STATUS -/
theorem t_ST_no (h : t_ST gi) (f1 : t_F w1 gi gl gr g1 l1 r1) (f2 : t_F w2 g1 l1 r1 g2 l2 r2) (hw : (t_un w1 (45, 15) && (t_un w1 (69, 74) && (t_un w2 (45, 15) && t_un w2 (69, 74)))) = true) (hw0 : (t_un w1 (0, 0) && (t_un w1 (69, 2) && (t_un w2 (0, 0) && t_un w2 (69, 2)))) = true) : t_ST g2 := by
  refine t_ST_of h f1 f2 hw ?_
  simp only [Bool.and_eq_true] at hw0
  obtain ⟨a, b, c, d⟩ := hw0
  rw [(f2 0 0 (by decide) (t_un_ok c)).1, (f1 0 0 (by decide) (t_un_ok a)).1, (f2 69 2 (by decide) (t_un_ok d)).1, (f1 69 2 (by decide) (t_un_ok b)).1]
  exact h.1
theorem t_ST_e0 (f2 : t_F w2 g1 l1 r1 g2 l2 r2) (hw : t_un w2 (0, 0) = true) : (g2 0 0).toInt = (g1 0 0).toInt := by rw [(f2 0 0 (by decide) (t_un_ok hw)).1]
end STS
theorem c_f_riverS {X : x_Ext} {d : Nat} {sh : List (Nat ⊕ (Nat × Nat))} {gi : Nat → Nat → Int32} {gl : Nat → Nat → Int64} {gr : Nat → Nat → Value} (hI : t_I sh gi gr) (hH : t_H sh) (ar1 : Int32) : x_Me X (d + 11) n_X11_river [.ref 0, .int ar1] (sh, gi, gl, gr) (fun v G1 => ∃ sh1 g l r x, G1 = (sh1, g, l, r) ∧ v = some (.int x) ∧ (((0 ≤ ar1.toInt ∧ ar1.toInt ≤ (gi 0 5).toInt) → (x.toInt = -1 → (g 0 0).toInt = 9) ∧ (x.toInt ≠ -1 → (g 0 0).toInt = 0)) ∧ (¬ (0 ≤ ar1.toInt ∧ ar1.toInt ≤ (gi 0 5).toInt) → (g 0 0).toInt = 1))) := by
  refine (c_f_river hI hH ar1).mono ?_
  rintro v G1 ⟨ext, g, l, r, rfl, -, -, -, -, -, x, rfl, q⟩
  exact ⟨_, g, l, r, x, rfl, rfl, q⟩
theorem c_f_rulesS {X : x_Ext} {d : Nat} {sh : List (Nat ⊕ (Nat × Nat))} {gi : Nat → Nat → Int32} {gl : Nat → Nat → Int64} {gr : Nat → Nat → Value} (hI : t_I sh gi gr) (hH : t_H sh) (ar1 : Int32) : x_Me X (d + 70) n_X11_rules [.ref 0, .int ar1] (sh, gi, gl, gr) (fun v G1 => ∃ sh1 g l r x, G1 = (sh1, g, l, r) ∧ v = some (.int x) ∧ (((0 ≤ ar1.toInt ∧ ar1.toInt ≤ (gi 0 5).toInt ∧ ar1.toInt ≤ 300) → (x.toInt = -1 → (g 0 0).toInt = 9) ∧ (x.toInt ≠ -1 → (g 0 0).toInt = 0)) ∧ (¬ (0 ≤ ar1.toInt ∧ ar1.toInt ≤ (gi 0 5).toInt ∧ ar1.toInt ≤ 300) → (g 0 0).toInt = 1))) := by
  refine (c_f_rules hI hH ar1).mono ?_
  rintro v G1 ⟨ext, g, l, r, rfl, -, -, -, -, -, x, rfl, q⟩
  exact ⟨_, g, l, r, x, rfl, rfl, q⟩
noncomputable def t_LZ (c : Nat) (sh : List (Nat ⊕ (Nat × Nat))) (gi : Nat → Nat → Int32) (gl : Nat → Nat → Int64) (gr : Nat → Nat → Value) : Prop := t_LD c sh gi gl gr ∧ ((gi 69 46).toInt = -1 ∧ t_KQ gi ∧ t_PQ gi ∧ t_RG gi ∧ t_RnN sh.length gi gr ∧ t_CC gi gl ∧ t_ST gi)
theorem W1_Z {sh : List (Nat ⊕ (Nat × Nat))} {gi : Nat → Nat → Int32} {gl : Nat → Nat → Int64} {gr : Nat → Nat → Value} (hR : x_R W1 (sh, gi, gl, gr)) : (gi 69 46).toInt = -1 ∧ t_KQ gi ∧ t_PQ gi ∧ t_RG gi ∧ t_RnN sh.length gi gr ∧ t_CC gi gl ∧ t_ST gi := by
  have h0 : gi 0 0 = x_cI w1_c0 0 := ((x_gc_R hR (c := w1_c0) rfl).2.2.2 _ (by decide)).1
  have h2 : gi 69 2 = x_cI w1_c69 2 := ((x_gc_R hR (c := w1_c69) rfl).2.2.2 _ (by decide)).1
  have h15 : gi 45 15 = x_cI w1_c45 15 := ((x_gc_R hR (c := w1_c45) rfl).2.2.2 _ (by decide)).1
  have h74 : gi 69 74 = x_cI w1_c69 74 := ((x_gc_R hR (c := w1_c69) rfl).2.2.2 _ (by decide)).1
  have hp := W1_P hR
  refine ⟨hp.1, hp.2.1, hp.2.2, W1_Nr hR, W1_No hR, W1_Nc hR, ?_, ?_⟩
  · rw [h0, h2]; decide +kernel
  · rw [h15, h74]; decide +kernel
