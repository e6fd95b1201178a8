/-! ===== printed by riv.py: what takes a TOKEN ===== -/
noncomputable def wl_s_isName : List (Nat × Nat) := []
noncomputable def Q_s_isName (gi : Nat → Nat → Int32) (gl : Nat → Nat → Int64) (gr : Nat → Nat → Value) (ar0 : Nat) : Int32 → (Nat → Nat → Int32) → (Nat → Nat → Int64) → (Nat → Nat → Value) → Prop := fun (v : Int32) (gi2 : Nat → Nat → Int32) (gl2 : Nat → Nat → Int64) (gr2 : Nat → Nat → Value) => ∀ (b : Nat → Int32) (n q : Nat), t_TC b n q gi gl gr ar0 → (v.toInt = 1 ↔ s_isN b n q)
theorem c_s_isName {X : x_Ext} {d : Nat} {sh : List (Nat ⊕ (Nat × Nat))} {gi : Nat → Nat → Int32} {gl : Nat → Nat → Int64} {gr : Nat → Nat → Value} (hI : t_I sh gi gr) (ar0 : Nat) (p_a0 : t_Tk sh gr ar0) : x_Me X (d + 1) n_X9_isName [.ref ar0] (sh, gi, gl, gr) (t_PI wl_s_isName sh gi gl gr 0 1 (Q_s_isName gi gl gr ar0)) := by
  have hX : t_X wl_s_isName sh gi gl gr gi gl gr := t_X.rf
  refine me_i f_X9_isName p_a0.1 rfl rfl rfl ?_
  refine ev_loc f_X9_isName (nx := 1) rfl rfl rfl rfl ?_
  refine ev_getI f_X9_isName (nx := 4) rfl p_a0.1 rfl rfl rfl ?_
  refine ev_if f_X9_isName (t1 := 7) (t2 := 27) rfl rfl rfl (fun h1 => ?_) (fun h1 => ?_)
  · have u2 : (gi ar0 3).toInt ≤ 0 := t_equ h1 (by decide : (0:Int32).toInt ≤ (0:Int))
    have l3 : 0 ≤ (gi ar0 3).toInt := t_eql h1 (by decide : (0:Int) ≤ (0:Int32).toInt)
    refine ev_loc f_X9_isName (nx := 8) rfl rfl rfl rfl ?_
    have k4 := hI.2.2.2.1.2.2.2.2.2 ar0 p_a0.1
    obtain ⟨v4, e4⟩ : ∃ v, gr ar0 7 = v := ⟨_, rfl⟩
    rw [e4] at k4
    refine ev_getR f_X9_isName (nx := 11) rfl p_a0.1 rfl rfl e4 (t_KwR k4) rfl ?_
    refine ev_nul f_X9_isName (t1 := 14) (t2 := 27) rfl rfl rfl (t_knw k4) (fun h5 => ?_) (fun h5 => ?_)
    · refine ev_loc f_X9_isName (nx := 15) rfl rfl rfl rfl ?_
      refine ev_getI f_X9_isName (nx := 18) rfl p_a0.1 rfl rfl rfl ?_
      refine ev_bp f_X9_isName (nx := 20) (v := 8) rfl (by decide) rfl ?_
      refine ev_if f_X9_isName (t1 := 27) (t2 := 23) rfl rfl rfl (fun h6 => ?_) (fun h6 => ?_)
      · have l7 : 9 ≤ (gi ar0 5).toInt := t_ltl h6 (by decide : (8:Int) ≤ (8:Int32).toInt) rfl
        refine ev_ic f_X9_isName (nx := 28) (v := 0) rfl (by decide) rfl ?_
        exact ev_ret f_X9_isName rfl rfl rfl ⟨_, _, _, rfl, hI, hX, ⟨_, rfl, (by decide : (0:Int) ≤ (0:Int32).toInt), (Int.le_trans (by decide : (0:Int32).toInt ≤ (0:Int)) (by decide : (0:Int) ≤ 1)), (show ∀ (b : Nat → Int32) (n q : Nat), t_TC b n q gi gl gr ar0 → ((0 : Int) = 1 ↔ s_isN b n q) from (fun b n q h => ⟨fun hh => absurd hh (by decide), fun hh => absurd ((h.isN).mpr hh) (by rintro ⟨ha, hb⟩; omega)⟩))⟩⟩
      · have u8 : (gi ar0 5).toInt ≤ 8 := t_leu (t_nlt h6) (by decide : (8:Int32).toInt ≤ (8:Int))
        refine ev_ic f_X9_isName (nx := 24) (v := 1) rfl (by decide) rfl ?_
        refine ev_jmp f_X9_isName (nx := 28) rfl rfl rfl ?_
        exact ev_ret f_X9_isName rfl rfl rfl ⟨_, _, _, rfl, hI, hX, ⟨_, rfl, (Int.le_trans (by decide : (0:Int) ≤ 1) (by decide : (1:Int) ≤ (1:Int32).toInt)), (by decide : (1:Int32).toInt ≤ (1:Int)), (show ∀ (b : Nat → Int32) (n q : Nat), t_TC b n q gi gl gr ar0 → ((1 : Int) = 1 ↔ s_isN b n q) from (fun b n q h => ⟨fun _ => (h.isN).mp ⟨by omega, e4.trans h5, by omega⟩, fun _ => rfl⟩))⟩⟩
    · refine ev_ic f_X9_isName (nx := 28) (v := 0) rfl (by decide) rfl ?_
      exact ev_ret f_X9_isName rfl rfl rfl ⟨_, _, _, rfl, hI, hX, ⟨_, rfl, (by decide : (0:Int) ≤ (0:Int32).toInt), (Int.le_trans (by decide : (0:Int32).toInt ≤ (0:Int)) (by decide : (0:Int) ≤ 1)), (show ∀ (b : Nat → Int32) (n q : Nat), t_TC b n q gi gl gr ar0 → ((0 : Int) = 1 ↔ s_isN b n q) from (fun b n q h => ⟨fun hh => absurd hh (by decide), fun hh => absurd ((h.isN).mpr hh) (by rintro ⟨ha, hb⟩; exact h5 (e4.symm.trans hb.1))⟩))⟩⟩
  · have r9 : (gi ar0 3).toInt ≠ 0 := fun e => h1 (Int32.toInt_inj.mp (e.trans (by decide : (0:Int) = (0 : Int32).toInt)))
    refine ev_ic f_X9_isName (nx := 28) (v := 0) rfl (by decide) rfl ?_
    exact ev_ret f_X9_isName rfl rfl rfl ⟨_, _, _, rfl, hI, hX, ⟨_, rfl, (by decide : (0:Int) ≤ (0:Int32).toInt), (Int.le_trans (by decide : (0:Int32).toInt ≤ (0:Int)) (by decide : (0:Int) ≤ 1)), (show ∀ (b : Nat → Int32) (n q : Nat), t_TC b n q gi gl gr ar0 → ((0 : Int) = 1 ↔ s_isN b n q) from (fun b n q h => ⟨fun hh => absurd hh (by decide), fun hh => absurd ((h.isN).mpr hh) (by rintro ⟨ha, hb⟩; omega)⟩))⟩⟩
noncomputable def wl_s_isSignOf : List (Nat × Nat) := []
noncomputable def Q_s_isSignOf (gi : Nat → Nat → Int32) (gl : Nat → Nat → Int64) (gr : Nat → Nat → Value) (ar0 : Nat) (ar1 : Int32) : Int32 → (Nat → Nat → Int32) → (Nat → Nat → Int64) → (Nat → Nat → Value) → Prop := fun (v : Int32) (gi2 : Nat → Nat → Int32) (gl2 : Nat → Nat → Int64) (gr2 : Nat → Nat → Value) => ∀ (b : Nat → Int32) (n q : Nat), t_TC b n q gi gl gr ar0 → (v.toInt = 1 ↔ s_isS b n q ar1.toInt)
theorem c_s_isSignOf {X : x_Ext} {d : Nat} {sh : List (Nat ⊕ (Nat × Nat))} {gi : Nat → Nat → Int32} {gl : Nat → Nat → Int64} {gr : Nat → Nat → Value} (hI : t_I sh gi gr) (ar0 : Nat) (p_a0 : t_Tk sh gr ar0) (ar1 : Int32) : x_Me X (d + 1) n_X9_isSignOf [.ref ar0, .int ar1] (sh, gi, gl, gr) (t_PI wl_s_isSignOf sh gi gl gr 0 1 (Q_s_isSignOf gi gl gr ar0 ar1)) := by
  have hX : t_X wl_s_isSignOf sh gi gl gr gi gl gr := t_X.rf
  refine me_i f_X9_isSignOf p_a0.1 rfl rfl rfl ?_
  refine ev_loc f_X9_isSignOf (nx := 1) rfl rfl rfl rfl ?_
  refine ev_getI f_X9_isSignOf (nx := 4) rfl p_a0.1 rfl rfl rfl ?_
  refine ev_ic f_X9_isSignOf (nx := 5) (v := 2) rfl (by decide) rfl ?_
  refine ev_if f_X9_isSignOf (t1 := 8) (t2 := 20) rfl rfl rfl (fun h1 => ?_) (fun h1 => ?_)
  · have u2 : (gi ar0 3).toInt ≤ 2 := t_equ h1 (by decide : (2:Int32).toInt ≤ (2:Int))
    have l3 : 2 ≤ (gi ar0 3).toInt := t_eql h1 (by decide : (2:Int) ≤ (2:Int32).toInt)
    refine ev_loc f_X9_isSignOf (nx := 9) rfl rfl rfl rfl ?_
    refine ev_getI f_X9_isSignOf (nx := 12) rfl p_a0.1 rfl rfl rfl ?_
    refine ev_loc f_X9_isSignOf (nx := 13) rfl rfl rfl rfl ?_
    refine ev_if f_X9_isSignOf (t1 := 16) (t2 := 20) rfl rfl rfl (fun h4 => ?_) (fun h4 => ?_)
    · have r5 : (gi ar0 9).toInt = ar1.toInt := t_eqi h4
      refine ev_ic f_X9_isSignOf (nx := 17) (v := 1) rfl (by decide) rfl ?_
      refine ev_jmp f_X9_isSignOf (nx := 21) rfl rfl rfl ?_
      exact ev_ret f_X9_isSignOf rfl rfl rfl ⟨_, _, _, rfl, hI, hX, ⟨_, rfl, (Int.le_trans (by decide : (0:Int) ≤ 1) (by decide : (1:Int) ≤ (1:Int32).toInt)), (by decide : (1:Int32).toInt ≤ (1:Int)), (show ∀ (b : Nat → Int32) (n q : Nat), t_TC b n q gi gl gr ar0 → ((1 : Int) = 1 ↔ s_isS b n q ar1.toInt) from (fun b n q h => ⟨fun _ => (h.isS).mp ⟨by omega, by omega⟩, fun _ => rfl⟩))⟩⟩
    · have r6 : (gi ar0 9).toInt ≠ ar1.toInt := t_nei h4
      refine ev_ic f_X9_isSignOf (nx := 21) (v := 0) rfl (by decide) rfl ?_
      exact ev_ret f_X9_isSignOf rfl rfl rfl ⟨_, _, _, rfl, hI, hX, ⟨_, rfl, (by decide : (0:Int) ≤ (0:Int32).toInt), (Int.le_trans (by decide : (0:Int32).toInt ≤ (0:Int)) (by decide : (0:Int) ≤ 1)), (show ∀ (b : Nat → Int32) (n q : Nat), t_TC b n q gi gl gr ar0 → ((0 : Int) = 1 ↔ s_isS b n q ar1.toInt) from (fun b n q h => ⟨fun hh => absurd hh (by decide), fun hh => absurd ((h.isS).mpr hh) (by rintro ⟨ha, hb⟩; omega)⟩))⟩⟩
  · have r7 : (gi ar0 3).toInt ≠ 2 := fun e => h1 (Int32.toInt_inj.mp (e.trans (by decide : (2:Int) = (2 : Int32).toInt)))
    refine ev_ic f_X9_isSignOf (nx := 21) (v := 0) rfl (by decide) rfl ?_
    exact ev_ret f_X9_isSignOf rfl rfl rfl ⟨_, _, _, rfl, hI, hX, ⟨_, rfl, (by decide : (0:Int) ≤ (0:Int32).toInt), (Int.le_trans (by decide : (0:Int32).toInt ≤ (0:Int)) (by decide : (0:Int) ≤ 1)), (show ∀ (b : Nat → Int32) (n q : Nat), t_TC b n q gi gl gr ar0 → ((0 : Int) = 1 ↔ s_isS b n q ar1.toInt) from (fun b n q h => ⟨fun hh => absurd hh (by decide), fun hh => absurd ((h.isS).mpr hh) (by rintro ⟨ha, hb⟩; omega)⟩))⟩⟩
noncomputable def wl_s_isBlasts : List (Nat × Nat) := []
noncomputable def Q_s_isBlasts (gi : Nat → Nat → Int32) (gl : Nat → Nat → Int64) (gr : Nat → Nat → Value) (ar0 : Nat) : Int32 → (Nat → Nat → Int32) → (Nat → Nat → Int64) → (Nat → Nat → Value) → Prop := fun (v : Int32) (gi2 : Nat → Nat → Int32) (gl2 : Nat → Nat → Int64) (gr2 : Nat → Nat → Value) => ∀ (b : Nat → Int32) (n q : Nat), t_TC b n q gi gl gr ar0 → (v.toInt = 1 ↔ s_isB b n q)
theorem c_s_isBlasts {X : x_Ext} {d : Nat} {sh : List (Nat ⊕ (Nat × Nat))} {gi : Nat → Nat → Int32} {gl : Nat → Nat → Int64} {gr : Nat → Nat → Value} (hI : t_I sh gi gr) (ar0 : Nat) (p_a0 : t_Tk sh gr ar0) : x_Me X (d + 1) n_X9_isBlasts [.ref ar0] (sh, gi, gl, gr) (t_PI wl_s_isBlasts sh gi gl gr 0 1 (Q_s_isBlasts gi gl gr ar0)) := by
  have hX : t_X wl_s_isBlasts sh gi gl gr gi gl gr := t_X.rf
  refine me_i f_X9_isBlasts p_a0.1 rfl rfl rfl ?_
  refine ev_loc f_X9_isBlasts (nx := 1) rfl rfl rfl rfl ?_
  refine ev_getI f_X9_isBlasts (nx := 4) rfl p_a0.1 rfl rfl rfl ?_
  refine ev_if f_X9_isBlasts (t1 := 7) (t2 := 16) rfl rfl rfl (fun h1 => ?_) (fun h1 => ?_)
  · have u2 : (gi ar0 3).toInt ≤ 0 := t_equ h1 (by decide : (0:Int32).toInt ≤ (0:Int))
    have l3 : 0 ≤ (gi ar0 3).toInt := t_eql h1 (by decide : (0:Int) ≤ (0:Int32).toInt)
    refine ev_loc f_X9_isBlasts (nx := 8) rfl rfl rfl rfl ?_
    refine ev_getI f_X9_isBlasts (nx := 11) rfl p_a0.1 rfl rfl rfl ?_
    refine ev_bp f_X9_isBlasts (nx := 13) (v := 6) rfl (by decide) rfl ?_
    refine ev_if f_X9_isBlasts (t1 := 18) (t2 := 16) rfl rfl rfl (fun h4 => ?_) (fun h4 => ?_)
    · have u5 : (gi ar0 5).toInt ≤ 6 := t_leu h4 (by decide : (6:Int32).toInt ≤ (6:Int))
      refine ev_loc f_X9_isBlasts (nx := 19) rfl rfl rfl rfl ?_
      refine ev_getI f_X9_isBlasts (nx := 22) rfl p_a0.1 rfl rfl rfl ?_
      obtain ⟨l6, u6⟩ := hI.b p_a0.1 (t_bdK rfl : t_bd 8 4 = some (0, 900))
      refine ev_loc f_X9_isBlasts (nx := 23) (lo' := [(1, .int (gi ar0 4)), (0, .ref ar0)]) rfl rfl rfl rfl ?_
      have L7 : ∀ (m7 : Nat) (y7_1 : Int32), 0 ≤ y7_1.toInt → y7_1.toInt ≤ 900 → (∀ (b : Nat → Int32) (n q : Nat), t_TC b n q gi gl gr ar0 → t_BL b n q y7_1) → (900 - y7_1.toInt).toNat = m7 → x_Ev X (d + 1) n_X9_isBlasts 23 [(1, .int y7_1), (0, .ref ar0)] [] (sh, gi, gl, gr) (t_PI wl_s_isBlasts sh gi gl gr 0 1 (Q_s_isBlasts gi gl gr ar0)) := by
        intro m7
        induction m7 using Nat.strongRecOn with
        | _ m7 ih7 =>
        intro y7_1 l7_1 u7_1 j7_0 hm7
        refine ev_loc f_X9_isBlasts (nx := 24) rfl rfl rfl rfl ?_
        refine ev_loc f_X9_isBlasts (nx := 25) rfl rfl rfl rfl ?_
        refine ev_getI f_X9_isBlasts (nx := 28) rfl p_a0.1 rfl rfl rfl ?_
        obtain ⟨l8, u8⟩ := hI.b p_a0.1 (t_bdK rfl : t_bd 8 2 = some (0, 900))
        refine ev_if f_X9_isBlasts (t1 := 61) (t2 := 31) rfl rfl rfl (fun h9 => ?_) (fun h9 => ?_)
        · have r10 : (gi ar0 2).toInt ≤ y7_1.toInt := Int32.le_iff_toInt_le.mp h9
          refine ev_ic f_X9_isBlasts (nx := 62) (v := 1) rfl (by decide) rfl ?_
          exact ev_ret f_X9_isBlasts rfl rfl rfl ⟨_, _, _, rfl, hI, hX, ⟨_, rfl, (Int.le_trans (by decide : (0:Int) ≤ 1) (by decide : (1:Int) ≤ (1:Int32).toInt)), (by decide : (1:Int32).toInt ≤ (1:Int)), (show ∀ (b : Nat → Int32) (n q : Nat), t_TC b n q gi gl gr ar0 → ((1 : Int) = 1 ↔ s_isB b n q) from (fun b n q h => ⟨fun _ => h.isB2 (j7_0 b n q h) (by omega), fun _ => rfl⟩))⟩⟩
        · have r11 : y7_1.toInt < (gi ar0 2).toInt := Int32.lt_iff_toInt_lt.mp (t_nle h9)
          have u12 : y7_1.toInt ≤ 899 := t_ltu (t_nle h9) u8 rfl
          have l13 : 1 ≤ (gi ar0 2).toInt := t_ltl (t_nle h9) l7_1 rfl
          refine ev_loc f_X9_isBlasts (nx := 32) rfl rfl rfl rfl ?_
          have e14 := p_a0.2
          refine ev_getR f_X9_isBlasts (nx := 35) rfl p_a0.1 rfl rfl e14 rfl rfl ?_
          refine ev_loc f_X9_isBlasts (nx := 36) rfl rfl rfl rfl ?_
          refine ev_baldT f_X9_isBlasts (nx := 37) rfl (hI.wf.s rfl) rfl l7_1 (by decide) u12 (by decide) rfl (fun w15 e15 => ?_)
          refine ev_bp f_X9_isBlasts (nx := 39) (v := 108) rfl (by decide) rfl ?_
          refine ev_if f_X9_isBlasts (t1 := 55) (t2 := 42) rfl rfl rfl (fun h16 => ?_) (fun h16 => ?_)
          · have u17 : w15.toInt ≤ 108 := t_equ h16 (by decide : (108:Int32).toInt ≤ (108:Int))
            have l18 : 108 ≤ w15.toInt := t_eql h16 (by decide : (108:Int) ≤ (108:Int32).toInt)
            refine ev_incR f_X9_isBlasts (nx := 58) (c := 1) (l := 1) (u := 900) rfl rfl (by decide) (by decide) l7_1 u12 rfl rfl (by decide) (by decide) rfl (fun z19 e19 l19 u19 => ?_)
            refine ev_jmp f_X9_isBlasts (nx := 23) rfl rfl rfl ?_
            refine ev_sub (lo := [(1, .int z19), (0, .ref ar0)]) rfl (t_sc rfl (t_sc rfl t_sn)) ?_
            exact ih7 _ (by omega) (z19) (Int.le_trans (by decide : (0:Int) ≤ 1) l19) u19 (fun b n q h => h.isB1 (i := y7_1) (j7_0 b n q h) (by omega) e15 (by omega) (by omega)) rfl
          · have r20 : w15.toInt ≠ 108 := fun e => h16 (Int32.toInt_inj.mp (e.trans (by decide : (108:Int) = (108 : Int32).toInt)))
            refine ev_loc f_X9_isBlasts (nx := 43) rfl rfl rfl rfl ?_
            refine ev_getR f_X9_isBlasts (nx := 46) (v := .ref 2) rfl p_a0.1 rfl rfl e14 rfl rfl ?_
            refine ev_loc f_X9_isBlasts (nx := 47) rfl rfl rfl rfl ?_
            refine ev_baldT f_X9_isBlasts (nx := 48) rfl (hI.wf.s rfl) rfl l7_1 (by decide) u12 (by decide) rfl (fun w21 e21 => ?_)
            rw [e21.trans e15.symm]
            refine ev_bp f_X9_isBlasts (nx := 50) (v := 115) rfl (by decide) rfl ?_
            refine ev_if f_X9_isBlasts (t1 := 55) (t2 := 53) rfl rfl rfl (fun h22 => ?_) (fun h22 => ?_)
            · have u23 : w15.toInt ≤ 115 := t_equ h22 (by decide : (115:Int32).toInt ≤ (115:Int))
              have l24 : 115 ≤ w15.toInt := t_eql h22 (by decide : (115:Int) ≤ (115:Int32).toInt)
              refine ev_incR f_X9_isBlasts (nx := 58) (c := 1) (l := 1) (u := 900) rfl rfl (by decide) (by decide) l7_1 u12 rfl rfl (by decide) (by decide) rfl (fun z25 e25 l25 u25 => ?_)
              refine ev_jmp f_X9_isBlasts (nx := 23) rfl rfl rfl ?_
              refine ev_sub (lo := [(1, .int z25), (0, .ref ar0)]) rfl (t_sc rfl (t_sc rfl t_sn)) ?_
              exact ih7 _ (by omega) (z25) (Int.le_trans (by decide : (0:Int) ≤ 1) l25) u25 (fun b n q h => h.isB1 (i := y7_1) (j7_0 b n q h) (by omega) e15 (by omega) (by omega)) rfl
            · have r26 : w15.toInt ≠ 115 := fun e => h22 (Int32.toInt_inj.mp (e.trans (by decide : (115:Int) = (115 : Int32).toInt)))
              refine ev_ic f_X9_isBlasts (nx := 54) (v := 0) rfl (by decide) rfl ?_
              exact ev_ret f_X9_isBlasts rfl rfl rfl ⟨_, _, _, rfl, hI, hX, ⟨_, rfl, (by decide : (0:Int) ≤ (0:Int32).toInt), (Int.le_trans (by decide : (0:Int32).toInt ≤ (0:Int)) (by decide : (0:Int) ≤ 1)), (show ∀ (b : Nat → Int32) (n q : Nat), t_TC b n q gi gl gr ar0 → ((0 : Int) = 1 ↔ s_isB b n q) from (fun b n q h => ⟨fun hh => absurd hh (by decide), fun hh => h.isB4 (i := y7_1) (j7_0 b n q h) hh (by omega) e15 (by omega)⟩))⟩⟩
      refine ev_sub (lo := [(1, .int (gi ar0 4)), (0, .ref ar0)]) rfl (t_sc rfl (t_sc rfl t_sn)) ?_
      exact L7 _ ((gi ar0 4)) l6 u6 (fun b n q h => h.isB0 (by omega) (by omega)) rfl
    · have l27 : 7 ≤ (gi ar0 5).toInt := t_ltl (t_nle h4) (by decide : (6:Int) ≤ (6:Int32).toInt) rfl
      refine ev_ic f_X9_isBlasts (nx := 17) (v := 0) rfl (by decide) rfl ?_
      exact ev_ret f_X9_isBlasts rfl rfl rfl ⟨_, _, _, rfl, hI, hX, ⟨_, rfl, (by decide : (0:Int) ≤ (0:Int32).toInt), (Int.le_trans (by decide : (0:Int32).toInt ≤ (0:Int)) (by decide : (0:Int) ≤ 1)), (show ∀ (b : Nat → Int32) (n q : Nat), t_TC b n q gi gl gr ar0 → ((0 : Int) = 1 ↔ s_isB b n q) from (fun b n q h => ⟨fun hh => absurd hh (by decide), fun hh => h.isB3 hh (by omega)⟩))⟩⟩
  · have r28 : (gi ar0 3).toInt ≠ 0 := fun e => h1 (Int32.toInt_inj.mp (e.trans (by decide : (0:Int) = (0 : Int32).toInt)))
    refine ev_ic f_X9_isBlasts (nx := 17) (v := 0) rfl (by decide) rfl ?_
    exact ev_ret f_X9_isBlasts rfl rfl rfl ⟨_, _, _, rfl, hI, hX, ⟨_, rfl, (by decide : (0:Int) ≤ (0:Int32).toInt), (Int.le_trans (by decide : (0:Int32).toInt ≤ (0:Int)) (by decide : (0:Int) ≤ 1)), (show ∀ (b : Nat → Int32) (n q : Nat), t_TC b n q gi gl gr ar0 → ((0 : Int) = 1 ↔ s_isB b n q) from (fun b n q h => ⟨fun hh => absurd hh (by decide), fun hh => h.isB3 hh (by omega)⟩))⟩⟩
noncomputable def wl_s_refuse : List (Nat × Nat) := [(118, 10), (118, 11)]
noncomputable def Q_s_refuse (gi : Nat → Nat → Int32) (gl : Nat → Nat → Int64) (gr : Nat → Nat → Value) (ar0 : Nat) (ar1 : Int32) : Int32 → (Nat → Nat → Int32) → (Nat → Nat → Int64) → (Nat → Nat → Value) → Prop := fun (v : Int32) (gi2 : Nat → Nat → Int32) (gl2 : Nat → Nat → Int64) (gr2 : Nat → Nat → Value) => (∀ (b : Nat → Int32) (n q : Nat), t_TC b n q gi gl gr ar0 → t_FL gi2 ar0 (s_fk b n q ar1.toInt) (s_F b n q)) ∧ v.toInt = 0 ∧ t_on ar0 gi gl gr gi2 gl2 gr2
theorem c_s_refuse {X : x_Ext} {d : Nat} {sh : List (Nat ⊕ (Nat × Nat))} {gi : Nat → Nat → Int32} {gl : Nat → Nat → Int64} {gr : Nat → Nat → Value} (hI : t_I sh gi gr) (ar0 : Nat) (p_a0 : t_Tk sh gr ar0) (ar1 : Int32) (l_a1 : 2 ≤ ar1.toInt) (u_a1 : ar1.toInt ≤ 7) : x_Me X (d + 1) n_X9_refuseToken [.ref ar0, .int ar1] (sh, gi, gl, gr) (t_PI wl_s_refuse sh gi gl gr 0 0 (Q_s_refuse gi gl gr ar0 ar1)) := by
  have hX : t_X wl_s_refuse sh gi gl gr gi gl gr := t_X.rf
  refine me_i f_X9_refuseToken p_a0.1 rfl rfl rfl ?_
  refine ev_loc f_X9_refuseToken (nx := 1) rfl rfl rfl rfl ?_
  refine ev_loc f_X9_refuseToken (nx := 2) rfl rfl rfl rfl ?_
  refine ev_getI f_X9_refuseToken (nx := 5) rfl p_a0.1 rfl rfl rfl ?_
  refine ev_ic f_X9_refuseToken (nx := 6) (v := 4) rfl (by decide) rfl ?_
  refine ev_if f_X9_refuseToken (t1 := 9) (t2 := 13) rfl rfl rfl (fun h1 => ?_) (fun h1 => ?_)
  · have u2 : (gi ar0 3).toInt ≤ 4 := t_equ h1 (by decide : (4:Int32).toInt ≤ (4:Int))
    have l3 : 4 ≤ (gi ar0 3).toInt := t_eql h1 (by decide : (4:Int) ≤ (4:Int32).toInt)
    refine ev_ic f_X9_refuseToken (nx := 10) (v := 1) rfl (by decide) rfl ?_
    refine ev_jmp f_X9_refuseToken (nx := 14) rfl rfl rfl ?_
    refine ev_putIT f_X9_refuseToken (nx := 17) rfl p_a0.1 rfl rfl rfl (hI.put0 p_a0.1 rfl rfl) (hX.upI (t_inO hI.wf p_a0.1 (t_outO hI.wf p_a0.1 rfl) rfl)) (fun g4 e4 hI hX => ?_)
    refine ev_loc f_X9_refuseToken (nx := 18) rfl rfl rfl rfl ?_
    refine ev_loc f_X9_refuseToken (nx := 19) rfl rfl rfl rfl ?_
    refine ev_getI f_X9_refuseToken (nx := 22) rfl p_a0.1 rfl rfl rfl ?_
    obtain ⟨l5, u5⟩ := hI.b p_a0.1 (t_bdK rfl : t_bd 8 4 = some (0, 900))
    refine ev_putIT f_X9_refuseToken (nx := 25) rfl p_a0.1 rfl rfl rfl (hI.put0 p_a0.1 rfl rfl) (hX.upI (t_inO hI.wf p_a0.1 (t_outO hI.wf p_a0.1 rfl) rfl)) (fun g6 e6 hI hX => ?_)
    refine ev_ic f_X9_refuseToken (nx := 26) (v := 0) rfl (by decide) rfl ?_
    exact ev_ret f_X9_refuseToken rfl rfl rfl ⟨_, _, _, rfl, hI, hX, ⟨_, rfl, (by decide : (0:Int) ≤ (0:Int32).toInt), (by decide : (0:Int32).toInt ≤ (0:Int)), (show (∀ (b : Nat → Int32) (n q : Nat), t_TC b n q gi gl gr ar0 → t_FL g6 ar0 (s_fk b n q ar1.toInt) (s_F b n q)) ∧ (0 : Int) = 0 ∧ t_on ar0 gi gl gr g6 gl gr from ⟨fun b n q h => h.fl e4 e6 (Or.inl ⟨by omega, rfl⟩), rfl, (t_on.I (t_on.I t_on.rf e4) e6)⟩)⟩⟩
  · have r7 : (gi ar0 3).toInt ≠ 4 := fun e => h1 (Int32.toInt_inj.mp (e.trans (by decide : (4:Int) = (4 : Int32).toInt)))
    refine ev_loc f_X9_refuseToken (nx := 14) rfl rfl rfl rfl ?_
    refine ev_putIT f_X9_refuseToken (nx := 17) rfl p_a0.1 rfl rfl rfl (hI.put0 p_a0.1 rfl rfl) (hX.upI (t_inO hI.wf p_a0.1 (t_outO hI.wf p_a0.1 rfl) rfl)) (fun g8 e8 hI hX => ?_)
    refine ev_loc f_X9_refuseToken (nx := 18) rfl rfl rfl rfl ?_
    refine ev_loc f_X9_refuseToken (nx := 19) rfl rfl rfl rfl ?_
    refine ev_getI f_X9_refuseToken (nx := 22) rfl p_a0.1 rfl rfl rfl ?_
    obtain ⟨l9, u9⟩ := hI.b p_a0.1 (t_bdK rfl : t_bd 8 4 = some (0, 900))
    refine ev_putIT f_X9_refuseToken (nx := 25) rfl p_a0.1 rfl rfl rfl (hI.put0 p_a0.1 rfl rfl) (hX.upI (t_inO hI.wf p_a0.1 (t_outO hI.wf p_a0.1 rfl) rfl)) (fun g10 e10 hI hX => ?_)
    refine ev_ic f_X9_refuseToken (nx := 26) (v := 0) rfl (by decide) rfl ?_
    exact ev_ret f_X9_refuseToken rfl rfl rfl ⟨_, _, _, rfl, hI, hX, ⟨_, rfl, (by decide : (0:Int) ≤ (0:Int32).toInt), (by decide : (0:Int32).toInt ≤ (0:Int)), (show (∀ (b : Nat → Int32) (n q : Nat), t_TC b n q gi gl gr ar0 → t_FL g10 ar0 (s_fk b n q ar1.toInt) (s_F b n q)) ∧ (0 : Int) = 0 ∧ t_on ar0 gi gl gr g10 gl gr from ⟨fun b n q h => h.fl e8 e10 (Or.inr ⟨by omega, rfl⟩), rfl, (t_on.I (t_on.I t_on.rf e8) e10)⟩)⟩⟩
noncomputable def wl_s_takeCalls : List (Nat × Nat) := [(118, 2), (118, 3), (118, 4), (118, 5), (118, 6), (118, 7), (118, 8), (118, 9), (118, 10), (118, 11)]
noncomputable def Q_s_takeCalls (gi : Nat → Nat → Int32) (gl : Nat → Nat → Int64) (gr : Nat → Nat → Value) (ar0 : Nat) : Int32 → (Nat → Nat → Int32) → (Nat → Nat → Int64) → (Nat → Nat → Value) → Prop := fun (v : Int32) (gi2 : Nat → Nat → Int32) (gl2 : Nat → Nat → Int64) (gr2 : Nat → Nat → Value) => (∀ (b : Nat → Int32) (n q : Nat), t_TC b n q gi gl gr ar0 → (v.toInt = 1 ∧ s_W b n q = some 1 ∧ t_TC b n (s_E b n q) gi2 gl2 gr2 ar0 ∧ t_nf gi gi2 ar0) ∨ (v.toInt = 0 ∧ s_W b n q ≠ some 1 ∧ t_FL gi2 ar0 (s_fk b n q 2) (s_F b n q))) ∧ t_on ar0 gi gl gr gi2 gl2 gr2
theorem c_s_takeCalls {X : x_Ext} {d : Nat} {sh : List (Nat ⊕ (Nat × Nat))} {gi : Nat → Nat → Int32} {gl : Nat → Nat → Int64} {gr : Nat → Nat → Value} (hI : t_I sh gi gr) (ar0 : Nat) (p_a0 : t_Tk sh gr ar0) : x_Me X (d + 3) n_X9_takeKeyword [.ref ar0, .retAddr 1] (sh, gi, gl, gr) (t_PI wl_s_takeCalls sh gi gl gr 0 1 (Q_s_takeCalls gi gl gr ar0)) := by
  have hX : t_X wl_s_takeCalls sh gi gl gr gi gl gr := t_X.rf
  refine me_i f_X9_takeKeyword p_a0.1 rfl rfl rfl ?_
  refine ev_loc f_X9_takeKeyword (nx := 1) rfl rfl rfl rfl ?_
  have k1 := hI.2.2.2.1.2.2.2.2.2 ar0 p_a0.1
  obtain ⟨v1, e1⟩ : ∃ v, gr ar0 7 = v := ⟨_, rfl⟩
  rw [e1] at k1
  refine ev_getR f_X9_takeKeyword (nx := 4) rfl p_a0.1 rfl rfl e1 (t_KwR k1) rfl ?_
  refine ev_loc f_X9_takeKeyword (nx := 5) rfl rfl rfl rfl ?_
  refine ev_ack f_X9_takeKeyword (t1 := 14) (t2 := 8) rfl rfl rfl (t_knw k1) rfl (fun h2 => ?_) (fun h2 => ?_)
  · refine ev_loc f_X9_takeKeyword (nx := 15) rfl rfl rfl rfl ?_
    refine ev_qN f_X9_takeKeyword (nx := 18) (r := []) rfl rfl rfl rfl rfl rfl rfl (c_s_step hI (ar0) p_a0) rfl hX rfl (fun gi3 gl3 gr3 hI hX hC3 q3 => ?_)
    have q3 : (∀ (b : Nat → Int32) (n q : Nat), t_Sp b n q gi ar0 → t_TC b n q gi3 gl3 gr3 ar0) ∧ t_nf gi gi3 ar0 ∧ t_on ar0 gi gl gr gi3 gl3 gr3 := q3
    replace p_a0 := p_a0.ext hC3.2
    refine ev_ic f_X9_takeKeyword (nx := 19) (v := 1) rfl (by decide) rfl ?_
    exact ev_ret f_X9_takeKeyword rfl rfl rfl ⟨_, _, _, rfl, hI, hX, ⟨_, rfl, (Int.le_trans (by decide : (0:Int) ≤ 1) (by decide : (1:Int) ≤ (1:Int32).toInt)), (by decide : (1:Int32).toInt ≤ (1:Int)), (show (∀ (b : Nat → Int32) (n q : Nat), t_TC b n q gi gl gr ar0 → ((1 : Int) = 1 ∧ s_W b n q = some 1 ∧ t_TC b n (s_E b n q) gi3 gl3 gr3 ar0 ∧ t_nf gi gi3 ar0) ∨ ((1 : Int) = 0 ∧ s_W b n q ≠ some 1 ∧ t_FL gi3 ar0 (s_fk b n q 2) (s_F b n q))) ∧ t_on ar0 gi gl gr gi3 gl3 gr3 from ⟨fun b n q h => Or.inl ⟨rfl, h.kwT e1 h2, (q3.1 b n _ h.S), q3.2.1⟩, (t_on.tr t_on.rf q3.2.2)⟩)⟩⟩
  · refine ev_loc f_X9_takeKeyword (nx := 9) rfl rfl rfl rfl ?_
    refine ev_ic f_X9_takeKeyword (nx := 10) (v := 2) rfl (by decide) rfl ?_
    refine ev_qI f_X9_takeKeyword (nx := 13) (r := []) rfl rfl rfl rfl rfl rfl rfl (c_s_refuse hI (ar0) p_a0 (2) (by decide : (2:Int) ≤ (2:Int32).toInt) (Int.le_trans (by decide : (2:Int32).toInt ≤ (2:Int)) (by decide : (2:Int) ≤ 7))) rfl hX rfl (fun w4 gi4 gl4 gr4 l4 u4 hI hX hC4 q4 => ?_)
    have q4 : (∀ (b : Nat → Int32) (n q : Nat), t_TC b n q gi gl gr ar0 → t_FL gi4 ar0 (s_fk b n q 2) (s_F b n q)) ∧ w4.toInt = 0 ∧ t_on ar0 gi gl gr gi4 gl4 gr4 := q4
    replace p_a0 := p_a0.ext hC4.2
    exact ev_retZ f_X9_takeKeyword rfl l4 (Int.le_trans u4 (by decide : (0:Int) ≤ 1)) ⟨_, _, _, rfl, hI, hX, ⟨_, rfl, l4, (Int.le_trans u4 (by decide : (0:Int) ≤ 1)), (show (∀ (b : Nat → Int32) (n q : Nat), t_TC b n q gi gl gr ar0 → (w4.toInt = 1 ∧ s_W b n q = some 1 ∧ t_TC b n (s_E b n q) gi4 gl4 gr4 ar0 ∧ t_nf gi gi4 ar0) ∨ (w4.toInt = 0 ∧ s_W b n q ≠ some 1 ∧ t_FL gi4 ar0 (s_fk b n q 2) (s_F b n q))) ∧ t_on ar0 gi gl gr gi4 gl4 gr4 from ⟨fun b n q h => Or.inr ⟨q4.2.1, h.kwF e1 h2, (q4.1 b n q h)⟩, (t_on.tr t_on.rf q4.2.2)⟩)⟩⟩
noncomputable def wl_s_takeFrom : List (Nat × Nat) := [(118, 2), (118, 3), (118, 4), (118, 5), (118, 6), (118, 7), (118, 8), (118, 9), (118, 10), (118, 11)]
noncomputable def Q_s_takeFrom (gi : Nat → Nat → Int32) (gl : Nat → Nat → Int64) (gr : Nat → Nat → Value) (ar0 : Nat) : Int32 → (Nat → Nat → Int32) → (Nat → Nat → Int64) → (Nat → Nat → Value) → Prop := fun (v : Int32) (gi2 : Nat → Nat → Int32) (gl2 : Nat → Nat → Int64) (gr2 : Nat → Nat → Value) => (∀ (b : Nat → Int32) (n q : Nat), t_TC b n q gi gl gr ar0 → (v.toInt = 1 ∧ s_W b n q = some 4 ∧ t_TC b n (s_E b n q) gi2 gl2 gr2 ar0 ∧ t_nf gi gi2 ar0) ∨ (v.toInt = 0 ∧ s_W b n q ≠ some 4 ∧ t_FL gi2 ar0 (s_fk b n q 2) (s_F b n q))) ∧ t_on ar0 gi gl gr gi2 gl2 gr2
theorem c_s_takeFrom {X : x_Ext} {d : Nat} {sh : List (Nat ⊕ (Nat × Nat))} {gi : Nat → Nat → Int32} {gl : Nat → Nat → Int64} {gr : Nat → Nat → Value} (hI : t_I sh gi gr) (ar0 : Nat) (p_a0 : t_Tk sh gr ar0) : x_Me X (d + 3) n_X9_takeKeyword [.ref ar0, .retAddr 4] (sh, gi, gl, gr) (t_PI wl_s_takeFrom sh gi gl gr 0 1 (Q_s_takeFrom gi gl gr ar0)) := by
  have hX : t_X wl_s_takeFrom sh gi gl gr gi gl gr := t_X.rf
  refine me_i f_X9_takeKeyword p_a0.1 rfl rfl rfl ?_
  refine ev_loc f_X9_takeKeyword (nx := 1) rfl rfl rfl rfl ?_
  have k1 := hI.2.2.2.1.2.2.2.2.2 ar0 p_a0.1
  obtain ⟨v1, e1⟩ : ∃ v, gr ar0 7 = v := ⟨_, rfl⟩
  rw [e1] at k1
  refine ev_getR f_X9_takeKeyword (nx := 4) rfl p_a0.1 rfl rfl e1 (t_KwR k1) rfl ?_
  refine ev_loc f_X9_takeKeyword (nx := 5) rfl rfl rfl rfl ?_
  refine ev_ack f_X9_takeKeyword (t1 := 14) (t2 := 8) rfl rfl rfl (t_knw k1) rfl (fun h2 => ?_) (fun h2 => ?_)
  · refine ev_loc f_X9_takeKeyword (nx := 15) rfl rfl rfl rfl ?_
    refine ev_qN f_X9_takeKeyword (nx := 18) (r := []) rfl rfl rfl rfl rfl rfl rfl (c_s_step hI (ar0) p_a0) rfl hX rfl (fun gi3 gl3 gr3 hI hX hC3 q3 => ?_)
    have q3 : (∀ (b : Nat → Int32) (n q : Nat), t_Sp b n q gi ar0 → t_TC b n q gi3 gl3 gr3 ar0) ∧ t_nf gi gi3 ar0 ∧ t_on ar0 gi gl gr gi3 gl3 gr3 := q3
    replace p_a0 := p_a0.ext hC3.2
    refine ev_ic f_X9_takeKeyword (nx := 19) (v := 1) rfl (by decide) rfl ?_
    exact ev_ret f_X9_takeKeyword rfl rfl rfl ⟨_, _, _, rfl, hI, hX, ⟨_, rfl, (Int.le_trans (by decide : (0:Int) ≤ 1) (by decide : (1:Int) ≤ (1:Int32).toInt)), (by decide : (1:Int32).toInt ≤ (1:Int)), (show (∀ (b : Nat → Int32) (n q : Nat), t_TC b n q gi gl gr ar0 → ((1 : Int) = 1 ∧ s_W b n q = some 4 ∧ t_TC b n (s_E b n q) gi3 gl3 gr3 ar0 ∧ t_nf gi gi3 ar0) ∨ ((1 : Int) = 0 ∧ s_W b n q ≠ some 4 ∧ t_FL gi3 ar0 (s_fk b n q 2) (s_F b n q))) ∧ t_on ar0 gi gl gr gi3 gl3 gr3 from ⟨fun b n q h => Or.inl ⟨rfl, h.kwT e1 h2, (q3.1 b n _ h.S), q3.2.1⟩, (t_on.tr t_on.rf q3.2.2)⟩)⟩⟩
  · refine ev_loc f_X9_takeKeyword (nx := 9) rfl rfl rfl rfl ?_
    refine ev_ic f_X9_takeKeyword (nx := 10) (v := 2) rfl (by decide) rfl ?_
    refine ev_qI f_X9_takeKeyword (nx := 13) (r := []) rfl rfl rfl rfl rfl rfl rfl (c_s_refuse hI (ar0) p_a0 (2) (by decide : (2:Int) ≤ (2:Int32).toInt) (Int.le_trans (by decide : (2:Int32).toInt ≤ (2:Int)) (by decide : (2:Int) ≤ 7))) rfl hX rfl (fun w4 gi4 gl4 gr4 l4 u4 hI hX hC4 q4 => ?_)
    have q4 : (∀ (b : Nat → Int32) (n q : Nat), t_TC b n q gi gl gr ar0 → t_FL gi4 ar0 (s_fk b n q 2) (s_F b n q)) ∧ w4.toInt = 0 ∧ t_on ar0 gi gl gr gi4 gl4 gr4 := q4
    replace p_a0 := p_a0.ext hC4.2
    exact ev_retZ f_X9_takeKeyword rfl l4 (Int.le_trans u4 (by decide : (0:Int) ≤ 1)) ⟨_, _, _, rfl, hI, hX, ⟨_, rfl, l4, (Int.le_trans u4 (by decide : (0:Int) ≤ 1)), (show (∀ (b : Nat → Int32) (n q : Nat), t_TC b n q gi gl gr ar0 → (w4.toInt = 1 ∧ s_W b n q = some 4 ∧ t_TC b n (s_E b n q) gi4 gl4 gr4 ar0 ∧ t_nf gi gi4 ar0) ∨ (w4.toInt = 0 ∧ s_W b n q ≠ some 4 ∧ t_FL gi4 ar0 (s_fk b n q 2) (s_F b n q))) ∧ t_on ar0 gi gl gr gi4 gl4 gr4 from ⟨fun b n q h => Or.inr ⟨q4.2.1, h.kwF e1 h2, (q4.1 b n q h)⟩, (t_on.tr t_on.rf q4.2.2)⟩)⟩⟩
noncomputable def wl_s_takeOf : List (Nat × Nat) := [(118, 2), (118, 3), (118, 4), (118, 5), (118, 6), (118, 7), (118, 8), (118, 9), (118, 10), (118, 11)]
noncomputable def Q_s_takeOf (gi : Nat → Nat → Int32) (gl : Nat → Nat → Int64) (gr : Nat → Nat → Value) (ar0 : Nat) : Int32 → (Nat → Nat → Int32) → (Nat → Nat → Int64) → (Nat → Nat → Value) → Prop := fun (v : Int32) (gi2 : Nat → Nat → Int32) (gl2 : Nat → Nat → Int64) (gr2 : Nat → Nat → Value) => (∀ (b : Nat → Int32) (n q : Nat), t_TC b n q gi gl gr ar0 → (v.toInt = 1 ∧ s_W b n q = some 7 ∧ t_TC b n (s_E b n q) gi2 gl2 gr2 ar0 ∧ t_nf gi gi2 ar0) ∨ (v.toInt = 0 ∧ s_W b n q ≠ some 7 ∧ t_FL gi2 ar0 (s_fk b n q 2) (s_F b n q))) ∧ t_on ar0 gi gl gr gi2 gl2 gr2
theorem c_s_takeOf {X : x_Ext} {d : Nat} {sh : List (Nat ⊕ (Nat × Nat))} {gi : Nat → Nat → Int32} {gl : Nat → Nat → Int64} {gr : Nat → Nat → Value} (hI : t_I sh gi gr) (ar0 : Nat) (p_a0 : t_Tk sh gr ar0) : x_Me X (d + 3) n_X9_takeKeyword [.ref ar0, .retAddr 7] (sh, gi, gl, gr) (t_PI wl_s_takeOf sh gi gl gr 0 1 (Q_s_takeOf gi gl gr ar0)) := by
  have hX : t_X wl_s_takeOf sh gi gl gr gi gl gr := t_X.rf
  refine me_i f_X9_takeKeyword p_a0.1 rfl rfl rfl ?_
  refine ev_loc f_X9_takeKeyword (nx := 1) rfl rfl rfl rfl ?_
  have k1 := hI.2.2.2.1.2.2.2.2.2 ar0 p_a0.1
  obtain ⟨v1, e1⟩ : ∃ v, gr ar0 7 = v := ⟨_, rfl⟩
  rw [e1] at k1
  refine ev_getR f_X9_takeKeyword (nx := 4) rfl p_a0.1 rfl rfl e1 (t_KwR k1) rfl ?_
  refine ev_loc f_X9_takeKeyword (nx := 5) rfl rfl rfl rfl ?_
  refine ev_ack f_X9_takeKeyword (t1 := 14) (t2 := 8) rfl rfl rfl (t_knw k1) rfl (fun h2 => ?_) (fun h2 => ?_)
  · refine ev_loc f_X9_takeKeyword (nx := 15) rfl rfl rfl rfl ?_
    refine ev_qN f_X9_takeKeyword (nx := 18) (r := []) rfl rfl rfl rfl rfl rfl rfl (c_s_step hI (ar0) p_a0) rfl hX rfl (fun gi3 gl3 gr3 hI hX hC3 q3 => ?_)
    have q3 : (∀ (b : Nat → Int32) (n q : Nat), t_Sp b n q gi ar0 → t_TC b n q gi3 gl3 gr3 ar0) ∧ t_nf gi gi3 ar0 ∧ t_on ar0 gi gl gr gi3 gl3 gr3 := q3
    replace p_a0 := p_a0.ext hC3.2
    refine ev_ic f_X9_takeKeyword (nx := 19) (v := 1) rfl (by decide) rfl ?_
    exact ev_ret f_X9_takeKeyword rfl rfl rfl ⟨_, _, _, rfl, hI, hX, ⟨_, rfl, (Int.le_trans (by decide : (0:Int) ≤ 1) (by decide : (1:Int) ≤ (1:Int32).toInt)), (by decide : (1:Int32).toInt ≤ (1:Int)), (show (∀ (b : Nat → Int32) (n q : Nat), t_TC b n q gi gl gr ar0 → ((1 : Int) = 1 ∧ s_W b n q = some 7 ∧ t_TC b n (s_E b n q) gi3 gl3 gr3 ar0 ∧ t_nf gi gi3 ar0) ∨ ((1 : Int) = 0 ∧ s_W b n q ≠ some 7 ∧ t_FL gi3 ar0 (s_fk b n q 2) (s_F b n q))) ∧ t_on ar0 gi gl gr gi3 gl3 gr3 from ⟨fun b n q h => Or.inl ⟨rfl, h.kwT e1 h2, (q3.1 b n _ h.S), q3.2.1⟩, (t_on.tr t_on.rf q3.2.2)⟩)⟩⟩
  · refine ev_loc f_X9_takeKeyword (nx := 9) rfl rfl rfl rfl ?_
    refine ev_ic f_X9_takeKeyword (nx := 10) (v := 2) rfl (by decide) rfl ?_
    refine ev_qI f_X9_takeKeyword (nx := 13) (r := []) rfl rfl rfl rfl rfl rfl rfl (c_s_refuse hI (ar0) p_a0 (2) (by decide : (2:Int) ≤ (2:Int32).toInt) (Int.le_trans (by decide : (2:Int32).toInt ≤ (2:Int)) (by decide : (2:Int) ≤ 7))) rfl hX rfl (fun w4 gi4 gl4 gr4 l4 u4 hI hX hC4 q4 => ?_)
    have q4 : (∀ (b : Nat → Int32) (n q : Nat), t_TC b n q gi gl gr ar0 → t_FL gi4 ar0 (s_fk b n q 2) (s_F b n q)) ∧ w4.toInt = 0 ∧ t_on ar0 gi gl gr gi4 gl4 gr4 := q4
    replace p_a0 := p_a0.ext hC4.2
    exact ev_retZ f_X9_takeKeyword rfl l4 (Int.le_trans u4 (by decide : (0:Int) ≤ 1)) ⟨_, _, _, rfl, hI, hX, ⟨_, rfl, l4, (Int.le_trans u4 (by decide : (0:Int) ≤ 1)), (show (∀ (b : Nat → Int32) (n q : Nat), t_TC b n q gi gl gr ar0 → (w4.toInt = 1 ∧ s_W b n q = some 7 ∧ t_TC b n (s_E b n q) gi4 gl4 gr4 ar0 ∧ t_nf gi gi4 ar0) ∨ (w4.toInt = 0 ∧ s_W b n q ≠ some 7 ∧ t_FL gi4 ar0 (s_fk b n q 2) (s_F b n q))) ∧ t_on ar0 gi gl gr gi4 gl4 gr4 from ⟨fun b n q h => Or.inr ⟨q4.2.1, h.kwF e1 h2, (q4.1 b n q h)⟩, (t_on.tr t_on.rf q4.2.2)⟩)⟩⟩
noncomputable def wl_s_takeAt : List (Nat × Nat) := [(118, 2), (118, 3), (118, 4), (118, 5), (118, 6), (118, 7), (118, 8), (118, 9), (118, 10), (118, 11)]
noncomputable def Q_s_takeAt (gi : Nat → Nat → Int32) (gl : Nat → Nat → Int64) (gr : Nat → Nat → Value) (ar0 : Nat) : Int32 → (Nat → Nat → Int32) → (Nat → Nat → Int64) → (Nat → Nat → Value) → Prop := fun (v : Int32) (gi2 : Nat → Nat → Int32) (gl2 : Nat → Nat → Int64) (gr2 : Nat → Nat → Value) => (∀ (b : Nat → Int32) (n q : Nat), t_TC b n q gi gl gr ar0 → (v.toInt = 1 ∧ s_W b n q = some 8 ∧ t_TC b n (s_E b n q) gi2 gl2 gr2 ar0 ∧ t_nf gi gi2 ar0) ∨ (v.toInt = 0 ∧ s_W b n q ≠ some 8 ∧ t_FL gi2 ar0 (s_fk b n q 2) (s_F b n q))) ∧ t_on ar0 gi gl gr gi2 gl2 gr2
theorem c_s_takeAt {X : x_Ext} {d : Nat} {sh : List (Nat ⊕ (Nat × Nat))} {gi : Nat → Nat → Int32} {gl : Nat → Nat → Int64} {gr : Nat → Nat → Value} (hI : t_I sh gi gr) (ar0 : Nat) (p_a0 : t_Tk sh gr ar0) : x_Me X (d + 3) n_X9_takeKeyword [.ref ar0, .retAddr 8] (sh, gi, gl, gr) (t_PI wl_s_takeAt sh gi gl gr 0 1 (Q_s_takeAt gi gl gr ar0)) := by
  have hX : t_X wl_s_takeAt sh gi gl gr gi gl gr := t_X.rf
  refine me_i f_X9_takeKeyword p_a0.1 rfl rfl rfl ?_
  refine ev_loc f_X9_takeKeyword (nx := 1) rfl rfl rfl rfl ?_
  have k1 := hI.2.2.2.1.2.2.2.2.2 ar0 p_a0.1
  obtain ⟨v1, e1⟩ : ∃ v, gr ar0 7 = v := ⟨_, rfl⟩
  rw [e1] at k1
  refine ev_getR f_X9_takeKeyword (nx := 4) rfl p_a0.1 rfl rfl e1 (t_KwR k1) rfl ?_
  refine ev_loc f_X9_takeKeyword (nx := 5) rfl rfl rfl rfl ?_
  refine ev_ack f_X9_takeKeyword (t1 := 14) (t2 := 8) rfl rfl rfl (t_knw k1) rfl (fun h2 => ?_) (fun h2 => ?_)
  · refine ev_loc f_X9_takeKeyword (nx := 15) rfl rfl rfl rfl ?_
    refine ev_qN f_X9_takeKeyword (nx := 18) (r := []) rfl rfl rfl rfl rfl rfl rfl (c_s_step hI (ar0) p_a0) rfl hX rfl (fun gi3 gl3 gr3 hI hX hC3 q3 => ?_)
    have q3 : (∀ (b : Nat → Int32) (n q : Nat), t_Sp b n q gi ar0 → t_TC b n q gi3 gl3 gr3 ar0) ∧ t_nf gi gi3 ar0 ∧ t_on ar0 gi gl gr gi3 gl3 gr3 := q3
    replace p_a0 := p_a0.ext hC3.2
    refine ev_ic f_X9_takeKeyword (nx := 19) (v := 1) rfl (by decide) rfl ?_
    exact ev_ret f_X9_takeKeyword rfl rfl rfl ⟨_, _, _, rfl, hI, hX, ⟨_, rfl, (Int.le_trans (by decide : (0:Int) ≤ 1) (by decide : (1:Int) ≤ (1:Int32).toInt)), (by decide : (1:Int32).toInt ≤ (1:Int)), (show (∀ (b : Nat → Int32) (n q : Nat), t_TC b n q gi gl gr ar0 → ((1 : Int) = 1 ∧ s_W b n q = some 8 ∧ t_TC b n (s_E b n q) gi3 gl3 gr3 ar0 ∧ t_nf gi gi3 ar0) ∨ ((1 : Int) = 0 ∧ s_W b n q ≠ some 8 ∧ t_FL gi3 ar0 (s_fk b n q 2) (s_F b n q))) ∧ t_on ar0 gi gl gr gi3 gl3 gr3 from ⟨fun b n q h => Or.inl ⟨rfl, h.kwT e1 h2, (q3.1 b n _ h.S), q3.2.1⟩, (t_on.tr t_on.rf q3.2.2)⟩)⟩⟩
  · refine ev_loc f_X9_takeKeyword (nx := 9) rfl rfl rfl rfl ?_
    refine ev_ic f_X9_takeKeyword (nx := 10) (v := 2) rfl (by decide) rfl ?_
    refine ev_qI f_X9_takeKeyword (nx := 13) (r := []) rfl rfl rfl rfl rfl rfl rfl (c_s_refuse hI (ar0) p_a0 (2) (by decide : (2:Int) ≤ (2:Int32).toInt) (Int.le_trans (by decide : (2:Int32).toInt ≤ (2:Int)) (by decide : (2:Int) ≤ 7))) rfl hX rfl (fun w4 gi4 gl4 gr4 l4 u4 hI hX hC4 q4 => ?_)
    have q4 : (∀ (b : Nat → Int32) (n q : Nat), t_TC b n q gi gl gr ar0 → t_FL gi4 ar0 (s_fk b n q 2) (s_F b n q)) ∧ w4.toInt = 0 ∧ t_on ar0 gi gl gr gi4 gl4 gr4 := q4
    replace p_a0 := p_a0.ext hC4.2
    exact ev_retZ f_X9_takeKeyword rfl l4 (Int.le_trans u4 (by decide : (0:Int) ≤ 1)) ⟨_, _, _, rfl, hI, hX, ⟨_, rfl, l4, (Int.le_trans u4 (by decide : (0:Int) ≤ 1)), (show (∀ (b : Nat → Int32) (n q : Nat), t_TC b n q gi gl gr ar0 → (w4.toInt = 1 ∧ s_W b n q = some 8 ∧ t_TC b n (s_E b n q) gi4 gl4 gr4 ar0 ∧ t_nf gi gi4 ar0) ∨ (w4.toInt = 0 ∧ s_W b n q ≠ some 8 ∧ t_FL gi4 ar0 (s_fk b n q 2) (s_F b n q))) ∧ t_on ar0 gi gl gr gi4 gl4 gr4 from ⟨fun b n q h => Or.inr ⟨q4.2.1, h.kwF e1 h2, (q4.1 b n q h)⟩, (t_on.tr t_on.rf q4.2.2)⟩)⟩⟩
noncomputable def wl_s_takeTakes : List (Nat × Nat) := [(118, 2), (118, 3), (118, 4), (118, 5), (118, 6), (118, 7), (118, 8), (118, 9), (118, 10), (118, 11)]
noncomputable def Q_s_takeTakes (gi : Nat → Nat → Int32) (gl : Nat → Nat → Int64) (gr : Nat → Nat → Value) (ar0 : Nat) : Int32 → (Nat → Nat → Int32) → (Nat → Nat → Int64) → (Nat → Nat → Value) → Prop := fun (v : Int32) (gi2 : Nat → Nat → Int32) (gl2 : Nat → Nat → Int64) (gr2 : Nat → Nat → Value) => (∀ (b : Nat → Int32) (n q : Nat), t_TC b n q gi gl gr ar0 → (v.toInt = 1 ∧ s_W b n q = some 9 ∧ t_TC b n (s_E b n q) gi2 gl2 gr2 ar0 ∧ t_nf gi gi2 ar0) ∨ (v.toInt = 0 ∧ s_W b n q ≠ some 9 ∧ t_FL gi2 ar0 (s_fk b n q 2) (s_F b n q))) ∧ t_on ar0 gi gl gr gi2 gl2 gr2
theorem c_s_takeTakes {X : x_Ext} {d : Nat} {sh : List (Nat ⊕ (Nat × Nat))} {gi : Nat → Nat → Int32} {gl : Nat → Nat → Int64} {gr : Nat → Nat → Value} (hI : t_I sh gi gr) (ar0 : Nat) (p_a0 : t_Tk sh gr ar0) : x_Me X (d + 3) n_X9_takeKeyword [.ref ar0, .retAddr 9] (sh, gi, gl, gr) (t_PI wl_s_takeTakes sh gi gl gr 0 1 (Q_s_takeTakes gi gl gr ar0)) := by
  have hX : t_X wl_s_takeTakes sh gi gl gr gi gl gr := t_X.rf
  refine me_i f_X9_takeKeyword p_a0.1 rfl rfl rfl ?_
  refine ev_loc f_X9_takeKeyword (nx := 1) rfl rfl rfl rfl ?_
  have k1 := hI.2.2.2.1.2.2.2.2.2 ar0 p_a0.1
  obtain ⟨v1, e1⟩ : ∃ v, gr ar0 7 = v := ⟨_, rfl⟩
  rw [e1] at k1
  refine ev_getR f_X9_takeKeyword (nx := 4) rfl p_a0.1 rfl rfl e1 (t_KwR k1) rfl ?_
  refine ev_loc f_X9_takeKeyword (nx := 5) rfl rfl rfl rfl ?_
  refine ev_ack f_X9_takeKeyword (t1 := 14) (t2 := 8) rfl rfl rfl (t_knw k1) rfl (fun h2 => ?_) (fun h2 => ?_)
  · refine ev_loc f_X9_takeKeyword (nx := 15) rfl rfl rfl rfl ?_
    refine ev_qN f_X9_takeKeyword (nx := 18) (r := []) rfl rfl rfl rfl rfl rfl rfl (c_s_step hI (ar0) p_a0) rfl hX rfl (fun gi3 gl3 gr3 hI hX hC3 q3 => ?_)
    have q3 : (∀ (b : Nat → Int32) (n q : Nat), t_Sp b n q gi ar0 → t_TC b n q gi3 gl3 gr3 ar0) ∧ t_nf gi gi3 ar0 ∧ t_on ar0 gi gl gr gi3 gl3 gr3 := q3
    replace p_a0 := p_a0.ext hC3.2
    refine ev_ic f_X9_takeKeyword (nx := 19) (v := 1) rfl (by decide) rfl ?_
    exact ev_ret f_X9_takeKeyword rfl rfl rfl ⟨_, _, _, rfl, hI, hX, ⟨_, rfl, (Int.le_trans (by decide : (0:Int) ≤ 1) (by decide : (1:Int) ≤ (1:Int32).toInt)), (by decide : (1:Int32).toInt ≤ (1:Int)), (show (∀ (b : Nat → Int32) (n q : Nat), t_TC b n q gi gl gr ar0 → ((1 : Int) = 1 ∧ s_W b n q = some 9 ∧ t_TC b n (s_E b n q) gi3 gl3 gr3 ar0 ∧ t_nf gi gi3 ar0) ∨ ((1 : Int) = 0 ∧ s_W b n q ≠ some 9 ∧ t_FL gi3 ar0 (s_fk b n q 2) (s_F b n q))) ∧ t_on ar0 gi gl gr gi3 gl3 gr3 from ⟨fun b n q h => Or.inl ⟨rfl, h.kwT e1 h2, (q3.1 b n _ h.S), q3.2.1⟩, (t_on.tr t_on.rf q3.2.2)⟩)⟩⟩
  · refine ev_loc f_X9_takeKeyword (nx := 9) rfl rfl rfl rfl ?_
    refine ev_ic f_X9_takeKeyword (nx := 10) (v := 2) rfl (by decide) rfl ?_
    refine ev_qI f_X9_takeKeyword (nx := 13) (r := []) rfl rfl rfl rfl rfl rfl rfl (c_s_refuse hI (ar0) p_a0 (2) (by decide : (2:Int) ≤ (2:Int32).toInt) (Int.le_trans (by decide : (2:Int32).toInt ≤ (2:Int)) (by decide : (2:Int) ≤ 7))) rfl hX rfl (fun w4 gi4 gl4 gr4 l4 u4 hI hX hC4 q4 => ?_)
    have q4 : (∀ (b : Nat → Int32) (n q : Nat), t_TC b n q gi gl gr ar0 → t_FL gi4 ar0 (s_fk b n q 2) (s_F b n q)) ∧ w4.toInt = 0 ∧ t_on ar0 gi gl gr gi4 gl4 gr4 := q4
    replace p_a0 := p_a0.ext hC4.2
    exact ev_retZ f_X9_takeKeyword rfl l4 (Int.le_trans u4 (by decide : (0:Int) ≤ 1)) ⟨_, _, _, rfl, hI, hX, ⟨_, rfl, l4, (Int.le_trans u4 (by decide : (0:Int) ≤ 1)), (show (∀ (b : Nat → Int32) (n q : Nat), t_TC b n q gi gl gr ar0 → (w4.toInt = 1 ∧ s_W b n q = some 9 ∧ t_TC b n (s_E b n q) gi4 gl4 gr4 ar0 ∧ t_nf gi gi4 ar0) ∨ (w4.toInt = 0 ∧ s_W b n q ≠ some 9 ∧ t_FL gi4 ar0 (s_fk b n q 2) (s_F b n q))) ∧ t_on ar0 gi gl gr gi4 gl4 gr4 from ⟨fun b n q h => Or.inr ⟨q4.2.1, h.kwF e1 h2, (q4.1 b n q h)⟩, (t_on.tr t_on.rf q4.2.2)⟩)⟩⟩
noncomputable def wl_s_takeCosts : List (Nat × Nat) := [(118, 2), (118, 3), (118, 4), (118, 5), (118, 6), (118, 7), (118, 8), (118, 9), (118, 10), (118, 11)]
noncomputable def Q_s_takeCosts (gi : Nat → Nat → Int32) (gl : Nat → Nat → Int64) (gr : Nat → Nat → Value) (ar0 : Nat) : Int32 → (Nat → Nat → Int32) → (Nat → Nat → Int64) → (Nat → Nat → Value) → Prop := fun (v : Int32) (gi2 : Nat → Nat → Int32) (gl2 : Nat → Nat → Int64) (gr2 : Nat → Nat → Value) => (∀ (b : Nat → Int32) (n q : Nat), t_TC b n q gi gl gr ar0 → (v.toInt = 1 ∧ s_W b n q = some 10 ∧ t_TC b n (s_E b n q) gi2 gl2 gr2 ar0 ∧ t_nf gi gi2 ar0) ∨ (v.toInt = 0 ∧ s_W b n q ≠ some 10 ∧ t_FL gi2 ar0 (s_fk b n q 2) (s_F b n q))) ∧ t_on ar0 gi gl gr gi2 gl2 gr2
theorem c_s_takeCosts {X : x_Ext} {d : Nat} {sh : List (Nat ⊕ (Nat × Nat))} {gi : Nat → Nat → Int32} {gl : Nat → Nat → Int64} {gr : Nat → Nat → Value} (hI : t_I sh gi gr) (ar0 : Nat) (p_a0 : t_Tk sh gr ar0) : x_Me X (d + 3) n_X9_takeKeyword [.ref ar0, .retAddr 10] (sh, gi, gl, gr) (t_PI wl_s_takeCosts sh gi gl gr 0 1 (Q_s_takeCosts gi gl gr ar0)) := by
  have hX : t_X wl_s_takeCosts sh gi gl gr gi gl gr := t_X.rf
  refine me_i f_X9_takeKeyword p_a0.1 rfl rfl rfl ?_
  refine ev_loc f_X9_takeKeyword (nx := 1) rfl rfl rfl rfl ?_
  have k1 := hI.2.2.2.1.2.2.2.2.2 ar0 p_a0.1
  obtain ⟨v1, e1⟩ : ∃ v, gr ar0 7 = v := ⟨_, rfl⟩
  rw [e1] at k1
  refine ev_getR f_X9_takeKeyword (nx := 4) rfl p_a0.1 rfl rfl e1 (t_KwR k1) rfl ?_
  refine ev_loc f_X9_takeKeyword (nx := 5) rfl rfl rfl rfl ?_
  refine ev_ack f_X9_takeKeyword (t1 := 14) (t2 := 8) rfl rfl rfl (t_knw k1) rfl (fun h2 => ?_) (fun h2 => ?_)
  · refine ev_loc f_X9_takeKeyword (nx := 15) rfl rfl rfl rfl ?_
    refine ev_qN f_X9_takeKeyword (nx := 18) (r := []) rfl rfl rfl rfl rfl rfl rfl (c_s_step hI (ar0) p_a0) rfl hX rfl (fun gi3 gl3 gr3 hI hX hC3 q3 => ?_)
    have q3 : (∀ (b : Nat → Int32) (n q : Nat), t_Sp b n q gi ar0 → t_TC b n q gi3 gl3 gr3 ar0) ∧ t_nf gi gi3 ar0 ∧ t_on ar0 gi gl gr gi3 gl3 gr3 := q3
    replace p_a0 := p_a0.ext hC3.2
    refine ev_ic f_X9_takeKeyword (nx := 19) (v := 1) rfl (by decide) rfl ?_
    exact ev_ret f_X9_takeKeyword rfl rfl rfl ⟨_, _, _, rfl, hI, hX, ⟨_, rfl, (Int.le_trans (by decide : (0:Int) ≤ 1) (by decide : (1:Int) ≤ (1:Int32).toInt)), (by decide : (1:Int32).toInt ≤ (1:Int)), (show (∀ (b : Nat → Int32) (n q : Nat), t_TC b n q gi gl gr ar0 → ((1 : Int) = 1 ∧ s_W b n q = some 10 ∧ t_TC b n (s_E b n q) gi3 gl3 gr3 ar0 ∧ t_nf gi gi3 ar0) ∨ ((1 : Int) = 0 ∧ s_W b n q ≠ some 10 ∧ t_FL gi3 ar0 (s_fk b n q 2) (s_F b n q))) ∧ t_on ar0 gi gl gr gi3 gl3 gr3 from ⟨fun b n q h => Or.inl ⟨rfl, h.kwT e1 h2, (q3.1 b n _ h.S), q3.2.1⟩, (t_on.tr t_on.rf q3.2.2)⟩)⟩⟩
  · refine ev_loc f_X9_takeKeyword (nx := 9) rfl rfl rfl rfl ?_
    refine ev_ic f_X9_takeKeyword (nx := 10) (v := 2) rfl (by decide) rfl ?_
    refine ev_qI f_X9_takeKeyword (nx := 13) (r := []) rfl rfl rfl rfl rfl rfl rfl (c_s_refuse hI (ar0) p_a0 (2) (by decide : (2:Int) ≤ (2:Int32).toInt) (Int.le_trans (by decide : (2:Int32).toInt ≤ (2:Int)) (by decide : (2:Int) ≤ 7))) rfl hX rfl (fun w4 gi4 gl4 gr4 l4 u4 hI hX hC4 q4 => ?_)
    have q4 : (∀ (b : Nat → Int32) (n q : Nat), t_TC b n q gi gl gr ar0 → t_FL gi4 ar0 (s_fk b n q 2) (s_F b n q)) ∧ w4.toInt = 0 ∧ t_on ar0 gi gl gr gi4 gl4 gr4 := q4
    replace p_a0 := p_a0.ext hC4.2
    exact ev_retZ f_X9_takeKeyword rfl l4 (Int.le_trans u4 (by decide : (0:Int) ≤ 1)) ⟨_, _, _, rfl, hI, hX, ⟨_, rfl, l4, (Int.le_trans u4 (by decide : (0:Int) ≤ 1)), (show (∀ (b : Nat → Int32) (n q : Nat), t_TC b n q gi gl gr ar0 → (w4.toInt = 1 ∧ s_W b n q = some 10 ∧ t_TC b n (s_E b n q) gi4 gl4 gr4 ar0 ∧ t_nf gi gi4 ar0) ∨ (w4.toInt = 0 ∧ s_W b n q ≠ some 10 ∧ t_FL gi4 ar0 (s_fk b n q 2) (s_F b n q))) ∧ t_on ar0 gi gl gr gi4 gl4 gr4 from ⟨fun b n q h => Or.inr ⟨q4.2.1, h.kwF e1 h2, (q4.1 b n q h)⟩, (t_on.tr t_on.rf q4.2.2)⟩)⟩⟩
noncomputable def wl_s_takeIf : List (Nat × Nat) := [(118, 2), (118, 3), (118, 4), (118, 5), (118, 6), (118, 7), (118, 8), (118, 9), (118, 10), (118, 11)]
noncomputable def Q_s_takeIf (gi : Nat → Nat → Int32) (gl : Nat → Nat → Int64) (gr : Nat → Nat → Value) (ar0 : Nat) : Int32 → (Nat → Nat → Int32) → (Nat → Nat → Int64) → (Nat → Nat → Value) → Prop := fun (v : Int32) (gi2 : Nat → Nat → Int32) (gl2 : Nat → Nat → Int64) (gr2 : Nat → Nat → Value) => (∀ (b : Nat → Int32) (n q : Nat), t_TC b n q gi gl gr ar0 → (v.toInt = 1 ∧ s_W b n q = some 13 ∧ t_TC b n (s_E b n q) gi2 gl2 gr2 ar0 ∧ t_nf gi gi2 ar0) ∨ (v.toInt = 0 ∧ s_W b n q ≠ some 13 ∧ t_FL gi2 ar0 (s_fk b n q 2) (s_F b n q))) ∧ t_on ar0 gi gl gr gi2 gl2 gr2
theorem c_s_takeIf {X : x_Ext} {d : Nat} {sh : List (Nat ⊕ (Nat × Nat))} {gi : Nat → Nat → Int32} {gl : Nat → Nat → Int64} {gr : Nat → Nat → Value} (hI : t_I sh gi gr) (ar0 : Nat) (p_a0 : t_Tk sh gr ar0) : x_Me X (d + 3) n_X9_takeKeyword [.ref ar0, .retAddr 13] (sh, gi, gl, gr) (t_PI wl_s_takeIf sh gi gl gr 0 1 (Q_s_takeIf gi gl gr ar0)) := by
  have hX : t_X wl_s_takeIf sh gi gl gr gi gl gr := t_X.rf
  refine me_i f_X9_takeKeyword p_a0.1 rfl rfl rfl ?_
  refine ev_loc f_X9_takeKeyword (nx := 1) rfl rfl rfl rfl ?_
  have k1 := hI.2.2.2.1.2.2.2.2.2 ar0 p_a0.1
  obtain ⟨v1, e1⟩ : ∃ v, gr ar0 7 = v := ⟨_, rfl⟩
  rw [e1] at k1
  refine ev_getR f_X9_takeKeyword (nx := 4) rfl p_a0.1 rfl rfl e1 (t_KwR k1) rfl ?_
  refine ev_loc f_X9_takeKeyword (nx := 5) rfl rfl rfl rfl ?_
  refine ev_ack f_X9_takeKeyword (t1 := 14) (t2 := 8) rfl rfl rfl (t_knw k1) rfl (fun h2 => ?_) (fun h2 => ?_)
  · refine ev_loc f_X9_takeKeyword (nx := 15) rfl rfl rfl rfl ?_
    refine ev_qN f_X9_takeKeyword (nx := 18) (r := []) rfl rfl rfl rfl rfl rfl rfl (c_s_step hI (ar0) p_a0) rfl hX rfl (fun gi3 gl3 gr3 hI hX hC3 q3 => ?_)
    have q3 : (∀ (b : Nat → Int32) (n q : Nat), t_Sp b n q gi ar0 → t_TC b n q gi3 gl3 gr3 ar0) ∧ t_nf gi gi3 ar0 ∧ t_on ar0 gi gl gr gi3 gl3 gr3 := q3
    replace p_a0 := p_a0.ext hC3.2
    refine ev_ic f_X9_takeKeyword (nx := 19) (v := 1) rfl (by decide) rfl ?_
    exact ev_ret f_X9_takeKeyword rfl rfl rfl ⟨_, _, _, rfl, hI, hX, ⟨_, rfl, (Int.le_trans (by decide : (0:Int) ≤ 1) (by decide : (1:Int) ≤ (1:Int32).toInt)), (by decide : (1:Int32).toInt ≤ (1:Int)), (show (∀ (b : Nat → Int32) (n q : Nat), t_TC b n q gi gl gr ar0 → ((1 : Int) = 1 ∧ s_W b n q = some 13 ∧ t_TC b n (s_E b n q) gi3 gl3 gr3 ar0 ∧ t_nf gi gi3 ar0) ∨ ((1 : Int) = 0 ∧ s_W b n q ≠ some 13 ∧ t_FL gi3 ar0 (s_fk b n q 2) (s_F b n q))) ∧ t_on ar0 gi gl gr gi3 gl3 gr3 from ⟨fun b n q h => Or.inl ⟨rfl, h.kwT e1 h2, (q3.1 b n _ h.S), q3.2.1⟩, (t_on.tr t_on.rf q3.2.2)⟩)⟩⟩
  · refine ev_loc f_X9_takeKeyword (nx := 9) rfl rfl rfl rfl ?_
    refine ev_ic f_X9_takeKeyword (nx := 10) (v := 2) rfl (by decide) rfl ?_
    refine ev_qI f_X9_takeKeyword (nx := 13) (r := []) rfl rfl rfl rfl rfl rfl rfl (c_s_refuse hI (ar0) p_a0 (2) (by decide : (2:Int) ≤ (2:Int32).toInt) (Int.le_trans (by decide : (2:Int32).toInt ≤ (2:Int)) (by decide : (2:Int) ≤ 7))) rfl hX rfl (fun w4 gi4 gl4 gr4 l4 u4 hI hX hC4 q4 => ?_)
    have q4 : (∀ (b : Nat → Int32) (n q : Nat), t_TC b n q gi gl gr ar0 → t_FL gi4 ar0 (s_fk b n q 2) (s_F b n q)) ∧ w4.toInt = 0 ∧ t_on ar0 gi gl gr gi4 gl4 gr4 := q4
    replace p_a0 := p_a0.ext hC4.2
    exact ev_retZ f_X9_takeKeyword rfl l4 (Int.le_trans u4 (by decide : (0:Int) ≤ 1)) ⟨_, _, _, rfl, hI, hX, ⟨_, rfl, l4, (Int.le_trans u4 (by decide : (0:Int) ≤ 1)), (show (∀ (b : Nat → Int32) (n q : Nat), t_TC b n q gi gl gr ar0 → (w4.toInt = 1 ∧ s_W b n q = some 13 ∧ t_TC b n (s_E b n q) gi4 gl4 gr4 ar0 ∧ t_nf gi gi4 ar0) ∨ (w4.toInt = 0 ∧ s_W b n q ≠ some 13 ∧ t_FL gi4 ar0 (s_fk b n q 2) (s_F b n q))) ∧ t_on ar0 gi gl gr gi4 gl4 gr4 from ⟨fun b n q h => Or.inr ⟨q4.2.1, h.kwF e1 h2, (q4.1 b n q h)⟩, (t_on.tr t_on.rf q4.2.2)⟩)⟩⟩
noncomputable def wl_s_takeDo : List (Nat × Nat) := [(118, 2), (118, 3), (118, 4), (118, 5), (118, 6), (118, 7), (118, 8), (118, 9), (118, 10), (118, 11)]
noncomputable def Q_s_takeDo (gi : Nat → Nat → Int32) (gl : Nat → Nat → Int64) (gr : Nat → Nat → Value) (ar0 : Nat) : Int32 → (Nat → Nat → Int32) → (Nat → Nat → Int64) → (Nat → Nat → Value) → Prop := fun (v : Int32) (gi2 : Nat → Nat → Int32) (gl2 : Nat → Nat → Int64) (gr2 : Nat → Nat → Value) => (∀ (b : Nat → Int32) (n q : Nat), t_TC b n q gi gl gr ar0 → (v.toInt = 1 ∧ s_W b n q = some 14 ∧ t_TC b n (s_E b n q) gi2 gl2 gr2 ar0 ∧ t_nf gi gi2 ar0) ∨ (v.toInt = 0 ∧ s_W b n q ≠ some 14 ∧ t_FL gi2 ar0 (s_fk b n q 2) (s_F b n q))) ∧ t_on ar0 gi gl gr gi2 gl2 gr2
theorem c_s_takeDo {X : x_Ext} {d : Nat} {sh : List (Nat ⊕ (Nat × Nat))} {gi : Nat → Nat → Int32} {gl : Nat → Nat → Int64} {gr : Nat → Nat → Value} (hI : t_I sh gi gr) (ar0 : Nat) (p_a0 : t_Tk sh gr ar0) : x_Me X (d + 3) n_X9_takeKeyword [.ref ar0, .retAddr 14] (sh, gi, gl, gr) (t_PI wl_s_takeDo sh gi gl gr 0 1 (Q_s_takeDo gi gl gr ar0)) := by
  have hX : t_X wl_s_takeDo sh gi gl gr gi gl gr := t_X.rf
  refine me_i f_X9_takeKeyword p_a0.1 rfl rfl rfl ?_
  refine ev_loc f_X9_takeKeyword (nx := 1) rfl rfl rfl rfl ?_
  have k1 := hI.2.2.2.1.2.2.2.2.2 ar0 p_a0.1
  obtain ⟨v1, e1⟩ : ∃ v, gr ar0 7 = v := ⟨_, rfl⟩
  rw [e1] at k1
  refine ev_getR f_X9_takeKeyword (nx := 4) rfl p_a0.1 rfl rfl e1 (t_KwR k1) rfl ?_
  refine ev_loc f_X9_takeKeyword (nx := 5) rfl rfl rfl rfl ?_
  refine ev_ack f_X9_takeKeyword (t1 := 14) (t2 := 8) rfl rfl rfl (t_knw k1) rfl (fun h2 => ?_) (fun h2 => ?_)
  · refine ev_loc f_X9_takeKeyword (nx := 15) rfl rfl rfl rfl ?_
    refine ev_qN f_X9_takeKeyword (nx := 18) (r := []) rfl rfl rfl rfl rfl rfl rfl (c_s_step hI (ar0) p_a0) rfl hX rfl (fun gi3 gl3 gr3 hI hX hC3 q3 => ?_)
    have q3 : (∀ (b : Nat → Int32) (n q : Nat), t_Sp b n q gi ar0 → t_TC b n q gi3 gl3 gr3 ar0) ∧ t_nf gi gi3 ar0 ∧ t_on ar0 gi gl gr gi3 gl3 gr3 := q3
    replace p_a0 := p_a0.ext hC3.2
    refine ev_ic f_X9_takeKeyword (nx := 19) (v := 1) rfl (by decide) rfl ?_
    exact ev_ret f_X9_takeKeyword rfl rfl rfl ⟨_, _, _, rfl, hI, hX, ⟨_, rfl, (Int.le_trans (by decide : (0:Int) ≤ 1) (by decide : (1:Int) ≤ (1:Int32).toInt)), (by decide : (1:Int32).toInt ≤ (1:Int)), (show (∀ (b : Nat → Int32) (n q : Nat), t_TC b n q gi gl gr ar0 → ((1 : Int) = 1 ∧ s_W b n q = some 14 ∧ t_TC b n (s_E b n q) gi3 gl3 gr3 ar0 ∧ t_nf gi gi3 ar0) ∨ ((1 : Int) = 0 ∧ s_W b n q ≠ some 14 ∧ t_FL gi3 ar0 (s_fk b n q 2) (s_F b n q))) ∧ t_on ar0 gi gl gr gi3 gl3 gr3 from ⟨fun b n q h => Or.inl ⟨rfl, h.kwT e1 h2, (q3.1 b n _ h.S), q3.2.1⟩, (t_on.tr t_on.rf q3.2.2)⟩)⟩⟩
  · refine ev_loc f_X9_takeKeyword (nx := 9) rfl rfl rfl rfl ?_
    refine ev_ic f_X9_takeKeyword (nx := 10) (v := 2) rfl (by decide) rfl ?_
    refine ev_qI f_X9_takeKeyword (nx := 13) (r := []) rfl rfl rfl rfl rfl rfl rfl (c_s_refuse hI (ar0) p_a0 (2) (by decide : (2:Int) ≤ (2:Int32).toInt) (Int.le_trans (by decide : (2:Int32).toInt ≤ (2:Int)) (by decide : (2:Int) ≤ 7))) rfl hX rfl (fun w4 gi4 gl4 gr4 l4 u4 hI hX hC4 q4 => ?_)
    have q4 : (∀ (b : Nat → Int32) (n q : Nat), t_TC b n q gi gl gr ar0 → t_FL gi4 ar0 (s_fk b n q 2) (s_F b n q)) ∧ w4.toInt = 0 ∧ t_on ar0 gi gl gr gi4 gl4 gr4 := q4
    replace p_a0 := p_a0.ext hC4.2
    exact ev_retZ f_X9_takeKeyword rfl l4 (Int.le_trans u4 (by decide : (0:Int) ≤ 1)) ⟨_, _, _, rfl, hI, hX, ⟨_, rfl, l4, (Int.le_trans u4 (by decide : (0:Int) ≤ 1)), (show (∀ (b : Nat → Int32) (n q : Nat), t_TC b n q gi gl gr ar0 → (w4.toInt = 1 ∧ s_W b n q = some 14 ∧ t_TC b n (s_E b n q) gi4 gl4 gr4 ar0 ∧ t_nf gi gi4 ar0) ∨ (w4.toInt = 0 ∧ s_W b n q ≠ some 14 ∧ t_FL gi4 ar0 (s_fk b n q 2) (s_F b n q))) ∧ t_on ar0 gi gl gr gi4 gl4 gr4 from ⟨fun b n q h => Or.inr ⟨q4.2.1, h.kwF e1 h2, (q4.1 b n q h)⟩, (t_on.tr t_on.rf q4.2.2)⟩)⟩⟩
noncomputable def wl_s_takeSign : List (Nat × Nat) := [(118, 2), (118, 3), (118, 4), (118, 5), (118, 6), (118, 7), (118, 8), (118, 9), (118, 10), (118, 11)]
noncomputable def Q_s_takeSign (gi : Nat → Nat → Int32) (gl : Nat → Nat → Int64) (gr : Nat → Nat → Value) (ar0 : Nat) (ar1 : Int32) : Int32 → (Nat → Nat → Int32) → (Nat → Nat → Int64) → (Nat → Nat → Value) → Prop := fun (v : Int32) (gi2 : Nat → Nat → Int32) (gl2 : Nat → Nat → Int64) (gr2 : Nat → Nat → Value) => (∀ (b : Nat → Int32) (n q : Nat), t_TC b n q gi gl gr ar0 → (v.toInt = 1 ∧ s_isS b n q ar1.toInt ∧ t_TC b n (s_E b n q) gi2 gl2 gr2 ar0 ∧ t_nf gi gi2 ar0) ∨ (v.toInt = 0 ∧ ¬ s_isS b n q ar1.toInt ∧ t_FL gi2 ar0 (s_fk b n q 2) (s_F b n q))) ∧ t_on ar0 gi gl gr gi2 gl2 gr2
theorem c_s_takeSign {X : x_Ext} {d : Nat} {sh : List (Nat ⊕ (Nat × Nat))} {gi : Nat → Nat → Int32} {gl : Nat → Nat → Int64} {gr : Nat → Nat → Value} (hI : t_I sh gi gr) (ar0 : Nat) (p_a0 : t_Tk sh gr ar0) (ar1 : Int32) : x_Me X (d + 3) n_X9_takeSign [.ref ar0, .int ar1] (sh, gi, gl, gr) (t_PI wl_s_takeSign sh gi gl gr 0 1 (Q_s_takeSign gi gl gr ar0 ar1)) := by
  have hX : t_X wl_s_takeSign sh gi gl gr gi gl gr := t_X.rf
  refine me_i f_X9_takeSign p_a0.1 rfl rfl rfl ?_
  refine ev_loc f_X9_takeSign (nx := 1) rfl rfl rfl rfl ?_
  refine ev_loc f_X9_takeSign (nx := 2) rfl rfl rfl rfl ?_
  refine ev_qI0 f_X9_takeSign (nx := 5) (r := []) rfl rfl rfl rfl rfl rfl rfl (c_s_isSignOf hI (ar0) p_a0 (ar1)) rfl (fun w1 l1 u1 q1 => ?_)
  have q1 : ∀ (b : Nat → Int32) (n q : Nat), t_TC b n q gi gl gr ar0 → (w1.toInt = 1 ↔ s_isS b n q ar1.toInt) := q1
  refine ev_if f_X9_takeSign (t1 := 8) (t2 := 14) rfl rfl rfl (fun h2 => ?_) (fun h2 => ?_)
  · have u3 : w1.toInt ≤ 0 := t_equ h2 (by decide : (0:Int32).toInt ≤ (0:Int))
    refine ev_loc f_X9_takeSign (nx := 9) rfl rfl rfl rfl ?_
    refine ev_ic f_X9_takeSign (nx := 10) (v := 2) rfl (by decide) rfl ?_
    refine ev_qI f_X9_takeSign (nx := 13) (r := []) rfl rfl rfl rfl rfl rfl rfl (c_s_refuse hI (ar0) p_a0 (2) (by decide : (2:Int) ≤ (2:Int32).toInt) (Int.le_trans (by decide : (2:Int32).toInt ≤ (2:Int)) (by decide : (2:Int) ≤ 7))) rfl hX rfl (fun w4 gi4 gl4 gr4 l4 u4 hI hX hC4 q4 => ?_)
    have q4 : (∀ (b : Nat → Int32) (n q : Nat), t_TC b n q gi gl gr ar0 → t_FL gi4 ar0 (s_fk b n q 2) (s_F b n q)) ∧ w4.toInt = 0 ∧ t_on ar0 gi gl gr gi4 gl4 gr4 := q4
    replace p_a0 := p_a0.ext hC4.2
    exact ev_retZ f_X9_takeSign rfl l4 (Int.le_trans u4 (by decide : (0:Int) ≤ 1)) ⟨_, _, _, rfl, hI, hX, ⟨_, rfl, l4, (Int.le_trans u4 (by decide : (0:Int) ≤ 1)), (show (∀ (b : Nat → Int32) (n q : Nat), t_TC b n q gi gl gr ar0 → (w4.toInt = 1 ∧ s_isS b n q ar1.toInt ∧ t_TC b n (s_E b n q) gi4 gl4 gr4 ar0 ∧ t_nf gi gi4 ar0) ∨ (w4.toInt = 0 ∧ ¬ s_isS b n q ar1.toInt ∧ t_FL gi4 ar0 (s_fk b n q 2) (s_F b n q))) ∧ t_on ar0 gi gl gr gi4 gl4 gr4 from ⟨fun b n q h => Or.inr ⟨q4.2.1, fun hh => absurd ((q1 b n q h).mpr hh) (by omega), (q4.1 b n q h)⟩, (t_on.tr t_on.rf q4.2.2)⟩)⟩⟩
  · have r5 : w1.toInt ≠ 0 := fun e => h2 (Int32.toInt_inj.mp (e.trans (by decide : (0:Int) = (0 : Int32).toInt)))
    have l6 : 1 ≤ w1.toInt := t_nel h2 l1 rfl rfl
    refine ev_loc f_X9_takeSign (nx := 15) rfl rfl rfl rfl ?_
    refine ev_qN f_X9_takeSign (nx := 18) (r := []) rfl rfl rfl rfl rfl rfl rfl (c_s_step hI (ar0) p_a0) rfl hX rfl (fun gi7 gl7 gr7 hI hX hC7 q7 => ?_)
    have q7 : (∀ (b : Nat → Int32) (n q : Nat), t_Sp b n q gi ar0 → t_TC b n q gi7 gl7 gr7 ar0) ∧ t_nf gi gi7 ar0 ∧ t_on ar0 gi gl gr gi7 gl7 gr7 := q7
    replace p_a0 := p_a0.ext hC7.2
    refine ev_ic f_X9_takeSign (nx := 19) (v := 1) rfl (by decide) rfl ?_
    exact ev_ret f_X9_takeSign rfl rfl rfl ⟨_, _, _, rfl, hI, hX, ⟨_, rfl, (Int.le_trans (by decide : (0:Int) ≤ 1) (by decide : (1:Int) ≤ (1:Int32).toInt)), (by decide : (1:Int32).toInt ≤ (1:Int)), (show (∀ (b : Nat → Int32) (n q : Nat), t_TC b n q gi gl gr ar0 → ((1 : Int) = 1 ∧ s_isS b n q ar1.toInt ∧ t_TC b n (s_E b n q) gi7 gl7 gr7 ar0 ∧ t_nf gi gi7 ar0) ∨ ((1 : Int) = 0 ∧ ¬ s_isS b n q ar1.toInt ∧ t_FL gi7 ar0 (s_fk b n q 2) (s_F b n q))) ∧ t_on ar0 gi gl gr gi7 gl7 gr7 from ⟨fun b n q h => Or.inl ⟨rfl, (q1 b n q h).mp (by omega), (q7.1 b n _ h.S), q7.2.1⟩, (t_on.tr t_on.rf q7.2.2)⟩)⟩⟩
noncomputable def wl_s_takeNumber : List (Nat × Nat) := [(118, 2), (118, 3), (118, 4), (118, 5), (118, 6), (118, 7), (118, 8), (118, 9), (118, 10), (118, 11)]
noncomputable def Q_s_takeNumber (gi : Nat → Nat → Int32) (gl : Nat → Nat → Int64) (gr : Nat → Nat → Value) (ar0 : Nat) (ar1 : Int32) (ar2 : Int32) : Int32 → (Nat → Nat → Int32) → (Nat → Nat → Int64) → (Nat → Nat → Value) → Prop := fun (v : Int32) (gi2 : Nat → Nat → Int32) (gl2 : Nat → Nat → Int64) (gr2 : Nat → Nat → Value) => (∀ (b : Nat → Int32) (n q : Nat), t_TC b n q gi gl gr ar0 → (v.toInt = 1 ∧ s_isV b n q ar1.toInt ar2.toInt ∧ t_TC b n (s_E b n q) gi2 gl2 gr2 ar0 ∧ t_nf gi gi2 ar0) ∨ (v.toInt = 0 ∧ s_K b n q ≠ 3 ∧ t_FL gi2 ar0 (s_fk b n q 2) (s_F b n q)) ∨ (v.toInt = 0 ∧ (s_K b n q = 3 ∧ ¬ s_isV b n q ar1.toInt ar2.toInt) ∧ t_FL gi2 ar0 (s_fk b n q 4) (s_F b n q))) ∧ t_on ar0 gi gl gr gi2 gl2 gr2
theorem c_s_takeNumber {X : x_Ext} {d : Nat} {sh : List (Nat ⊕ (Nat × Nat))} {gi : Nat → Nat → Int32} {gl : Nat → Nat → Int64} {gr : Nat → Nat → Value} (hI : t_I sh gi gr) (ar0 : Nat) (p_a0 : t_Tk sh gr ar0) (ar1 : Int32) (ar2 : Int32) : x_Me X (d + 3) n_X9_takeNumber [.ref ar0, .int ar1, .int ar2] (sh, gi, gl, gr) (t_PI wl_s_takeNumber sh gi gl gr 0 1 (Q_s_takeNumber gi gl gr ar0 ar1 ar2)) := by
  have hX : t_X wl_s_takeNumber sh gi gl gr gi gl gr := t_X.rf
  refine me_i f_X9_takeNumber p_a0.1 rfl rfl rfl ?_
  refine ev_loc f_X9_takeNumber (nx := 1) rfl rfl rfl rfl ?_
  refine ev_getI f_X9_takeNumber (nx := 4) rfl p_a0.1 rfl rfl rfl ?_
  refine ev_ic f_X9_takeNumber (nx := 5) (v := 1) rfl (by decide) rfl ?_
  refine ev_if f_X9_takeNumber (t1 := 14) (t2 := 8) rfl rfl rfl (fun h1 => ?_) (fun h1 => ?_)
  · have u2 : (gi ar0 3).toInt ≤ 1 := t_equ h1 (by decide : (1:Int32).toInt ≤ (1:Int))
    have l3 : 1 ≤ (gi ar0 3).toInt := t_eql h1 (by decide : (1:Int) ≤ (1:Int32).toInt)
    refine ev_loc f_X9_takeNumber (nx := 15) rfl rfl rfl rfl ?_
    refine ev_getI f_X9_takeNumber (nx := 18) rfl p_a0.1 rfl rfl rfl ?_
    refine ev_loc f_X9_takeNumber (nx := 19) rfl rfl rfl rfl ?_
    refine ev_if f_X9_takeNumber (t1 := 30) (t2 := 22) rfl rfl rfl (fun h4 => ?_) (fun h4 => ?_)
    · have r5 : (gi ar0 8).toInt < ar1.toInt := Int32.lt_iff_toInt_lt.mp h4
      have u6 : (gi ar0 8).toInt ≤ 2147483646 := t_ltu h4 (t_hi ar1) rfl
      have l7 : (-2147483647) ≤ ar1.toInt := t_ltl h4 (t_lo (gi ar0 8)) rfl
      refine ev_loc f_X9_takeNumber (nx := 31) rfl rfl rfl rfl ?_
      refine ev_ic f_X9_takeNumber (nx := 32) (v := 4) rfl (by decide) rfl ?_
      refine ev_qI f_X9_takeNumber (nx := 35) (r := []) rfl rfl rfl rfl rfl rfl rfl (c_s_refuse hI (ar0) p_a0 (4) (Int.le_trans (by decide : (2:Int) ≤ 4) (by decide : (4:Int) ≤ (4:Int32).toInt)) (Int.le_trans (by decide : (4:Int32).toInt ≤ (4:Int)) (by decide : (4:Int) ≤ 7))) rfl hX rfl (fun w8 gi8 gl8 gr8 l8 u8 hI hX hC8 q8 => ?_)
      have q8 : (∀ (b : Nat → Int32) (n q : Nat), t_TC b n q gi gl gr ar0 → t_FL gi8 ar0 (s_fk b n q 4) (s_F b n q)) ∧ w8.toInt = 0 ∧ t_on ar0 gi gl gr gi8 gl8 gr8 := q8
      replace p_a0 := p_a0.ext hC8.2
      exact ev_retZ f_X9_takeNumber rfl l8 (Int.le_trans u8 (by decide : (0:Int) ≤ 1)) ⟨_, _, _, rfl, hI, hX, ⟨_, rfl, l8, (Int.le_trans u8 (by decide : (0:Int) ≤ 1)), (show (∀ (b : Nat → Int32) (n q : Nat), t_TC b n q gi gl gr ar0 → (w8.toInt = 1 ∧ s_isV b n q ar1.toInt ar2.toInt ∧ t_TC b n (s_E b n q) gi8 gl8 gr8 ar0 ∧ t_nf gi gi8 ar0) ∨ (w8.toInt = 0 ∧ s_K b n q ≠ 3 ∧ t_FL gi8 ar0 (s_fk b n q 2) (s_F b n q)) ∨ (w8.toInt = 0 ∧ (s_K b n q = 3 ∧ ¬ s_isV b n q ar1.toInt ar2.toInt) ∧ t_FL gi8 ar0 (s_fk b n q 4) (s_F b n q))) ∧ t_on ar0 gi gl gr gi8 gl8 gr8 from ⟨fun b n q h => Or.inr (Or.inr ⟨q8.2.1, h.vF (by omega) (by omega), (q8.1 b n q h)⟩), (t_on.tr t_on.rf q8.2.2)⟩)⟩⟩
    · have r9 : ar1.toInt ≤ (gi ar0 8).toInt := Int32.le_iff_toInt_le.mp (t_nlt h4)
      refine ev_loc f_X9_takeNumber (nx := 23) rfl rfl rfl rfl ?_
      refine ev_gvI f_X9_takeNumber (nx := 26) (w := (gi ar0 8)) rfl p_a0.1 rfl rfl rfl rfl ?_
      refine ev_loc f_X9_takeNumber (nx := 27) rfl rfl rfl rfl ?_
      refine ev_if f_X9_takeNumber (t1 := 36) (t2 := 30) rfl rfl rfl (fun h10 => ?_) (fun h10 => ?_)
      · have r11 : (gi ar0 8).toInt ≤ ar2.toInt := Int32.le_iff_toInt_le.mp h10
        refine ev_loc f_X9_takeNumber (nx := 37) rfl rfl rfl rfl ?_
        refine ev_qN f_X9_takeNumber (nx := 40) (r := []) rfl rfl rfl rfl rfl rfl rfl (c_s_step hI (ar0) p_a0) rfl hX rfl (fun gi12 gl12 gr12 hI hX hC12 q12 => ?_)
        have q12 : (∀ (b : Nat → Int32) (n q : Nat), t_Sp b n q gi ar0 → t_TC b n q gi12 gl12 gr12 ar0) ∧ t_nf gi gi12 ar0 ∧ t_on ar0 gi gl gr gi12 gl12 gr12 := q12
        replace p_a0 := p_a0.ext hC12.2
        refine ev_ic f_X9_takeNumber (nx := 41) (v := 1) rfl (by decide) rfl ?_
        exact ev_ret f_X9_takeNumber rfl rfl rfl ⟨_, _, _, rfl, hI, hX, ⟨_, rfl, (Int.le_trans (by decide : (0:Int) ≤ 1) (by decide : (1:Int) ≤ (1:Int32).toInt)), (by decide : (1:Int32).toInt ≤ (1:Int)), (show (∀ (b : Nat → Int32) (n q : Nat), t_TC b n q gi gl gr ar0 → ((1 : Int) = 1 ∧ s_isV b n q ar1.toInt ar2.toInt ∧ t_TC b n (s_E b n q) gi12 gl12 gr12 ar0 ∧ t_nf gi gi12 ar0) ∨ ((1 : Int) = 0 ∧ s_K b n q ≠ 3 ∧ t_FL gi12 ar0 (s_fk b n q 2) (s_F b n q)) ∨ ((1 : Int) = 0 ∧ (s_K b n q = 3 ∧ ¬ s_isV b n q ar1.toInt ar2.toInt) ∧ t_FL gi12 ar0 (s_fk b n q 4) (s_F b n q))) ∧ t_on ar0 gi gl gr gi12 gl12 gr12 from ⟨fun b n q h => Or.inl ⟨rfl, h.vT (by omega) (by omega) (by omega), (q12.1 b n _ h.S), q12.2.1⟩, (t_on.tr t_on.rf q12.2.2)⟩)⟩⟩
      · have r13 : ar2.toInt < (gi ar0 8).toInt := Int32.lt_iff_toInt_lt.mp (t_nle h10)
        have u14 : ar2.toInt ≤ 2147483646 := t_ltu (t_nle h10) (t_hi (gi ar0 8)) rfl
        have l15 : (-2147483647) ≤ (gi ar0 8).toInt := t_ltl (t_nle h10) (t_lo ar2) rfl
        refine ev_loc f_X9_takeNumber (nx := 31) rfl rfl rfl rfl ?_
        refine ev_ic f_X9_takeNumber (nx := 32) (v := 4) rfl (by decide) rfl ?_
        refine ev_qI f_X9_takeNumber (nx := 35) (r := []) rfl rfl rfl rfl rfl rfl rfl (c_s_refuse hI (ar0) p_a0 (4) (Int.le_trans (by decide : (2:Int) ≤ 4) (by decide : (4:Int) ≤ (4:Int32).toInt)) (Int.le_trans (by decide : (4:Int32).toInt ≤ (4:Int)) (by decide : (4:Int) ≤ 7))) rfl hX rfl (fun w16 gi16 gl16 gr16 l16 u16 hI hX hC16 q16 => ?_)
        have q16 : (∀ (b : Nat → Int32) (n q : Nat), t_TC b n q gi gl gr ar0 → t_FL gi16 ar0 (s_fk b n q 4) (s_F b n q)) ∧ w16.toInt = 0 ∧ t_on ar0 gi gl gr gi16 gl16 gr16 := q16
        replace p_a0 := p_a0.ext hC16.2
        exact ev_retZ f_X9_takeNumber rfl l16 (Int.le_trans u16 (by decide : (0:Int) ≤ 1)) ⟨_, _, _, rfl, hI, hX, ⟨_, rfl, l16, (Int.le_trans u16 (by decide : (0:Int) ≤ 1)), (show (∀ (b : Nat → Int32) (n q : Nat), t_TC b n q gi gl gr ar0 → (w16.toInt = 1 ∧ s_isV b n q ar1.toInt ar2.toInt ∧ t_TC b n (s_E b n q) gi16 gl16 gr16 ar0 ∧ t_nf gi gi16 ar0) ∨ (w16.toInt = 0 ∧ s_K b n q ≠ 3 ∧ t_FL gi16 ar0 (s_fk b n q 2) (s_F b n q)) ∨ (w16.toInt = 0 ∧ (s_K b n q = 3 ∧ ¬ s_isV b n q ar1.toInt ar2.toInt) ∧ t_FL gi16 ar0 (s_fk b n q 4) (s_F b n q))) ∧ t_on ar0 gi gl gr gi16 gl16 gr16 from ⟨fun b n q h => Or.inr (Or.inr ⟨q16.2.1, h.vF (by omega) (by omega), (q16.1 b n q h)⟩), (t_on.tr t_on.rf q16.2.2)⟩)⟩⟩
  · have r17 : (gi ar0 3).toInt ≠ 1 := fun e => h1 (Int32.toInt_inj.mp (e.trans (by decide : (1:Int) = (1 : Int32).toInt)))
    refine ev_loc f_X9_takeNumber (nx := 9) rfl rfl rfl rfl ?_
    refine ev_ic f_X9_takeNumber (nx := 10) (v := 2) rfl (by decide) rfl ?_
    refine ev_qI f_X9_takeNumber (nx := 13) (r := []) rfl rfl rfl rfl rfl rfl rfl (c_s_refuse hI (ar0) p_a0 (2) (by decide : (2:Int) ≤ (2:Int32).toInt) (Int.le_trans (by decide : (2:Int32).toInt ≤ (2:Int)) (by decide : (2:Int) ≤ 7))) rfl hX rfl (fun w18 gi18 gl18 gr18 l18 u18 hI hX hC18 q18 => ?_)
    have q18 : (∀ (b : Nat → Int32) (n q : Nat), t_TC b n q gi gl gr ar0 → t_FL gi18 ar0 (s_fk b n q 2) (s_F b n q)) ∧ w18.toInt = 0 ∧ t_on ar0 gi gl gr gi18 gl18 gr18 := q18
    replace p_a0 := p_a0.ext hC18.2
    exact ev_retZ f_X9_takeNumber rfl l18 (Int.le_trans u18 (by decide : (0:Int) ≤ 1)) ⟨_, _, _, rfl, hI, hX, ⟨_, rfl, l18, (Int.le_trans u18 (by decide : (0:Int) ≤ 1)), (show (∀ (b : Nat → Int32) (n q : Nat), t_TC b n q gi gl gr ar0 → (w18.toInt = 1 ∧ s_isV b n q ar1.toInt ar2.toInt ∧ t_TC b n (s_E b n q) gi18 gl18 gr18 ar0 ∧ t_nf gi gi18 ar0) ∨ (w18.toInt = 0 ∧ s_K b n q ≠ 3 ∧ t_FL gi18 ar0 (s_fk b n q 2) (s_F b n q)) ∨ (w18.toInt = 0 ∧ (s_K b n q = 3 ∧ ¬ s_isV b n q ar1.toInt ar2.toInt) ∧ t_FL gi18 ar0 (s_fk b n q 4) (s_F b n q))) ∧ t_on ar0 gi gl gr gi18 gl18 gr18 from ⟨fun b n q h => Or.inr (Or.inl ⟨q18.2.1, h.vK (by omega), (q18.1 b n q h)⟩), (t_on.tr t_on.rf q18.2.2)⟩)⟩⟩
